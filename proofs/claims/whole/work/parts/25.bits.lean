/-! ===== bits of longs and ints ===== -/
def testL (w : Int64) (k : Nat) : Bool := w.toBitVec.getLsbD k
def testI (w : Int32) (k : Nat) : Bool := w.toBitVec.getLsbD k
theorem bl_shl : ∀ k, k < 64 → ((1 : Int64) <<< ((nI k).toInt64 &&& 63)).toBitVec = 1#64 <<< k := by decide +kernel
theorem bl_one : ∀ k, k < 64 → ∀ i, i < 64 → (1#64 <<< k).getLsbD i = decide (i = k) := by decide +kernel
theorem bl_sh : ∀ k, k < 64 → ((nI k).toInt64.toUInt64 &&& Int64.toUInt64 63).toNat = k := by decide +kernel
theorem bi_shl : ∀ k, k < 32 → ((nI 1) <<< (nI k &&& 31)).toBitVec = 1#32 <<< k := by decide +kernel
theorem bi_one : ∀ k, k < 32 → ∀ i, i < 32 → (1#32 <<< k).getLsbD i = decide (i = k) := by decide +kernel
theorem bl_or {w : Int64} {k i : Nat} (hk : k < 64) (hi : i < 64) : testL (w ||| ((1 : Int64) <<< ((nI k).toInt64 &&& 63))) i = (testL w i || decide (i = k)) := by
  unfold testL
  rw [Int64.toBitVec_or, BitVec.getLsbD_or, bl_shl k hk, bl_one k hk i hi]
theorem bi_or {w : Int32} {k i : Nat} (hk : k < 32) (hi : i < 32) : testI (w ||| (nI 1 <<< (nI k &&& 31))) i = (testI w i || decide (i = k)) := by
  unfold testI
  rw [Int32.toBitVec_or, BitVec.getLsbD_or, bi_shl k hk, bi_one k hk i hi]
theorem bl_and1 (x : BitVec 64) : (x &&& 1#64 = 0#64) ↔ x.getLsbD 0 = false := by
  constructor
  · intro h
    have := congrArg (fun z : BitVec 64 => z.getLsbD 0) h
    simpa using this
  · intro h
    apply BitVec.eq_of_getLsbD_eq
    intro i hi
    rw [BitVec.getLsbD_and, BitVec.getLsbD_one]
    by_cases e : i = 0
    · subst e; rw [h]; rfl
    · simp [e]
theorem bi_and1 (x : BitVec 32) : (x &&& 1#32 = 1#32) ↔ x.getLsbD 0 = true := by
  constructor
  · intro h
    have := congrArg (fun z : BitVec 32 => z.getLsbD 0) h
    simpa using this
  · intro h
    apply BitVec.eq_of_getLsbD_eq
    intro i hi
    rw [BitVec.getLsbD_and, BitVec.getLsbD_one]
    by_cases e : i = 0
    · subst e; rw [h]; rfl
    · simp [e]
theorem bl_read {w : Int64} {k : Nat} (hk : k < 64) : (w.toUInt64 >>> ((nI k).toInt64.toUInt64 &&& Int64.toUInt64 63)).toInt64 &&& 1 = 0 ↔ testL w k = false := by
  rw [← Int64.toBitVec_inj, Int64.toBitVec_and]
  show ((w.toUInt64 >>> ((nI k).toInt64.toUInt64 &&& Int64.toUInt64 63)).toBitVec &&& 1#64 = 0#64) ↔ _
  rw [bl_and1, UInt64.toBitVec_shiftRight]
  have e : ((nI k).toInt64.toUInt64 &&& Int64.toUInt64 63).toBitVec.toNat = k := bl_sh k hk
  unfold testL
  have h2 : (((nI k).toInt64.toUInt64 &&& Int64.toUInt64 63).toBitVec % 64).toNat = k := by
    rw [BitVec.toNat_umod, e]
    show k % 64 = k
    omega
  rw [BitVec.ushiftRight_eq', h2, BitVec.getLsbD_ushiftRight, Nat.add_zero]
  rfl
theorem bi_sh : ∀ k, k < 32 → ((nI k &&& 31).toBitVec.smod 32).toNat = k := by decide +kernel
theorem bi_read {w : Int32} {k : Nat} (hk : k < 32) : (w >>> (nI k &&& 31)) &&& nI 1 = nI 1 ↔ testI w k = true := by
  rw [← Int32.toBitVec_inj, Int32.toBitVec_and, Int32.toBitVec_shiftRight]
  show (_ &&& 1#32 = 1#32) ↔ _
  rw [bi_and1]
  unfold testI
  rw [BitVec.sshiftRight_eq', bi_sh k hk, BitVec.getLsbD_sshiftRight, Nat.add_zero]
  simp [hk]
theorem nI_d64 : ∀ a, a < 200 → nI a / nI 64 = nI (a / 64) := by decide +kernel
theorem nI_r64 : ∀ a, a < 200 → nI a - nI a / nI 64 * nI 64 = nI (a % 64) := by decide +kernel
theorem nI_d32 : ∀ a, a < 200 → nI a / nI 32 = nI (a / 32) := by decide +kernel
theorem nI_r32 : ∀ a, a < 200 → nI a - nI a / nI 32 * nI 32 = nI (a % 32) := by decide +kernel
theorem lg_cmp0 {x y : Int64} : lg_cmp x y = 0 ↔ x = y := by
  unfold lg_cmp
  by_cases h1 : x > y
  · rw [if_pos h1]
    constructor
    · intro h; exact absurd h (by decide)
    · intro h; subst h; exact absurd h1 Int64.lt_irrefl
  · rw [if_neg h1]
    by_cases h2 : x = y
    · rw [if_pos h2]; exact ⟨fun _ => h2, fun _ => rfl⟩
    · rw [if_neg h2]
      constructor
      · intro h; exact absurd h (by decide)
      · intro h; exact absurd h h2
