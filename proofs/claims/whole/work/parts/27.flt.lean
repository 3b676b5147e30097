/-! ===== floats: what is no NaN ===== -/
/-- not below zero, maybe infinite -/
def PF (x : UInt32) : Prop := FP.Core.val32 x = .inf false ∨ ∃ c q, FP.Core.val32 x = .fin false c q
/-- not below zero, finite -/
def FF (x : UInt32) : Prop := ∃ c q, FP.Core.val32 x = .fin false c q
theorem FF.pf {x : UInt32} (h : FF x) : PF x := Or.inr h
theorem PF.nn {x : UInt32} (h : PF x) : FP.Core.val32 x ≠ .nan := by
  rcases h with h | ⟨c, q, h⟩ <;> rw [h] <;> exact FP.Core.Datum.noConfusion
theorem half32 : FP.Core.half FP.Core.b32 = 2 ^ 31 := by decide
theorem inf32 : FP.Core.infBits FP.Core.b32 = 2139095040 := by decide
theorem n32_of {x : UInt32} (h : FP.Core.val32 x ≠ .nan) : vf_n32 x := by
  unfold vf_n32
  rw [UInt32.le_iff_toNat_le, UInt32.toNat_and, show (0x7fffffff : UInt32).toNat = 2 ^ 31 - 1 from rfl, Nat.and_two_pow_sub_one_eq_mod]
  have h1 : ¬ FP.Core.decode FP.Core.b32 x.toNat = .nan := h
  rw [FP.Core.decode_nan, inf32, FP.Core.mag, half32] at h1
  show _ ≤ 2139095040
  omega
theorem n64_of {x : UInt64} (h : FP.Core.val64 x ≠ .nan) : vf_n64 x := by
  unfold vf_n64
  rw [UInt64.le_iff_toNat_le, UInt64.toNat_and, show (0x7fffffffffffffff : UInt64).toNat = 2 ^ 63 - 1 from rfl, Nat.and_two_pow_sub_one_eq_mod]
  exact (FP.Core.ne_nan x).mp h
theorem rr_pf (A B : Nat) (e : Int) {x : UInt32} (h : FP.Core.val32 x = FP.Core.roundRatio FP.Core.b32 false A B e) : PF x := by
  rcases FP.Core.roundRatio_cases FP.Core.b32 false A B e with ⟨c, q, h1⟩ | h1
  · exact Or.inr ⟨c, q, h.trans h1⟩
  · exact Or.inl (h.trans h1)
theorem PF.add {x y : UInt32} (hx : PF x) (hy : PF y) : PF (FP.fadd x y) := by
  have h := FP.Core.val32_fadd x y
  rcases hx with hx | ⟨c, q, hx⟩
  · rcases hy with hy | ⟨d, r, hy⟩
    · rw [hx, hy] at h; exact Or.inl h
    · rw [hx, hy] at h; exact Or.inl h
  · rcases hy with hy | ⟨d, r, hy⟩
    · rw [hx, hy] at h; exact Or.inl h
    · rw [hx, hy] at h
      simp only [FP.Core.exactSum, FP.Core.round] at h
      have e1 : FP.Core.sumSign false false (FP.Core.sumUnits false c q false d r (min q r)) = false := by
        unfold FP.Core.sumSign
        split
        · rfl
        · simp only [FP.Core.sumUnits, FP.Core.signed, Bool.false_eq_true, if_false, decide_eq_false_iff_not]
          omega
      rw [e1] at h
      exact rr_pf _ _ _ h
theorem FF.mul {x y : UInt32} (hx : FF x) (hy : FF y) : PF (FP.fmul x y) := by
  have h := FP.Core.val32_fmul x y
  obtain ⟨c, q, hx⟩ := hx
  obtain ⟨d, r, hy⟩ := hy
  rw [hx, hy] at h
  exact rr_pf _ _ _ h
theorem ff_zero : FF FP.fconst0 := ⟨0, FP.Core.b32.qmin, by decide +kernel⟩
theorem nn_of_mag {x : UInt32} (h : FP.Core.mag FP.Core.b32 x.toNat < FP.Core.infBits FP.Core.b32) : ∃ s c q, FP.Core.val32 x = .fin s c q := by
  obtain ⟨s, c, q, h1, _⟩ := FP.Core.fin_of_mag FP.Core.good_b32 h
  exact ⟨s, c, q, h1⟩
theorem i2f_nat (n : Int32) : (FP.i2f n).toNat = FP.Core.fromInt FP.Core.b32 n.toInt := by
  have h1 := FP.Core.encode_lt FP.Core.good_b32 _ (FP.Core.round_fits FP.Core.good_b32 (FP.Core.ofInt n.toInt))
  rw [FP.Core.size_b32] at h1
  exact UInt32.toNat_ofNat_of_lt' h1
theorem i2f_mag {n : Int32} (K j : Nat) (h : n.toInt.natAbs ≤ 2 ^ j) (hK : 1 ≤ K) (hj : j + 150 ≤ 23 + K) : FP.Core.mag FP.Core.b32 (FP.i2f n).toNat ≤ K * FP.Core.b32.tails := by
  rw [i2f_nat]
  refine FP.Core.int_mag FP.Core.good_b32 h hK ?_
  have e : (-FP.Core.b32.qmin).toNat = 149 := by decide
  have e2 : FP.Core.b32.p - 1 = 23 := by decide
  omega
theorem tails32 : FP.Core.b32.tails = 8388608 := by decide
theorem FF.i2f {n : Int32} (h : 0 ≤ n.toInt) : FF (FP.i2f n) := by
  have hm := i2f_mag (n := n) 158 31 (by have := n.toInt_lt; omega) (by omega) (by omega)
  obtain ⟨s, c, q, h1⟩ := nn_of_mag (x := FP.i2f n) (by rw [inf32]; rw [tails32] at hm; omega)
  have h2 := FP.Core.val32_i2f n
  have e : FP.Core.ofInt n.toInt = .fin false n.toInt.natAbs 0 := by
    unfold FP.Core.ofInt
    rw [decide_eq_false (by omega)]
  rw [e] at h2
  rcases rr_pf _ _ _ h2 with h3 | h3
  · have h1 : FP.Core.val32 (FP.Core.i2f n) = .fin s c q := h1
    rw [h3] at h1; cases h1
  · exact h3
theorem FF.rate {n : Int32} (h0 : 0 ≤ n.toInt) (h : n.toInt ≤ 16384) : FF (FP.fdiv (FP.i2f n) 1120403456) := by
  have hm := i2f_mag (n := n) 141 14 (by omega) (by omega) (by omega)
  have e : (FP.fdiv (FP.i2f n) 1120403456).toNat = FP.Core.div FP.Core.b32 (FP.i2f n).toNat (1120403456 : UInt32).toNat := by
    have h1 := FP.Core.encode_lt FP.Core.good_b32 _ (FP.Core.quotient_fits FP.Core.good_b32 (FP.Core.decode FP.Core.b32 (FP.i2f n).toNat) (FP.Core.decode FP.Core.b32 (1120403456 : UInt32).toNat))
    rw [FP.Core.size_b32] at h1
    exact UInt32.toNat_ofNat_of_lt' h1
  have hq : FP.Core.mag FP.Core.b32 (FP.fdiv (FP.i2f n) 1120403456).toNat ≤ 200 * FP.Core.b32.tails := by
    rw [e]
    refine FP.Core.div_mag (Ka := 142) (L := 100) FP.Core.good_b32 ?_ (by decide) (by decide) (by decide) (by omega) (by omega) ?_
    · rw [tails32] at hm ⊢; omega
    · have e : (-FP.Core.b32.qmin).toNat = 149 := by decide
      have e2 : FP.Core.b32.p - 1 = 23 := by decide
      omega
  obtain ⟨s, c, q, h1⟩ := nn_of_mag (x := FP.fdiv (FP.i2f n) 1120403456) (by rw [inf32]; rw [tails32] at hq; omega)
  have h2 := FP.Core.val32_fdiv (FP.i2f n) 1120403456
  obtain ⟨a, b, h3⟩ := FF.i2f h0
  have h4 : FP.Core.val32 1120403456 = .fin false 13107200 (-17) := by decide +kernel
  rw [h3, h4] at h2
  rcases rr_pf _ _ _ h2 with h5 | h5
  · have h1 : FP.Core.val32 (FP.Core.fdiv (FP.Core.i2f n) 1120403456) = .fin s c q := h1
    rw [h5] at h1; cases h1
  · exact h5
/-- 1 - a / b for whole numbers a, b with b above zero -/
theorem nn_div {a b : Int32} (h0 : 0 ≤ a.toInt) (hb : 0 < b.toInt) : FP.Core.val32 (FP.fdiv (FP.i2f a) (FP.i2f b)) ≠ .nan := by
  have h2 := FP.Core.val32_fdiv (FP.i2f a) (FP.i2f b)
  obtain ⟨c, q, h3⟩ := FF.i2f h0
  obtain ⟨d, r, h4⟩ := FF.i2f (n := b) (by omega)
  have hd : ¬ d = 0 := by
    rintro rfl
    have hg := FP.Core.int_mag_ge (f := FP.Core.b32) FP.Core.good_b32 (i := b.toInt) (K := 1) (by omega) (by omega) (by decide) (by decide)
    rw [← i2f_nat] at hg
    have hz := FP.Core.zmag_bits32 (a := FP.i2f b) (by rw [h4]; exact FP.Core.Datum.noConfusion)
    rw [h4] at hz
    have e0 : FP.Core.zmag FP.Core.b32 (.fin false 0 r) = 0 := by simp [FP.Core.zmag, FP.Core.inUnits]
    rw [e0] at hz
    have := FP.Core.unitsOf_eq_zero.mp hz.symm
    rw [FP.Core.mag, half32, tails32] at hg
    omega
  rw [h3, h4] at h2
  simp only [FP.Core.quotient, if_neg hd] at h2
  show FP.Core.val32 (FP.Core.fdiv _ _) ≠ _
  rw [h2]
  exact FP.Core.roundRatio_ne_nan _ _ _ _ _
theorem nn_sub {y : UInt32} (h : FP.Core.val32 y ≠ .nan) : FP.Core.val32 (FP.fsub FP.fconst1 y) ≠ .nan := by
  have h2 := FP.Core.val32_fsub FP.fconst1 y
  have h4 : FP.Core.val32 FP.fconst1 = .fin false 8388608 (-23) := by decide +kernel
  rw [h4] at h2
  show FP.Core.val32 (FP.Core.fsub _ _) ≠ _
  rw [h2]
  cases h5 : FP.Core.val32 y with
  | nan => exact absurd h5 h
  | inf s => exact FP.Core.Datum.noConfusion
  | fin s c q => exact FP.Core.roundRatio_ne_nan _ _ _ _ _
theorem nn_f2d {x : UInt32} (h : FP.Core.val32 x ≠ .nan) : FP.Core.val64 (FP.f2d x) ≠ .nan := by
  have e : FP.Core.fIsNaN x = false := by
    unfold FP.Core.fIsNaN FP.Core.isNaN
    exact decide_eq_false h
  unfold FP.f2d
  rw [e, if_neg (by decide), FP.Core.val64_f2d]
  cases h5 : FP.Core.val32 x with
  | nan => exact absurd h5 h
  | inf s => exact FP.Core.Datum.noConfusion
  | fin s c q => exact FP.Core.roundRatio_ne_nan _ _ _ _ _
theorem dcmp_self {x : UInt64} (h : FP.Core.val64 x ≠ .nan) : FP.dcmp x x = some .eq := FP.Core.dcmp_eq.mpr ⟨h, h, rfl⟩
