/-! ===== Pools ===== -/
def PoolsAt (h : AH) (p n : Nat) (qu ra : Nat → Int32) (re : Nat → UInt32) (le ln : Nat → Int32) : Prop := h.2 p = some (.inr (6, [.int (nI n), .ref (p + 1), .ref (p + 2), .ref (p + 3), .ref (p + 4), .ref (p + 5)])) ∧ h.2 (p + 1) = some (.inl (.int, 8, .inl qu)) ∧ h.2 (p + 2) = some (.inl (.int, 8, .inl ra)) ∧ h.2 (p + 3) = some (.inl (.float, 8, .inr (.inr (.inl re)))) ∧ h.2 (p + 4) = some (.inl (.int, 48, .inl le)) ∧ h.2 (p + 5) = some (.inl (.int, 8, .inl ln))
section
variable {h h' : AH} {p n lo hi : Nat} {qu ra le ln : Nat → Int32} {re : Nat → UInt32}
theorem PoolsAt.fr (hM : PoolsAt h p n qu ra re le ln) (hF : ax_fr lo hi h h') (hd : hi ≤ p ∨ p + 6 ≤ lo) : PoolsAt h' p n qu ra re le ln := ⟨hF.get hM.1 (by omega), hF.get hM.2.1 (by omega), hF.get hM.2.2.1 (by omega), hF.get hM.2.2.2.1 (by omega), hF.get hM.2.2.2.2.1 (by omega), hF.get hM.2.2.2.2.2 (by omega)⟩
theorem PoolsAt.setN (hM : PoolsAt h p n qu ra re le ln) (m : Nat) : PoolsAt (ax_set h p (.inr (6, [.int (nI m), .ref (p + 1), .ref (p + 2), .ref (p + 3), .ref (p + 4), .ref (p + 5)]))) p m qu ra re le ln := ⟨ax_set_self _ _ _, (ax_set_ne _ _ (by omega)).trans hM.2.1, (ax_set_ne _ _ (by omega)).trans hM.2.2.1, (ax_set_ne _ _ (by omega)).trans hM.2.2.2.1, (ax_set_ne _ _ (by omega)).trans hM.2.2.2.2.1, (ax_set_ne _ _ (by omega)).trans hM.2.2.2.2.2⟩
theorem PoolsAt.setQ (hM : PoolsAt h p n qu ra re le ln) (f : Nat → Int32) : PoolsAt (ax_set h (p + 1) (.inl (.int, 8, .inl f))) p n f ra re le ln := ⟨(ax_set_ne _ _ (by omega)).trans hM.1, ax_set_self _ _ _, (ax_set_ne _ _ (by omega)).trans hM.2.2.1, (ax_set_ne _ _ (by omega)).trans hM.2.2.2.1, (ax_set_ne _ _ (by omega)).trans hM.2.2.2.2.1, (ax_set_ne _ _ (by omega)).trans hM.2.2.2.2.2⟩
theorem PoolsAt.setR (hM : PoolsAt h p n qu ra re le ln) (f : Nat → Int32) : PoolsAt (ax_set h (p + 2) (.inl (.int, 8, .inl f))) p n qu f re le ln := ⟨(ax_set_ne _ _ (by omega)).trans hM.1, (ax_set_ne _ _ (by omega)).trans hM.2.1, ax_set_self _ _ _, (ax_set_ne _ _ (by omega)).trans hM.2.2.2.1, (ax_set_ne _ _ (by omega)).trans hM.2.2.2.2.1, (ax_set_ne _ _ (by omega)).trans hM.2.2.2.2.2⟩
theorem PoolsAt.setT (hM : PoolsAt h p n qu ra re le ln) (f : Nat → UInt32) : PoolsAt (ax_set h (p + 3) (.inl (.float, 8, .inr (.inr (.inl f))))) p n qu ra f le ln := ⟨(ax_set_ne _ _ (by omega)).trans hM.1, (ax_set_ne _ _ (by omega)).trans hM.2.1, (ax_set_ne _ _ (by omega)).trans hM.2.2.1, ax_set_self _ _ _, (ax_set_ne _ _ (by omega)).trans hM.2.2.2.2.1, (ax_set_ne _ _ (by omega)).trans hM.2.2.2.2.2⟩
theorem PoolsAt.setL (hM : PoolsAt h p n qu ra re le ln) (f : Nat → Int32) : PoolsAt (ax_set h (p + 4) (.inl (.int, 48, .inl f))) p n qu ra re f ln := ⟨(ax_set_ne _ _ (by omega)).trans hM.1, (ax_set_ne _ _ (by omega)).trans hM.2.1, (ax_set_ne _ _ (by omega)).trans hM.2.2.1, (ax_set_ne _ _ (by omega)).trans hM.2.2.2.1, ax_set_self _ _ _, (ax_set_ne _ _ (by omega)).trans hM.2.2.2.2.2⟩
theorem PoolsAt.setG (hM : PoolsAt h p n qu ra re le ln) (f : Nat → Int32) : PoolsAt (ax_set h (p + 5) (.inl (.int, 8, .inl f))) p n qu ra re le f := ⟨(ax_set_ne _ _ (by omega)).trans hM.1, (ax_set_ne _ _ (by omega)).trans hM.2.1, (ax_set_ne _ _ (by omega)).trans hM.2.2.1, (ax_set_ne _ _ (by omega)).trans hM.2.2.2.1, (ax_set_ne _ _ (by omega)).trans hM.2.2.2.2.1, ax_set_self _ _ _⟩
end
/-- the first of g from j on -/
def fstG (P : Nat → Bool) : Nat → Nat → Option Nat
  | 0, _ => none
  | g + 1, j => if P j = true then some j else fstG P g (j + 1)
def nameB (le ln : Nat → Int32) (bs : Nat → Int32) (s len j : Nat) : Bool := decide (ln j = nI len ∧ ∀ i, i < len → le (j * 6 + i) = bs (s + i))
/-- the letters behind a pool was opened -/
def opnL (le bs : Nat → Int32) (n s len : Nat) : Nat → Int32 := fun i => if n * 6 ≤ i ∧ i < n * 6 + min len 6 then bs (s + (i - n * 6)) else le i
/-- the sum of the rents -/
def rntS (re : Nat → UInt32) : Nat → UInt32
  | 0 => FP.fconst0
  | j + 1 => FP.fadd (rntS re j) (re j)
section
variable {Γ : GE} {h : AH} {Q : PO} {p n : Nat} {qu ra le ln : Nat → Int32} {re : Nat → UInt32} {x : Int32}
theorem s_X6_init (hO : h.2 p = some (.inr (6, [.int 0, .null, .null, .null, .null, .null]))) (hz : h.1 = p + 1) (hA : Γ.2.1 ≤ p)
    (k : ∀ h', h'.1 = p + 6 → (∀ a, a < p → h'.2 a = h.2 a) → PoolsAt h' p 0 (fun _ => 0) (fun _ => 0) (fun _ => 0) (fun _ => 0) (fun _ => 0) → Q (.inl none) h') : WP Γ MX6_init (1, 60, 5, 80) 0 [some (.ref p)] [] h Q := by
  refine wp_aload_n (n := 1) dX6_init_0 rfl rfl ?_
  refine wp_objInit (n := 4) dX6_init_1 rfl olX6_3 ax_oi ax_oc rfl rfl ?_
  refine wp_aload_n (n := 5) dX6_init_4 rfl rfl ?_
  refine wp_iconst (n := 6) (v := 0) dX6_init_5 rfl (by decide) ?_
  refine wp_putf (n := 9) dX6_init_6 rfl flX6_9 (by repeat first | assumption | exact ax_set_self _ _ _ | exact ax_newA_self _ _ _ | refine (ax_set_ne _ _ (by omega)).trans ?_ | refine (ax_newA_ne _ _ _ (by omega)).trans ?_) (by omega) (by rfl) rfl rfl ?_
  refine wp_aload_n (n := 10) dX6_init_9 rfl rfl ?_
  refine wp_bipush (n := 12) (v := nI 8) dX6_init_10 rfl (by decide) ?_
  refine wp_newaA (n := 14) (p + 1) 8 (ty := .int) (8, .inl (fun _ => 0)) dX6_init_12 rfl hz rfl ac_int rfl (by decide) rfl (fun _ => rfl) (fun _ q => by cases q) (by decide) rfl rfl ?_
  refine wp_putF (n := 17) dX6_init_14 rfl flX6_15 rfl rfl (by repeat first | assumption | exact ax_set_self _ _ _ | exact ax_newA_self _ _ _ | refine (ax_set_ne _ _ (by omega)).trans ?_ | refine (ax_newA_ne _ _ _ (by omega)).trans ?_) (by omega) (by rfl) rfl rfl ?_
  refine wp_aload_n (n := 18) dX6_init_17 rfl rfl ?_
  refine wp_bipush (n := 20) (v := nI 8) dX6_init_18 rfl (by decide) ?_
  refine wp_newaA (n := 22) (p + 2) 8 (ty := .int) (8, .inl (fun _ => 0)) dX6_init_20 rfl rfl rfl ac_int rfl (by decide) rfl (fun _ => rfl) (fun _ q => by cases q) (by decide) rfl rfl ?_
  refine wp_putF (n := 25) dX6_init_22 rfl flX6_19 rfl rfl (by repeat first | assumption | exact ax_set_self _ _ _ | exact ax_newA_self _ _ _ | refine (ax_set_ne _ _ (by omega)).trans ?_ | refine (ax_newA_ne _ _ _ (by omega)).trans ?_) (by omega) (by rfl) rfl rfl ?_
  refine wp_aload_n (n := 26) dX6_init_25 rfl rfl ?_
  refine wp_bipush (n := 28) (v := nI 8) dX6_init_26 rfl (by decide) ?_
  refine wp_newaA (n := 30) (p + 3) 8 (ty := .float) (8, .inr (.inr (.inl (fun _ => 0)))) dX6_init_28 rfl rfl rfl ac_float rfl (by decide) rfl (fun _ => rfl) (fun _ q => by cases q) (by decide) rfl rfl ?_
  refine wp_putF (n := 33) dX6_init_30 rfl flX6_22 rfl rfl (by repeat first | assumption | exact ax_set_self _ _ _ | exact ax_newA_self _ _ _ | refine (ax_set_ne _ _ (by omega)).trans ?_ | refine (ax_newA_ne _ _ _ (by omega)).trans ?_) (by omega) (by rfl) rfl rfl ?_
  refine wp_aload_n (n := 34) dX6_init_33 rfl rfl ?_
  refine wp_bipush (n := 36) (v := nI 48) dX6_init_34 rfl (by decide) ?_
  refine wp_newaA (n := 38) (p + 4) 48 (ty := .int) (48, .inl (fun _ => 0)) dX6_init_36 rfl rfl rfl ac_int rfl (by decide) rfl (fun _ => rfl) (fun _ q => by cases q) (by decide) rfl rfl ?_
  refine wp_putF (n := 41) dX6_init_38 rfl flX6_26 rfl rfl (by repeat first | assumption | exact ax_set_self _ _ _ | exact ax_newA_self _ _ _ | refine (ax_set_ne _ _ (by omega)).trans ?_ | refine (ax_newA_ne _ _ _ (by omega)).trans ?_) (by omega) (by rfl) rfl rfl ?_
  refine wp_aload_n (n := 42) dX6_init_41 rfl rfl ?_
  refine wp_bipush (n := 44) (v := nI 8) dX6_init_42 rfl (by decide) ?_
  refine wp_newaA (n := 46) (p + 5) 8 (ty := .int) (8, .inl (fun _ => 0)) dX6_init_44 rfl rfl rfl ac_int rfl (by decide) rfl (fun _ => rfl) (fun _ q => by cases q) (by decide) rfl rfl ?_
  refine wp_putF (n := 49) dX6_init_46 rfl flX6_29 rfl rfl (by repeat first | assumption | exact ax_set_self _ _ _ | exact ax_newA_self _ _ _ | refine (ax_set_ne _ _ (by omega)).trans ?_ | refine (ax_newA_ne _ _ _ (by omega)).trans ?_) (by omega) (by rfl) rfl rfl ?_
  refine wp_return dX6_init_49 rfl (k _ rfl (fun a ha => ?_) ⟨?_, ?_, ?_, ?_, ?_, ?_⟩)
  · repeat first | rfl | refine (ax_set_ne _ _ (by omega)).trans ?_ | refine (ax_newA_ne _ _ _ (by omega)).trans ?_
  all_goals repeat first | assumption | exact ax_set_self _ _ _ | exact ax_newA_self _ _ _ | refine (ax_set_ne _ _ (by omega)).trans ?_ | refine (ax_newA_ne _ _ _ (by omega)).trans ?_
theorem s_X6_setTerms {j : Nat} {a b : Int32} (hM : PoolsAt h p n qu ra re le ln) (hA : Γ.2.1 ≤ p) (hj : j < 8)
    (k : ∀ h', ax_fr p (p + 6) h h' → PoolsAt h' p n (upd qu j a) (upd ra j b) re le ln → Q (.inl none) h') : WP Γ MX6_setTerms (0, 0, 0, 0) 0 [some (.ref p), some (.int (nI j)), some (.int a), some (.int b)] [] h Q := by
  have hM0 := hM
  obtain ⟨hO, h1, h2, h3, h4, h5⟩ := hM
  refine wp_aload_n (n := 1) dX6_setTerms_0 rfl rfl ?_
  refine wp_getf (n := 4) dX6_setTerms_1 rfl flX6_15 (by repeat first | assumption | exact ax_set_self _ _ _ | exact ax_newA_self _ _ _ | refine (ax_set_ne _ _ (by omega)).trans ?_ | refine (ax_newA_ne _ _ _ (by omega)).trans ?_) (by rfl) ?_
  refine wp_iload_n (n := 5) dX6_setTerms_4 rfl rfl ?_
  refine wp_iload_n (n := 6) dX6_setTerms_5 rfl rfl ?_
  refine wp_iast (n := 7) _ dX6_setTerms_6 rfl (by repeat first | assumption | exact ax_set_self _ _ _ | exact ax_newA_self _ _ _ | refine (ax_set_ne _ _ (by omega)).trans ?_ | refine (ax_newA_ne _ _ _ (by omega)).trans ?_) (by omega) rfl (by omega) (by decide) ?_
  refine wp_aload_n (n := 8) dX6_setTerms_7 rfl rfl ?_
  refine wp_getf (n := 11) dX6_setTerms_8 rfl flX6_19 (by repeat first | assumption | exact ax_set_self _ _ _ | exact ax_newA_self _ _ _ | refine (ax_set_ne _ _ (by omega)).trans ?_ | refine (ax_newA_ne _ _ _ (by omega)).trans ?_) (by rfl) ?_
  refine wp_iload_n (n := 12) dX6_setTerms_11 rfl rfl ?_
  refine wp_iload_n (n := 13) dX6_setTerms_12 rfl rfl ?_
  refine wp_iast (n := 14) _ dX6_setTerms_13 rfl (by repeat first | assumption | exact ax_set_self _ _ _ | exact ax_newA_self _ _ _ | refine (ax_set_ne _ _ (by omega)).trans ?_ | refine (ax_newA_ne _ _ _ (by omega)).trans ?_) (by omega) rfl (by omega) (by decide) ?_
  exact wp_return dX6_setTerms_14 rfl (k _ ((ax_fr.set (lo := p) (hi := p + 6) (by omega)).put (by omega)) ((hM0.setQ _).setR _))
theorem s_X6_letter {j m : Nat} (hM : PoolsAt h p n qu ra re le ln) (hj : j < 8) (hm : ln j = nI m) (hm6 : m ≤ 6)
    (k : Q (.inl (some (.int (if 0 ≤ x ∧ x < nI m then le (j * 6 + x.toInt.toNat) else -1)))) h) : WP Γ MX6_letter (0, 0, 0, 0) 0 [some (.ref p), some (.int (nI j)), some (.int x)] [] h Q := by
  have hM0 := hM
  obtain ⟨hO, h1, h2, h3, h4, h5⟩ := hM
  refine wp_iload_n (n := 1) dX6_letter_0 rfl rfl ?_
  refine wp_if_lt (t := 14) (n := 4) dX6_letter_1 (by decide) rfl (fun hc => ?_) (fun hc => ?_)
  · refine wp_iconst (n := 15) (v := (-1)) dX6_letter_14 rfl (by decide) ?_
    rw [if_neg (fun q => absurd hc (Int32.not_lt.mpr q.1))] at k
    exact wp_ireturn dX6_letter_15 rfl rfl (k)
  · refine wp_iload_n (n := 5) dX6_letter_4 rfl rfl ?_
    refine wp_aload_n (n := 6) dX6_letter_5 rfl rfl ?_
    refine wp_getf (n := 9) dX6_letter_6 rfl flX6_29 (by repeat first | assumption | exact ax_set_self _ _ _ | exact ax_newA_self _ _ _ | refine (ax_set_ne _ _ (by omega)).trans ?_ | refine (ax_newA_ne _ _ _ (by omega)).trans ?_) (by rfl) ?_
    refine wp_iload_n (n := 10) dX6_letter_9 rfl rfl ?_
    refine wp_iald (n := 11) _ dX6_letter_10 rfl (by repeat first | assumption | exact ax_set_self _ _ _ | exact ax_newA_self _ _ _ | refine (ax_set_ne _ _ (by omega)).trans ?_ | refine (ax_newA_ne _ _ _ (by omega)).trans ?_) rfl (by omega) (by decide) ?_
    rw [hm]
    refine wp_icmp_lt (t := 16) (n := 14) dX6_letter_11 (by decide) rfl (fun hq => ?_) (fun hq => ?_)
    · have hq0 : 0 ≤ x := i32_not_lt hc
      rw [if_pos ⟨hq0, hq⟩] at k
      have e1 : x = nI x.toInt.toNat := by
        have : 0 ≤ x.toInt := Int32.le_iff_toInt_le.mp hq0
        rw [← Int32.toInt_inj, nI_toInt (by have := x.toInt_lt; omega)]
        omega
      have e2 : x.toInt.toNat < 6 := by
        rw [e1, nI_lt9 (by have := x.toInt_lt; omega) (by omega)] at hq
        omega
      generalize x.toInt.toNat = i at k e1 e2
      subst e1
      refine wp_aload_n (n := 17) dX6_letter_16 rfl rfl ?_
      refine wp_getf (n := 20) dX6_letter_17 rfl flX6_26 (by repeat first | assumption | exact ax_set_self _ _ _ | exact ax_newA_self _ _ _ | refine (ax_set_ne _ _ (by omega)).trans ?_ | refine (ax_newA_ne _ _ _ (by omega)).trans ?_) (by rfl) ?_
      refine wp_iload_n (n := 21) dX6_letter_20 rfl rfl ?_
      refine wp_bipush (n := 23) (v := nI 6) dX6_letter_21 rfl (by decide) ?_
      refine wp_imul (n := 24) dX6_letter_23 rfl ?_
      refine wp_iload_n (n := 25) dX6_letter_24 rfl rfl ?_
      refine wp_iadd (n := 26) dX6_letter_25 rfl ?_
      refine wp_iald (n := 27) (j * 6 + i) dX6_letter_26 rfl (by repeat first | assumption | exact ax_set_self _ _ _ | exact ax_newA_self _ _ _ | refine (ax_set_ne _ _ (by omega)).trans ?_ | refine (ax_newA_ne _ _ _ (by omega)).trans ?_) (by simp only [nI_zero, nI_mul, nI_add]) (by omega) (by omega) ?_
      exact wp_ireturn dX6_letter_27 rfl rfl (k)
    · refine wp_iconst (n := 15) (v := (-1)) dX6_letter_14 rfl (by decide) ?_
      rw [if_neg (fun q => hq q.2)] at k
      exact wp_ireturn dX6_letter_15 rfl rfl (k)
theorem s_X6_hasName {j m ba N s : Nat} {bs : Nat → Int32} (hM : PoolsAt h p n qu ra re le ln) (hB : h.2 ba = some (.inl (.int, N, .inl bs))) (hj : j < 8) (hm : ln j = nI m) (hm6 : m ≤ 6) (hs : s + m ≤ N) (hN : N < 2147483648)
    (k : Q (.inl (some (.int (bI (decide (∀ i, i < m → le (j * 6 + i) = bs (s + i))))))) h) : WP Γ MX6_hasName (0, 0, 0, 0) 0 [some (.ref p), some (.int (nI j)), some (.ref ba), some (.int (nI s)), none] [] h Q := by
  have hM0 := hM
  obtain ⟨hO, h1, h2, h3, h4, h5⟩ := hM
  refine wp_iconst (n := 1) (v := 0) dX6_hasName_0 rfl (by decide) ?_
  refine wp_istore (n := 3) dX6_hasName_1 rfl rfl rfl rfl ?_
  suffices L : ∀ i, i ≤ m → (∀ i', i' < i → le (j * 6 + i') = bs (s + i')) → WP Γ MX6_hasName (0, 0, 0, 0) 3 [some (.ref p), some (.int (nI j)), some (.ref ba), some (.int (nI s)), some (.int (nI i))] [] h Q from L 0 (Nat.zero_le _) (fun _ q => absurd q (Nat.not_lt_zero _))
  refine ax_up m (fun i hi ih => ?_)
  intro hp
  refine wp_iload (n := 5) dX6_hasName_3 rfl rfl ?_
  refine wp_aload_n (n := 6) dX6_hasName_5 rfl rfl ?_
  refine wp_getf (n := 9) dX6_hasName_6 rfl flX6_29 (by repeat first | assumption | exact ax_set_self _ _ _ | exact ax_newA_self _ _ _ | refine (ax_set_ne _ _ (by omega)).trans ?_ | refine (ax_newA_ne _ _ _ (by omega)).trans ?_) (by rfl) ?_
  refine wp_iload_n (n := 10) dX6_hasName_9 rfl rfl ?_
  refine wp_iald (n := 11) _ dX6_hasName_10 rfl (by repeat first | assumption | exact ax_set_self _ _ _ | exact ax_newA_self _ _ _ | refine (ax_set_ne _ _ (by omega)).trans ?_ | refine (ax_newA_ne _ _ _ (by omega)).trans ?_) rfl (by omega) (by decide) ?_
  rw [hm]
  refine wp_icmp_ge (t := 43) (n := 14) dX6_hasName_11 (by decide) rfl (fun hc => ?_) (fun hc => ?_)
  · rw [nI_le9 (by omega) (by omega)] at hc
    obtain rfl : i = m := by omega
    rw [decide_eq_true hp] at k
    refine wp_iconst (n := 44) (v := nI 1) dX6_hasName_43 rfl (by decide) ?_
    exact wp_ireturn dX6_hasName_44 rfl rfl (k)
  · rw [nI_le9 (by omega) (by omega)] at hc
    refine wp_aload_n (n := 15) dX6_hasName_14 rfl rfl ?_
    refine wp_getf (n := 18) dX6_hasName_15 rfl flX6_26 (by repeat first | assumption | exact ax_set_self _ _ _ | exact ax_newA_self _ _ _ | refine (ax_set_ne _ _ (by omega)).trans ?_ | refine (ax_newA_ne _ _ _ (by omega)).trans ?_) (by rfl) ?_
    refine wp_iload_n (n := 19) dX6_hasName_18 rfl rfl ?_
    refine wp_bipush (n := 21) (v := nI 6) dX6_hasName_19 rfl (by decide) ?_
    refine wp_imul (n := 22) dX6_hasName_21 rfl ?_
    refine wp_iload (n := 24) dX6_hasName_22 rfl rfl ?_
    refine wp_iadd (n := 25) dX6_hasName_24 rfl ?_
    refine wp_iald (n := 26) (j * 6 + i) dX6_hasName_25 rfl (by repeat first | assumption | exact ax_set_self _ _ _ | exact ax_newA_self _ _ _ | refine (ax_set_ne _ _ (by omega)).trans ?_ | refine (ax_newA_ne _ _ _ (by omega)).trans ?_) (by simp only [nI_zero, nI_mul, nI_add]) (by omega) (by omega) ?_
    refine wp_aload_n (n := 27) dX6_hasName_26 rfl rfl ?_
    refine wp_iload_n (n := 28) dX6_hasName_27 rfl rfl ?_
    refine wp_iload (n := 30) dX6_hasName_28 rfl rfl ?_
    refine wp_iadd (n := 31) dX6_hasName_30 rfl ?_
    refine wp_iald (n := 32) (s + i) dX6_hasName_31 rfl (by repeat first | assumption | exact ax_set_self _ _ _ | exact ax_newA_self _ _ _ | refine (ax_set_ne _ _ (by omega)).trans ?_ | refine (ax_newA_ne _ _ _ (by omega)).trans ?_) (by simp only [nI_zero, nI_mul, nI_add]) (by omega) (by omega) ?_
    refine wp_icmp_eq (t := 37) (n := 35) dX6_hasName_32 (by decide) rfl (fun hq => ?_) (fun hq => ?_)
    · refine wp_iinc (n := 40) dX6_hasName_37 rfl rfl (nI_inc i) rfl rfl rfl ?_
      refine wp_goto (t := 3) dX6_hasName_40 (by decide) ?_
      refine ih (by omega) (fun i' h' => ?_)
      by_cases e : i' = i
      · subst e; exact hq
      · exact hp i' (by omega)
    · refine wp_iconst (n := 36) (v := 0) dX6_hasName_35 rfl (by decide) ?_
      rw [decide_eq_false (fun q => hq (q i (by omega)))] at k
      exact wp_ireturn dX6_hasName_36 rfl rfl (k)
theorem s_X6_find {ba N s len : Nat} {bs : Nat → Int32} (hM : PoolsAt h p n qu ra re le ln) (hn : n ≤ 8) (hL : ∀ j, j < n → ∃ m, ln j = nI m ∧ m ≤ 6) (hB : h.2 ba = some (.inl (.int, N, .inl bs))) (hs : s + len ≤ N) (hN : N < 2147483648)
    (k : Q (.inl (some (.int (oI (fstG (nameB le ln bs s len) n 0))))) h) : WP Γ MX6_find (1, 24, 0, 0) 0 [some (.ref p), some (.ref ba), some (.int (nI s)), some (.int (nI len)), none] [] h Q := by
  have hM0 := hM
  obtain ⟨hO, h1, h2, h3, h4, h5⟩ := hM
  refine wp_iconst (n := 1) (v := 0) dX6_find_0 rfl (by decide) ?_
  refine wp_istore (n := 3) dX6_find_1 rfl rfl rfl rfl ?_
  suffices L : ∀ g j, j + g = n → Q (.inl (some (.int (oI (fstG (nameB le ln bs s len) g j))))) h → WP Γ MX6_find (1, 24, 0, 0) 3 [some (.ref p), some (.ref ba), some (.int (nI s)), some (.int (nI len)), some (.int (nI j))] [] h Q from L n 0 (by omega) k
  intro g
  induction g with
  | zero =>
    intro j hj k
    refine wp_iload (n := 5) dX6_find_3 rfl rfl ?_
    refine wp_aload_n (n := 6) dX6_find_5 rfl rfl ?_
    refine wp_getf (n := 9) dX6_find_6 rfl flX6_9 (by repeat first | assumption | exact ax_set_self _ _ _ | exact ax_newA_self _ _ _ | refine (ax_set_ne _ _ (by omega)).trans ?_ | refine (ax_newA_ne _ _ _ (by omega)).trans ?_) (by rfl) ?_
    refine wp_icmp_ge (t := 43) (n := 12) dX6_find_9 (by decide) rfl (fun hc => ?_) (fun hc => ?_)
    · refine wp_iconst (n := 44) (v := (-1)) dX6_find_43 rfl (by decide) ?_
      exact wp_ireturn dX6_find_44 rfl rfl (k)
    · rw [nI_le9 (by omega) (by omega)] at hc
      exact absurd (by omega) hc
  | succ g ih =>
    intro j hj k
    refine wp_iload (n := 5) dX6_find_3 rfl rfl ?_
    refine wp_aload_n (n := 6) dX6_find_5 rfl rfl ?_
    refine wp_getf (n := 9) dX6_find_6 rfl flX6_9 (by repeat first | assumption | exact ax_set_self _ _ _ | exact ax_newA_self _ _ _ | refine (ax_set_ne _ _ (by omega)).trans ?_ | refine (ax_newA_ne _ _ _ (by omega)).trans ?_) (by rfl) ?_
    refine wp_icmp_ge (t := 43) (n := 12) dX6_find_9 (by decide) rfl (fun hc => ?_) (fun hc => ?_)
    · rw [nI_le9 (by omega) (by omega)] at hc
      exact absurd hc (by omega)
    · have N1 : ¬ nameB le ln bs s len j = true → WP Γ MX6_find (1, 24, 0, 0) 37 [some (.ref p), some (.ref ba), some (.int (nI s)), some (.int (nI len)), some (.int (nI j))] [] h Q := by
        intro hno
        refine wp_iinc (n := 40) dX6_find_37 rfl rfl (nI_inc j) rfl rfl rfl ?_
        refine wp_goto (t := 3) dX6_find_40 (by decide) ?_
        simp only [fstG, if_neg hno] at k
        exact ih (j + 1) (by omega) k
      refine wp_aload_n (n := 13) dX6_find_12 rfl rfl ?_
      refine wp_getf (n := 16) dX6_find_13 rfl flX6_29 (by repeat first | assumption | exact ax_set_self _ _ _ | exact ax_newA_self _ _ _ | refine (ax_set_ne _ _ (by omega)).trans ?_ | refine (ax_newA_ne _ _ _ (by omega)).trans ?_) (by rfl) ?_
      refine wp_iload (n := 18) dX6_find_16 rfl rfl ?_
      refine wp_iald (n := 19) _ dX6_find_18 rfl (by repeat first | assumption | exact ax_set_self _ _ _ | exact ax_newA_self _ _ _ | refine (ax_set_ne _ _ (by omega)).trans ?_ | refine (ax_newA_ne _ _ _ (by omega)).trans ?_) rfl (by omega) (by decide) ?_
      refine wp_iload_n (n := 20) dX6_find_19 rfl rfl ?_
      refine wp_icmp_ne (t := 37) (n := 23) dX6_find_20 (by decide) rfl (fun hq => ?_) (fun hq => ?_)
      · exact N1 (fun q => hq (of_decide_eq_true q).1)
      · obtain ⟨m, hm, hm6⟩ := hL j (by omega)
        have em : m = len := by
          rw [hq] at hm
          exact ((nI_eq9 (by omega) (by omega)).mp hm).symm
        subst em
        refine wp_aload_n (n := 24) dX6_find_23 rfl rfl ?_
        refine wp_iload (n := 26) dX6_find_24 rfl rfl ?_
        refine wp_aload_n (n := 27) dX6_find_26 rfl rfl ?_
        refine wp_iload_n (n := 28) dX6_find_27 rfl rfl ?_
        refine wp_callV3 (n := 31) (rm' := (0, 0, 0, 0)) rfl dX6_find_28 rfl mlX6_43 (by repeat first | assumption | exact ax_set_self _ _ _ | exact ax_newA_self _ _ _ | refine (ax_set_ne _ _ (by omega)).trans ?_ | refine (ax_newA_ne _ _ _ (by omega)).trans ?_) rfl rfl rfl rfl rfl ?_
        refine s_X6_hasName hM0 hB (by omega) hm hm6 hs hN ?_
        show WP Γ _ _ _ _ _ _ _
        refine wp_if_eq (t := 37) (n := 34) dX6_find_31 (by decide) rfl (fun hr => ?_) (fun hr => ?_)
        · refine N1 (fun q => ?_)
          have := bI_eq hr
          exact absurd (of_decide_eq_true q).2 (of_decide_eq_false this)
        · have hr := of_decide_eq_true (bI_ne hr)
          have hy : nameB le ln bs s m j = true := decide_eq_true ⟨hq, hr⟩
          simp only [fstG, if_pos hy] at k
          refine wp_iload (n := 36) dX6_find_34 rfl rfl ?_
          exact wp_ireturn dX6_find_36 rfl rfl (k)
theorem s_X6_open {ba N s len : Nat} {bs : Nat → Int32} (hM : PoolsAt h p n qu ra re le ln) (hA : Γ.2.1 ≤ p) (hn : n < 8) (hB : h.2 ba = some (.inl (.int, N, .inl bs))) (hba : ba < p ∨ p + 6 ≤ ba) (hs : s + len ≤ N) (hN : N < 2147483648)
    (k : ∀ h', ax_fr p (p + 6) h h' → PoolsAt h' p (n + 1) qu ra (vf_upd re n FP.fconst0) (opnL le bs n s len) (upd ln n (nI len)) → Q (.inl (some (.int (nI n)))) h') : WP Γ MX6_open (0, 0, 0, 0) 0 [some (.ref p), some (.ref ba), some (.int (nI s)), some (.int (nI len)), none, none] [] h Q := by
  have hM0 := hM
  obtain ⟨hO, h1, h2, h3, h4, h5⟩ := hM
  refine wp_aload_n (n := 1) dX6_open_0 rfl rfl ?_
  refine wp_getf (n := 4) dX6_open_1 rfl flX6_9 (by repeat first | assumption | exact ax_set_self _ _ _ | exact ax_newA_self _ _ _ | refine (ax_set_ne _ _ (by omega)).trans ?_ | refine (ax_newA_ne _ _ _ (by omega)).trans ?_) (by rfl) ?_
  refine wp_istore (n := 6) dX6_open_4 rfl rfl rfl rfl ?_
  refine wp_iconst (n := 7) (v := 0) dX6_open_6 rfl (by decide) ?_
  refine wp_istore (n := 9) dX6_open_7 rfl rfl rfl rfl ?_
  have E : ∀ h1 le1, ax_fr p (p + 6) h h1 → PoolsAt h1 p n qu ra re le1 ln → le1 = opnL le bs n s len → ∀ j, WP Γ MX6_open (0, 0, 0, 0) 47 [some (.ref p), some (.ref ba), some (.int (nI s)), some (.int (nI len)), some (.int (nI n)), some (.int j)] [] h1 Q := by
    intro h1 le1 hF1 hM1 e j
    subst e
    have hM0 := hM1
    obtain ⟨hO, h1, h2, h3, h4, h5⟩ := hM1
    refine wp_aload_n (n := 48) dX6_open_47 rfl rfl ?_
    refine wp_getf (n := 51) dX6_open_48 rfl flX6_29 (by repeat first | assumption | exact ax_set_self _ _ _ | exact ax_newA_self _ _ _ | refine (ax_set_ne _ _ (by omega)).trans ?_ | refine (ax_newA_ne _ _ _ (by omega)).trans ?_) (by rfl) ?_
    refine wp_iload (n := 53) dX6_open_51 rfl rfl ?_
    refine wp_iload_n (n := 54) dX6_open_53 rfl rfl ?_
    refine wp_iast (n := 55) _ dX6_open_54 rfl (by repeat first | assumption | exact ax_set_self _ _ _ | exact ax_newA_self _ _ _ | refine (ax_set_ne _ _ (by omega)).trans ?_ | refine (ax_newA_ne _ _ _ (by omega)).trans ?_) (by omega) rfl (by omega) (by decide) ?_
    refine wp_aload_n (n := 56) dX6_open_55 rfl rfl ?_
    refine wp_getf (n := 59) dX6_open_56 rfl flX6_22 (by repeat first | assumption | exact ax_set_self _ _ _ | exact ax_newA_self _ _ _ | refine (ax_set_ne _ _ (by omega)).trans ?_ | refine (ax_newA_ne _ _ _ (by omega)).trans ?_) (by rfl) ?_
    refine wp_iload (n := 61) dX6_open_59 rfl rfl ?_
    refine wp_fconst0 (n := 62) dX6_open_61 rfl ?_
    refine wp_fast (n := 63) _ dX6_open_62 rfl (by repeat first | assumption | exact ax_set_self _ _ _ | exact ax_newA_self _ _ _ | refine (ax_set_ne _ _ (by omega)).trans ?_ | refine (ax_newA_ne _ _ _ (by omega)).trans ?_) (by omega) rfl (by omega) (by decide) ?_
    refine wp_aload_n (n := 64) dX6_open_63 rfl rfl ?_
    refine wp_dup (n := 65) dX6_open_64 rfl rfl ?_
    refine wp_getf (n := 68) dX6_open_65 rfl flX6_9 (by repeat first | assumption | exact ax_set_self _ _ _ | exact ax_newA_self _ _ _ | refine (ax_set_ne _ _ (by omega)).trans ?_ | refine (ax_newA_ne _ _ _ (by omega)).trans ?_) (by rfl) ?_
    refine wp_iconst (n := 69) (v := nI 1) dX6_open_68 rfl (by decide) ?_
    refine wp_iadd (n := 70) dX6_open_69 rfl ?_
    rw [nI_add]
    refine wp_putf (n := 73) dX6_open_70 rfl flX6_9 (by repeat first | assumption | exact ax_set_self _ _ _ | exact ax_newA_self _ _ _ | refine (ax_set_ne _ _ (by omega)).trans ?_ | refine (ax_newA_ne _ _ _ (by omega)).trans ?_) (by omega) (by rfl) rfl rfl ?_
    refine wp_iload (n := 75) dX6_open_73 rfl rfl ?_
    exact wp_ireturn dX6_open_75 rfl rfl (k _ (((hF1.put (by omega)).put (by omega)).put (by omega)) (((hM0.setG _).setT _).setN _))
  have L : ∀ j, j ≤ min len 6 → ∀ h1 le1, ax_fr p (p + 6) h h1 → PoolsAt h1 p n qu ra re le1 ln → (∀ i, le1 i = if n * 6 ≤ i ∧ i < n * 6 + j then bs (s + (i - n * 6)) else le i) → WP Γ MX6_open (0, 0, 0, 0) 9 [some (.ref p), some (.ref ba), some (.int (nI s)), some (.int (nI len)), some (.int (nI n)), some (.int (nI j))] [] h1 Q := by
    refine ax_up (min len 6) (fun j hj ih => ?_)
    intro h1 le1 hF1 hM1 hz
    have hM0 := hM1
    obtain ⟨hO, h1, h2, h3, h4, h5⟩ := hM1
    have hB1 := hF1.get hB (by omega)
    refine wp_iload (n := 11) dX6_open_9 rfl rfl ?_
    refine wp_iload_n (n := 12) dX6_open_11 rfl rfl ?_
    refine wp_icmp_ge (t := 47) (n := 15) dX6_open_12 (by decide) rfl (fun hc => ?_) (fun hc => ?_)
    · rw [nI_le9 (by omega) (by omega)] at hc
      obtain rfl : j = min len 6 := by omega
      exact E _ _ hF1 hM0 (funext hz) _
    · rw [nI_le9 (by omega) (by omega)] at hc
      refine wp_iload (n := 17) dX6_open_15 rfl rfl ?_
      refine wp_bipush (n := 19) (v := nI 6) dX6_open_17 rfl (by decide) ?_
      refine wp_icmp_ge (t := 47) (n := 22) dX6_open_19 (by decide) rfl (fun hq => ?_) (fun hq => ?_)
      · rw [nI_le9 (by omega) (by omega)] at hq
        obtain rfl : j = min len 6 := by omega
        exact E _ _ hF1 hM0 (funext hz) _
      · rw [nI_le9 (by omega) (by omega)] at hq
        refine wp_aload_n (n := 23) dX6_open_22 rfl rfl ?_
        refine wp_getf (n := 26) dX6_open_23 rfl flX6_26 (by repeat first | assumption | exact ax_set_self _ _ _ | exact ax_newA_self _ _ _ | refine (ax_set_ne _ _ (by omega)).trans ?_ | refine (ax_newA_ne _ _ _ (by omega)).trans ?_) (by rfl) ?_
        refine wp_iload (n := 28) dX6_open_26 rfl rfl ?_
        refine wp_bipush (n := 30) (v := nI 6) dX6_open_28 rfl (by decide) ?_
        refine wp_imul (n := 31) dX6_open_30 rfl ?_
        refine wp_iload (n := 33) dX6_open_31 rfl rfl ?_
        refine wp_iadd (n := 34) dX6_open_33 rfl ?_
        refine wp_aload_n (n := 35) dX6_open_34 rfl rfl ?_
        refine wp_iload_n (n := 36) dX6_open_35 rfl rfl ?_
        refine wp_iload (n := 38) dX6_open_36 rfl rfl ?_
        refine wp_iadd (n := 39) dX6_open_38 rfl ?_
        refine wp_iald (n := 40) (s + j) dX6_open_39 rfl (by repeat first | assumption | exact ax_set_self _ _ _ | exact ax_newA_self _ _ _ | refine (ax_set_ne _ _ (by omega)).trans ?_ | refine (ax_newA_ne _ _ _ (by omega)).trans ?_) (by simp only [nI_zero, nI_mul, nI_add]) (by omega) (by omega) ?_
        refine wp_iast (n := 41) (n * 6 + j) dX6_open_40 rfl (by repeat first | assumption | exact ax_set_self _ _ _ | exact ax_newA_self _ _ _ | refine (ax_set_ne _ _ (by omega)).trans ?_ | refine (ax_newA_ne _ _ _ (by omega)).trans ?_) (by omega) (by simp only [nI_zero, nI_mul, nI_add]) (by omega) (by omega) ?_
        refine wp_iinc (n := 44) dX6_open_41 rfl rfl (nI_inc j) rfl rfl rfl ?_
        refine wp_goto (t := 9) dX6_open_44 (by decide) ?_
        refine ih (by omega) _ _ (hF1.put (by omega)) (hM0.setL _) (fun i => ?_)
        simp only [upd]
        by_cases e : i = n * 6 + j
        · rw [if_pos e, if_pos (by omega), e]
          congr 1
          omega
        · rw [if_neg e, hz i]
          have : (n * 6 ≤ i ∧ i < n * 6 + j) ↔ (n * 6 ≤ i ∧ i < n * 6 + (j + 1)) := by omega
          simp only [this]
  exact L 0 (by omega) h le ax_fr.rf hM0 (fun i => by rw [if_neg (by omega)])
theorem s_X6_sumOfRents (hM : PoolsAt h p n qu ra re le ln) (hn : n ≤ 8) (hR : ∀ j, j < n → PF (re j))
    (k : PF (rntS re n) → Q (.inl (some (.float (rntS re n)))) h) : WP Γ MX6_sumOfRents (0, 0, 0, 0) 0 [some (.ref p), none, none] [] h Q := by
  obtain ⟨hO, h1, h2, h3, h4, h5⟩ := hM
  refine wp_fconst0 (n := 1) dX6_sumOfRents_0 rfl ?_
  refine wp_fstore_n (n := 2) dX6_sumOfRents_1 rfl rfl rfl rfl ?_
  refine wp_iconst (n := 3) (v := 0) dX6_sumOfRents_2 rfl (by decide) ?_
  refine wp_istore_n (n := 4) dX6_sumOfRents_3 rfl rfl rfl rfl ?_
  suffices L : ∀ j, j ≤ n → PF (rntS re j) → WP Γ MX6_sumOfRents (0, 0, 0, 0) 4 [some (.ref p), some (.float (rntS re j)), some (.int (nI j))] [] h Q from L 0 (Nat.zero_le _) ff_zero.pf
  refine ax_up n (fun j hj ih => ?_)
  intro hp
  refine wp_iload_n (n := 5) dX6_sumOfRents_4 rfl rfl ?_
  refine wp_aload_n (n := 6) dX6_sumOfRents_5 rfl rfl ?_
  refine wp_getf (n := 9) dX6_sumOfRents_6 rfl flX6_9 (by repeat first | assumption | exact ax_set_self _ _ _ | exact ax_newA_self _ _ _ | refine (ax_set_ne _ _ (by omega)).trans ?_ | refine (ax_newA_ne _ _ _ (by omega)).trans ?_) (by rfl) ?_
  refine wp_icmp_ge (t := 27) (n := 12) dX6_sumOfRents_9 (by decide) rfl (fun hc => ?_) (fun hc => ?_)
  · rw [nI_le9 (by omega) (by omega)] at hc
    obtain rfl : j = n := by omega
    refine wp_fload_n (n := 28) dX6_sumOfRents_27 rfl rfl ?_
    exact wp_freturn dX6_sumOfRents_28 rfl (k hp)
  · rw [nI_le9 (by omega) (by omega)] at hc
    have hp2 : PF (rntS re (j + 1)) := hp.add (hR j (by omega))
    refine wp_fload_n (n := 13) dX6_sumOfRents_12 rfl rfl ?_
    refine wp_aload_n (n := 14) dX6_sumOfRents_13 rfl rfl ?_
    refine wp_getf (n := 17) dX6_sumOfRents_14 rfl flX6_22 (by repeat first | assumption | exact ax_set_self _ _ _ | exact ax_newA_self _ _ _ | refine (ax_set_ne _ _ (by omega)).trans ?_ | refine (ax_newA_ne _ _ _ (by omega)).trans ?_) (by rfl) ?_
    refine wp_iload_n (n := 18) dX6_sumOfRents_17 rfl rfl ?_
    refine wp_fald (n := 19) _ dX6_sumOfRents_18 rfl (by repeat first | assumption | exact ax_set_self _ _ _ | exact ax_newA_self _ _ _ | refine (ax_set_ne _ _ (by omega)).trans ?_ | refine (ax_newA_ne _ _ _ (by omega)).trans ?_) rfl (by omega) (by decide) ?_
    refine wp_fadd (n := 20) dX6_sumOfRents_19 rfl (n32_of hp2.nn) ?_
    refine wp_fstore_n (n := 21) dX6_sumOfRents_20 rfl rfl rfl rfl ?_
    refine wp_iinc (n := 24) dX6_sumOfRents_21 rfl rfl (nI_inc j) rfl rfl rfl ?_
    refine wp_goto (t := 4) dX6_sumOfRents_24 (by decide) ?_
    exact ih (by omega) hp2
theorem s_X6_copyFrom {q m : Nat} {qu2 ra2 le2 ln2 : Nat → Int32} {re2 : Nat → UInt32} (hM : PoolsAt h p n qu ra re le ln) (hM2 : PoolsAt h q m qu2 ra2 re2 le2 ln2) (hA : Γ.2.1 ≤ p) (hd : q + 6 ≤ p ∨ p + 6 ≤ q)
    (k : ∀ h', ax_fr p (p + 6) h h' → PoolsAt h' p m qu2 ra2 re2 le2 ln2 → Q (.inl none) h') : WP Γ MX6_copyFrom (1, 60, 0, 0) 0 [some (.ref p), some (.ref q)] [] h Q := by
  have hM0 := hM
  obtain ⟨hO, h1, h2, h3, h4, h5⟩ := hM
  obtain ⟨hO', h1', h2', h3', h4', h5'⟩ := hM2
  refine wp_aload_n (n := 1) dX6_copyFrom_0 rfl rfl ?_
  refine wp_aload_n (n := 2) dX6_copyFrom_1 rfl rfl ?_
  refine wp_getf (n := 5) dX6_copyFrom_2 rfl flX6_9 (by repeat first | assumption | exact ax_set_self _ _ _ | exact ax_newA_self _ _ _ | refine (ax_set_ne _ _ (by omega)).trans ?_ | refine (ax_newA_ne _ _ _ (by omega)).trans ?_) (by rfl) ?_
  refine wp_putf (n := 8) dX6_copyFrom_5 rfl flX6_9 (by repeat first | assumption | exact ax_set_self _ _ _ | exact ax_newA_self _ _ _ | refine (ax_set_ne _ _ (by omega)).trans ?_ | refine (ax_newA_ne _ _ _ (by omega)).trans ?_) (by omega) (by rfl) rfl rfl ?_
  refine wp_aload_n (n := 9) dX6_copyFrom_8 rfl rfl ?_
  refine wp_getf (n := 12) dX6_copyFrom_9 rfl flX6_15 (by repeat first | assumption | exact ax_set_self _ _ _ | exact ax_newA_self _ _ _ | refine (ax_set_ne _ _ (by omega)).trans ?_ | refine (ax_newA_ne _ _ _ (by omega)).trans ?_) (by rfl) ?_
  refine wp_iconst (n := 13) (v := 0) dX6_copyFrom_12 rfl (by decide) ?_
  refine wp_aload_n (n := 14) dX6_copyFrom_13 rfl rfl ?_
  refine wp_getf (n := 17) dX6_copyFrom_14 rfl flX6_15 (by repeat first | assumption | exact ax_set_self _ _ _ | exact ax_newA_self _ _ _ | refine (ax_set_ne _ _ (by omega)).trans ?_ | refine (ax_newA_ne _ _ _ (by omega)).trans ?_) (by rfl) ?_
  refine wp_iconst (n := 18) (v := 0) dX6_copyFrom_17 rfl (by decide) ?_
  refine wp_bipush (n := 20) (v := nI 8) dX6_copyFrom_18 rfl (by decide) ?_
  refine wp_copyAll (n := 23) (N := 8) dX6_copyFrom_20 rfl cpX6_47 ax_cn ax_cs ax_ci (by repeat first | assumption | exact ax_set_self _ _ _ | exact ax_newA_self _ _ _ | refine (ax_set_ne _ _ (by omega)).trans ?_ | refine (ax_newA_ne _ _ _ (by omega)).trans ?_) (by repeat first | assumption | exact ax_set_self _ _ _ | exact ax_newA_self _ _ _ | refine (ax_set_ne _ _ (by omega)).trans ?_ | refine (ax_newA_ne _ _ _ (by omega)).trans ?_) (by rfl) (by rfl) (by omega) rfl (fun _ => by rfl) (fun _ _ _ => by trivial) rfl rfl rfl (by decide) rfl rfl ?_
  refine wp_aload_n (n := 24) dX6_copyFrom_23 rfl rfl ?_
  refine wp_getf (n := 27) dX6_copyFrom_24 rfl flX6_19 (by repeat first | assumption | exact ax_set_self _ _ _ | exact ax_newA_self _ _ _ | refine (ax_set_ne _ _ (by omega)).trans ?_ | refine (ax_newA_ne _ _ _ (by omega)).trans ?_) (by rfl) ?_
  refine wp_iconst (n := 28) (v := 0) dX6_copyFrom_27 rfl (by decide) ?_
  refine wp_aload_n (n := 29) dX6_copyFrom_28 rfl rfl ?_
  refine wp_getf (n := 32) dX6_copyFrom_29 rfl flX6_19 (by repeat first | assumption | exact ax_set_self _ _ _ | exact ax_newA_self _ _ _ | refine (ax_set_ne _ _ (by omega)).trans ?_ | refine (ax_newA_ne _ _ _ (by omega)).trans ?_) (by rfl) ?_
  refine wp_iconst (n := 33) (v := 0) dX6_copyFrom_32 rfl (by decide) ?_
  refine wp_bipush (n := 35) (v := nI 8) dX6_copyFrom_33 rfl (by decide) ?_
  refine wp_copyAll (n := 38) (N := 8) dX6_copyFrom_35 rfl cpX6_47 ax_cn ax_cs ax_ci (by repeat first | assumption | exact ax_set_self _ _ _ | exact ax_newA_self _ _ _ | refine (ax_set_ne _ _ (by omega)).trans ?_ | refine (ax_newA_ne _ _ _ (by omega)).trans ?_) (by repeat first | assumption | exact ax_set_self _ _ _ | exact ax_newA_self _ _ _ | refine (ax_set_ne _ _ (by omega)).trans ?_ | refine (ax_newA_ne _ _ _ (by omega)).trans ?_) (by rfl) (by rfl) (by omega) rfl (fun _ => by rfl) (fun _ _ _ => by trivial) rfl rfl rfl (by decide) rfl rfl ?_
  refine wp_aload_n (n := 39) dX6_copyFrom_38 rfl rfl ?_
  refine wp_getf (n := 42) dX6_copyFrom_39 rfl flX6_22 (by repeat first | assumption | exact ax_set_self _ _ _ | exact ax_newA_self _ _ _ | refine (ax_set_ne _ _ (by omega)).trans ?_ | refine (ax_newA_ne _ _ _ (by omega)).trans ?_) (by rfl) ?_
  refine wp_iconst (n := 43) (v := 0) dX6_copyFrom_42 rfl (by decide) ?_
  refine wp_aload_n (n := 44) dX6_copyFrom_43 rfl rfl ?_
  refine wp_getf (n := 47) dX6_copyFrom_44 rfl flX6_22 (by repeat first | assumption | exact ax_set_self _ _ _ | exact ax_newA_self _ _ _ | refine (ax_set_ne _ _ (by omega)).trans ?_ | refine (ax_newA_ne _ _ _ (by omega)).trans ?_) (by rfl) ?_
  refine wp_iconst (n := 48) (v := 0) dX6_copyFrom_47 rfl (by decide) ?_
  refine wp_bipush (n := 50) (v := nI 8) dX6_copyFrom_48 rfl (by decide) ?_
  refine wp_copyAll (n := 53) (N := 8) dX6_copyFrom_50 rfl cpX6_47 ax_cn ax_cs ax_ci (by repeat first | assumption | exact ax_set_self _ _ _ | exact ax_newA_self _ _ _ | refine (ax_set_ne _ _ (by omega)).trans ?_ | refine (ax_newA_ne _ _ _ (by omega)).trans ?_) (by repeat first | assumption | exact ax_set_self _ _ _ | exact ax_newA_self _ _ _ | refine (ax_set_ne _ _ (by omega)).trans ?_ | refine (ax_newA_ne _ _ _ (by omega)).trans ?_) (by rfl) (by rfl) (by omega) rfl (fun _ => by rfl) (fun _ _ _ => by trivial) rfl rfl rfl (by decide) rfl rfl ?_
  refine wp_aload_n (n := 54) dX6_copyFrom_53 rfl rfl ?_
  refine wp_getf (n := 57) dX6_copyFrom_54 rfl flX6_26 (by repeat first | assumption | exact ax_set_self _ _ _ | exact ax_newA_self _ _ _ | refine (ax_set_ne _ _ (by omega)).trans ?_ | refine (ax_newA_ne _ _ _ (by omega)).trans ?_) (by rfl) ?_
  refine wp_iconst (n := 58) (v := 0) dX6_copyFrom_57 rfl (by decide) ?_
  refine wp_aload_n (n := 59) dX6_copyFrom_58 rfl rfl ?_
  refine wp_getf (n := 62) dX6_copyFrom_59 rfl flX6_26 (by repeat first | assumption | exact ax_set_self _ _ _ | exact ax_newA_self _ _ _ | refine (ax_set_ne _ _ (by omega)).trans ?_ | refine (ax_newA_ne _ _ _ (by omega)).trans ?_) (by rfl) ?_
  refine wp_iconst (n := 63) (v := 0) dX6_copyFrom_62 rfl (by decide) ?_
  refine wp_bipush (n := 65) (v := nI 48) dX6_copyFrom_63 rfl (by decide) ?_
  refine wp_copyAll (n := 68) (N := 48) dX6_copyFrom_65 rfl cpX6_47 ax_cn ax_cs ax_ci (by repeat first | assumption | exact ax_set_self _ _ _ | exact ax_newA_self _ _ _ | refine (ax_set_ne _ _ (by omega)).trans ?_ | refine (ax_newA_ne _ _ _ (by omega)).trans ?_) (by repeat first | assumption | exact ax_set_self _ _ _ | exact ax_newA_self _ _ _ | refine (ax_set_ne _ _ (by omega)).trans ?_ | refine (ax_newA_ne _ _ _ (by omega)).trans ?_) (by rfl) (by rfl) (by omega) rfl (fun _ => by rfl) (fun _ _ _ => by trivial) rfl rfl rfl (by decide) rfl rfl ?_
  refine wp_aload_n (n := 69) dX6_copyFrom_68 rfl rfl ?_
  refine wp_getf (n := 72) dX6_copyFrom_69 rfl flX6_29 (by repeat first | assumption | exact ax_set_self _ _ _ | exact ax_newA_self _ _ _ | refine (ax_set_ne _ _ (by omega)).trans ?_ | refine (ax_newA_ne _ _ _ (by omega)).trans ?_) (by rfl) ?_
  refine wp_iconst (n := 73) (v := 0) dX6_copyFrom_72 rfl (by decide) ?_
  refine wp_aload_n (n := 74) dX6_copyFrom_73 rfl rfl ?_
  refine wp_getf (n := 77) dX6_copyFrom_74 rfl flX6_29 (by repeat first | assumption | exact ax_set_self _ _ _ | exact ax_newA_self _ _ _ | refine (ax_set_ne _ _ (by omega)).trans ?_ | refine (ax_newA_ne _ _ _ (by omega)).trans ?_) (by rfl) ?_
  refine wp_iconst (n := 78) (v := 0) dX6_copyFrom_77 rfl (by decide) ?_
  refine wp_bipush (n := 80) (v := nI 8) dX6_copyFrom_78 rfl (by decide) ?_
  refine wp_copyAll (n := 83) (N := 8) dX6_copyFrom_80 rfl cpX6_47 ax_cn ax_cs ax_ci (by repeat first | assumption | exact ax_set_self _ _ _ | exact ax_newA_self _ _ _ | refine (ax_set_ne _ _ (by omega)).trans ?_ | refine (ax_newA_ne _ _ _ (by omega)).trans ?_) (by repeat first | assumption | exact ax_set_self _ _ _ | exact ax_newA_self _ _ _ | refine (ax_set_ne _ _ (by omega)).trans ?_ | refine (ax_newA_ne _ _ _ (by omega)).trans ?_) (by rfl) (by rfl) (by omega) rfl (fun _ => by rfl) (fun _ _ _ => by trivial) rfl rfl rfl (by decide) rfl rfl ?_
  exact wp_return dX6_copyFrom_83 rfl (k _ ((((((ax_fr.set (lo := p) (hi := p + 6) (by omega)).put (by omega)).put (by omega)).put (by omega)).put (by omega)).put (by omega)) ((((((hM0.setN _).setQ _).setR _).setT _).setL _).setG _))
/-- the constant FREE_NAME -/
def FreeAt (Γ : GE) (h : AH) : Prop := Γ.2.2.2.2.2 1000 < Γ.2.1 ∧ ∃ fn : Nat → Int32, h.2 (Γ.2.2.2.2.2 1000) = some (.inl (.int, 4, .inl fn)) ∧ fn 0 = nI 102 ∧ fn 1 = nI 114 ∧ fn 2 = nI 101 ∧ fn 3 = nI 101
theorem FreeAt.fr {h' : AH} {lo hi : Nat} (hM : FreeAt Γ h) (hF : ax_fr lo hi h h') (hd : Γ.2.1 ≤ lo) : FreeAt Γ h' := by
  obtain ⟨a, fn, b, c⟩ := hM
  exact ⟨a, fn, hF.get b (by omega), c⟩
theorem s_X6_begin (hM : PoolsAt h p n qu ra re le ln) (hA : Γ.2.1 ≤ p) (hF : FreeAt Γ h)
    (k : ∀ h' fn, fn 0 = nI 102 → fn 1 = nI 114 → fn 2 = nI 101 → fn 3 = nI 101 → ax_fr p (p + 6) h h' → PoolsAt h' p 1 (upd qu 0 x) (upd ra 0 0) (vf_upd re 0 FP.fconst0) (opnL le fn 0 0 4) (upd ln 0 (nI 4)) → Q (.inl none) h') : WP Γ MX6_begin (1, 25, 0, 0) 0 [some (.ref p), some (.int x), none] [] h Q := by
  have hM0 := hM
  obtain ⟨hO, h1, h2, h3, h4, h5⟩ := hM
  obtain ⟨a, fn, hfn, e0, e1, e2, e3⟩ := hF
  refine wp_aload_n (n := 1) dX6_begin_0 rfl rfl ?_
  refine wp_iconst (n := 2) (v := 0) dX6_begin_1 rfl (by decide) ?_
  refine wp_putf (n := 5) dX6_begin_2 rfl flX6_9 (by repeat first | assumption | exact ax_set_self _ _ _ | exact ax_newA_self _ _ _ | refine (ax_set_ne _ _ (by omega)).trans ?_ | refine (ax_newA_ne _ _ _ (by omega)).trans ?_) (by omega) (by rfl) rfl rfl ?_
  refine wp_aload_n (n := 6) dX6_begin_5 rfl rfl ?_
  refine wp_free (n := 9) dX6_begin_6 rfl (host := "StorageLedger") (by decide) ?_
  refine wp_iconst (n := 10) (v := 0) dX6_begin_9 rfl (by decide) ?_
  refine wp_free (n := 13) dX6_begin_10 rfl (host := "StorageLedger") (by decide) ?_
  have hfn2 := (ax_fr.set (lo := p) (hi := p + 1) (h := h) (a := p) (e := .inr (6, [.int (nI 0), .ref (p + 1), .ref (p + 2), .ref (p + 3), .ref (p + 4), .ref (p + 5)])) (by omega)).get hfn (by omega)
  refine wp_alen (n := 14) dX6_begin_13 rfl hfn2 rfl ?_
  refine wp_callV3 (n := 17) (rm' := (0, 0, 0, 0)) rfl dX6_begin_14 rfl mlX6_35 (by repeat first | assumption | exact ax_set_self _ _ _ | exact ax_newA_self _ _ _ | refine (ax_set_ne _ _ (by omega)).trans ?_ | refine (ax_newA_ne _ _ _ (by omega)).trans ?_) rfl rfl rfl rfl rfl ?_
  refine s_X6_open (s := 0) (len := 4) (N := 4) (hM0.setN 0) hA (by omega) hfn2 (by omega) (by omega) (by omega) (fun h2 hF2 hM2 => ?_)
  show WP Γ _ _ _ _ _ _ _
  have hO2 := hM2.1
  refine wp_istore_n (n := 18) dX6_begin_17 rfl rfl rfl rfl ?_
  refine wp_aload_n (n := 19) dX6_begin_18 rfl rfl ?_
  refine wp_iload_n (n := 20) dX6_begin_19 rfl rfl ?_
  refine wp_iload_n (n := 21) dX6_begin_20 rfl rfl ?_
  refine wp_iconst (n := 22) (v := 0) dX6_begin_21 rfl (by decide) ?_
  refine wp_callV3 (n := 25) (rm' := (0, 0, 0, 0)) rfl dX6_begin_22 rfl mlX6_39 (by repeat first | assumption | exact ax_set_self _ _ _ | exact ax_newA_self _ _ _ | refine (ax_set_ne _ _ (by omega)).trans ?_ | refine (ax_newA_ne _ _ _ (by omega)).trans ?_) rfl rfl rfl rfl rfl ?_
  refine s_X6_setTerms (j := 0) hM2 hA (by omega) (fun h3 hF3 hM3 => ?_)
  show WP Γ _ _ _ _ _ _ _
  exact wp_return dX6_begin_25 rfl (k _ fn e0 e1 e2 e3 (((ax_fr.set (lo := p) (hi := p + 6) (by omega)).tr (lo := p) (hi := p + 6) hF2 (by omega) (by omega)).tr (lo := p) (hi := p + 6) hF3 (by omega) (by omega)) hM3)
end
