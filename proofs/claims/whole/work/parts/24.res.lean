/-! ===== Checkpoints, Reservations ===== -/
def ChkAt (h : AH) (p n : Nat) (rw : Nat → Int32) : Prop := h.2 p = some (.inr (2, [.int (nI n), .ref (p + 1)])) ∧ h.2 (p + 1) = some (.inl (.int, 90, .inl rw))
def ResAt (h : AH) (p n : Nat) (rw : Nat → Int32) : Prop := h.2 p = some (.inr (7, [.int (nI n), .ref (p + 1)])) ∧ h.2 (p + 1) = some (.inl (.int, 300, .inl rw))
section
variable {h h' : AH} {p n lo hi : Nat} {rw : Nat → Int32}
theorem ChkAt.fr (hM : ChkAt h p n rw) (hF : ax_fr lo hi h h') (hd : hi ≤ p ∨ p + 2 ≤ lo) : ChkAt h' p n rw := ⟨hF.get hM.1 (by omega), hF.get hM.2 (by omega)⟩
theorem ResAt.fr (hM : ResAt h p n rw) (hF : ax_fr lo hi h h') (hd : hi ≤ p ∨ p + 2 ≤ lo) : ResAt h' p n rw := ⟨hF.get hM.1 (by omega), hF.get hM.2 (by omega)⟩
theorem ChkAt.setR (hM : ChkAt h p n rw) (f : Nat → Int32) : ChkAt (ax_set h (p + 1) (.inl (.int, 90, .inl f))) p n f := ⟨(ax_set_ne _ _ (by omega)).trans hM.1, ax_set_self _ _ _⟩
theorem ChkAt.setN (hM : ChkAt h p n rw) (m : Nat) : ChkAt (ax_set h p (.inr (2, [.int (nI m), .ref (p + 1)]))) p m rw := ⟨ax_set_self _ _ _, (ax_set_ne _ _ (by omega)).trans hM.2⟩
theorem ResAt.setR (hM : ResAt h p n rw) (f : Nat → Int32) : ResAt (ax_set h (p + 1) (.inl (.int, 300, .inl f))) p n f := ⟨(ax_set_ne _ _ (by omega)).trans hM.1, ax_set_self _ _ _⟩
theorem ResAt.setN (hM : ResAt h p n rw) (m : Nat) : ResAt (ax_set h p (.inr (7, [.int (nI m), .ref (p + 1)]))) p m rw := ⟨ax_set_self _ _ _, (ax_set_ne _ _ (by omega)).trans hM.2⟩
end
section
variable {Γ : GE} {h : AH} {Q : PO} {p n : Nat} {rw : Nat → Int32} {x : Int32}
theorem s_X2_add (hM : ChkAt h p n rw) (hA : Γ.2.1 ≤ p) (hn : n < 10)
    (k : ∀ h', ax_fr p (p + 2) h h' → ChkAt h' p (n + 1) (upd rw (n * 9 + 8) x) → Q (.inl (some (.int (nI n)))) h') : WP Γ MX2_add (0, 0, 0, 0) 0 [some (.ref p), some (.int x), none] [] h Q := by
  have hM0 := hM
  obtain ⟨hO, hR⟩ := hM
  refine wp_aload_n (n := 1) dX2_add_0 rfl rfl ?_
  refine wp_getf (n := 4) dX2_add_1 rfl flX2_9 (by repeat first | assumption | exact ax_set_self _ _ _ | exact ax_newA_self _ _ _ | refine (ax_set_ne _ _ (by omega)).trans ?_ | refine (ax_newA_ne _ _ _ (by omega)).trans ?_) (by rfl) ?_
  refine wp_istore_n (n := 5) dX2_add_4 rfl rfl rfl rfl ?_
  refine wp_aload_n (n := 6) dX2_add_5 rfl rfl ?_
  refine wp_getf (n := 9) dX2_add_6 rfl flX2_15 (by repeat first | assumption | exact ax_set_self _ _ _ | exact ax_newA_self _ _ _ | refine (ax_set_ne _ _ (by omega)).trans ?_ | refine (ax_newA_ne _ _ _ (by omega)).trans ?_) (by rfl) ?_
  refine wp_iload_n (n := 10) dX2_add_9 rfl rfl ?_
  refine wp_bipush (n := 12) (v := nI 9) dX2_add_10 rfl (by decide) ?_
  refine wp_imul (n := 13) dX2_add_12 rfl ?_
  refine wp_bipush (n := 15) (v := nI 8) dX2_add_13 rfl (by decide) ?_
  refine wp_iadd (n := 16) dX2_add_15 rfl ?_
  refine wp_iload_n (n := 17) dX2_add_16 rfl rfl ?_
  refine wp_iast (n := 18) (n * 9 + 8) dX2_add_17 rfl (by repeat first | assumption | exact ax_set_self _ _ _ | exact ax_newA_self _ _ _ | refine (ax_set_ne _ _ (by omega)).trans ?_ | refine (ax_newA_ne _ _ _ (by omega)).trans ?_) (by omega) (by simp only [nI_zero, nI_mul, nI_add]) (by omega) (by decide) ?_
  refine wp_aload_n (n := 19) dX2_add_18 rfl rfl ?_
  refine wp_dup (n := 20) dX2_add_19 rfl rfl ?_
  refine wp_getf (n := 23) dX2_add_20 rfl flX2_9 (by repeat first | assumption | exact ax_set_self _ _ _ | exact ax_newA_self _ _ _ | refine (ax_set_ne _ _ (by omega)).trans ?_ | refine (ax_newA_ne _ _ _ (by omega)).trans ?_) (by rfl) ?_
  refine wp_iconst (n := 24) (v := nI 1) dX2_add_23 rfl (by decide) ?_
  refine wp_iadd (n := 25) dX2_add_24 rfl ?_
  rw [nI_add]
  refine wp_putf (n := 28) dX2_add_25 rfl flX2_9 (by repeat first | assumption | exact ax_set_self _ _ _ | exact ax_newA_self _ _ _ | refine (ax_set_ne _ _ (by omega)).trans ?_ | refine (ax_newA_ne _ _ _ (by omega)).trans ?_) (by omega) (by rfl) rfl rfl ?_
  refine wp_iload_n (n := 29) dX2_add_28 rfl rfl ?_
  exact wp_ireturn dX2_add_29 rfl rfl (k _ ((ax_fr.set (lo := p) (hi := p + 2) (by omega)).put (by omega)) ((hM0.setR _).setN _))
theorem s_X2_setBlocks {c j : Nat} (hM : ChkAt h p n rw) (hA : Γ.2.1 ≤ p) (hc : c < 10) (hj : j < 9)
    (k : ∀ h', ax_fr p (p + 2) h h' → ChkAt h' p n (upd rw (c * 9 + j) x) → Q (.inl none) h') : WP Γ MX2_setBlocks (0, 0, 0, 0) 0 [some (.ref p), some (.int (nI c)), some (.int (nI j)), some (.int x)] [] h Q := by
  have hM0 := hM
  obtain ⟨hO, hR⟩ := hM
  refine wp_aload_n (n := 1) dX2_setBlocks_0 rfl rfl ?_
  refine wp_getf (n := 4) dX2_setBlocks_1 rfl flX2_15 (by repeat first | assumption | exact ax_set_self _ _ _ | exact ax_newA_self _ _ _ | refine (ax_set_ne _ _ (by omega)).trans ?_ | refine (ax_newA_ne _ _ _ (by omega)).trans ?_) (by rfl) ?_
  refine wp_iload_n (n := 5) dX2_setBlocks_4 rfl rfl ?_
  refine wp_bipush (n := 7) (v := nI 9) dX2_setBlocks_5 rfl (by decide) ?_
  refine wp_imul (n := 8) dX2_setBlocks_7 rfl ?_
  refine wp_iload_n (n := 9) dX2_setBlocks_8 rfl rfl ?_
  refine wp_iadd (n := 10) dX2_setBlocks_9 rfl ?_
  refine wp_iload_n (n := 11) dX2_setBlocks_10 rfl rfl ?_
  refine wp_iast (n := 12) (c * 9 + j) dX2_setBlocks_11 rfl (by repeat first | assumption | exact ax_set_self _ _ _ | exact ax_newA_self _ _ _ | refine (ax_set_ne _ _ (by omega)).trans ?_ | refine (ax_newA_ne _ _ _ (by omega)).trans ?_) (by omega) (by simp only [nI_zero, nI_mul, nI_add]) (by omega) (by decide) ?_
  exact wp_return dX2_setBlocks_12 rfl (k _ (ax_fr.set (by omega)) (hM0.setR _))
theorem s_X2_blocksOf {c j : Nat} (hM : ChkAt h p n rw) (hc : c < 10) (hj : j < 9)
    (k : Q (.inl (some (.int (rw (c * 9 + j))))) h) : WP Γ MX2_blocksOf (0, 0, 0, 0) 0 [some (.ref p), some (.int (nI c)), some (.int (nI j))] [] h Q := by
  obtain ⟨hO, hR⟩ := hM
  refine wp_aload_n (n := 1) dX2_blocksOf_0 rfl rfl ?_
  refine wp_getf (n := 4) dX2_blocksOf_1 rfl flX2_15 (by repeat first | assumption | exact ax_set_self _ _ _ | exact ax_newA_self _ _ _ | refine (ax_set_ne _ _ (by omega)).trans ?_ | refine (ax_newA_ne _ _ _ (by omega)).trans ?_) (by rfl) ?_
  refine wp_iload_n (n := 5) dX2_blocksOf_4 rfl rfl ?_
  refine wp_bipush (n := 7) (v := nI 9) dX2_blocksOf_5 rfl (by decide) ?_
  refine wp_imul (n := 8) dX2_blocksOf_7 rfl ?_
  refine wp_iload_n (n := 9) dX2_blocksOf_8 rfl rfl ?_
  refine wp_iadd (n := 10) dX2_blocksOf_9 rfl ?_
  refine wp_iald (n := 11) (c * 9 + j) dX2_blocksOf_10 rfl (by repeat first | assumption | exact ax_set_self _ _ _ | exact ax_newA_self _ _ _ | refine (ax_set_ne _ _ (by omega)).trans ?_ | refine (ax_newA_ne _ _ _ (by omega)).trans ?_) (by simp only [nI_zero, nI_mul, nI_add]) (by omega) (by decide) ?_
  exact wp_ireturn dX2_blocksOf_11 rfl rfl (k)
theorem s_X2_entriesOf {c : Nat} (hM : ChkAt h p n rw) (hc : c < 10)
    (k : Q (.inl (some (.int (rw (c * 9 + 8))))) h) : WP Γ MX2_entriesOf (0, 0, 0, 0) 0 [some (.ref p), some (.int (nI c))] [] h Q := by
  obtain ⟨hO, hR⟩ := hM
  refine wp_aload_n (n := 1) dX2_entriesOf_0 rfl rfl ?_
  refine wp_getf (n := 4) dX2_entriesOf_1 rfl flX2_15 (by repeat first | assumption | exact ax_set_self _ _ _ | exact ax_newA_self _ _ _ | refine (ax_set_ne _ _ (by omega)).trans ?_ | refine (ax_newA_ne _ _ _ (by omega)).trans ?_) (by rfl) ?_
  refine wp_iload_n (n := 5) dX2_entriesOf_4 rfl rfl ?_
  refine wp_bipush (n := 7) (v := nI 9) dX2_entriesOf_5 rfl (by decide) ?_
  refine wp_imul (n := 8) dX2_entriesOf_7 rfl ?_
  refine wp_bipush (n := 10) (v := nI 8) dX2_entriesOf_8 rfl (by decide) ?_
  refine wp_iadd (n := 11) dX2_entriesOf_10 rfl ?_
  refine wp_iald (n := 12) (c * 9 + 8) dX2_entriesOf_11 rfl (by repeat first | assumption | exact ax_set_self _ _ _ | exact ax_newA_self _ _ _ | refine (ax_set_ne _ _ (by omega)).trans ?_ | refine (ax_newA_ne _ _ _ (by omega)).trans ?_) (by simp only [nI_zero, nI_mul, nI_add]) (by omega) (by decide) ?_
  exact wp_ireturn dX2_entriesOf_12 rfl rfl (k)
theorem s_X2_copyFrom {q m : Nat} {rw2 : Nat → Int32} (hM : ChkAt h p n rw) (hM2 : ChkAt h q m rw2) (hA : Γ.2.1 ≤ p) (hd : q + 2 ≤ p ∨ p + 2 ≤ q)
    (k : ∀ h', ax_fr p (p + 2) h h' → ChkAt h' p m rw2 → Q (.inl none) h') : WP Γ MX2_copyFrom (1, 60, 0, 0) 0 [some (.ref p), some (.ref q)] [] h Q := by
  have hM0 := hM
  obtain ⟨hO, hR⟩ := hM
  obtain ⟨hO2, hR2⟩ := hM2
  refine wp_aload_n (n := 1) dX2_copyFrom_0 rfl rfl ?_
  refine wp_aload_n (n := 2) dX2_copyFrom_1 rfl rfl ?_
  refine wp_getf (n := 5) dX2_copyFrom_2 rfl flX2_9 (by repeat first | assumption | exact ax_set_self _ _ _ | exact ax_newA_self _ _ _ | refine (ax_set_ne _ _ (by omega)).trans ?_ | refine (ax_newA_ne _ _ _ (by omega)).trans ?_) (by rfl) ?_
  refine wp_putf (n := 8) dX2_copyFrom_5 rfl flX2_9 (by repeat first | assumption | exact ax_set_self _ _ _ | exact ax_newA_self _ _ _ | refine (ax_set_ne _ _ (by omega)).trans ?_ | refine (ax_newA_ne _ _ _ (by omega)).trans ?_) (by omega) (by rfl) rfl rfl ?_
  refine wp_aload_n (n := 9) dX2_copyFrom_8 rfl rfl ?_
  refine wp_getf (n := 12) dX2_copyFrom_9 rfl flX2_15 (by repeat first | assumption | exact ax_set_self _ _ _ | exact ax_newA_self _ _ _ | refine (ax_set_ne _ _ (by omega)).trans ?_ | refine (ax_newA_ne _ _ _ (by omega)).trans ?_) (by rfl) ?_
  refine wp_iconst (n := 13) (v := 0) dX2_copyFrom_12 rfl (by decide) ?_
  refine wp_aload_n (n := 14) dX2_copyFrom_13 rfl rfl ?_
  refine wp_getf (n := 17) dX2_copyFrom_14 rfl flX2_15 (by repeat first | assumption | exact ax_set_self _ _ _ | exact ax_newA_self _ _ _ | refine (ax_set_ne _ _ (by omega)).trans ?_ | refine (ax_newA_ne _ _ _ (by omega)).trans ?_) (by rfl) ?_
  refine wp_iconst (n := 18) (v := 0) dX2_copyFrom_17 rfl (by decide) ?_
  refine wp_bipush (n := 20) (v := nI 90) dX2_copyFrom_18 rfl (by decide) ?_
  refine wp_copyAll (n := 23) (N := 90) dX2_copyFrom_20 rfl cpX2_19 ax_cn ax_cs ax_ci (by repeat first | assumption | exact ax_set_self _ _ _ | exact ax_newA_self _ _ _ | refine (ax_set_ne _ _ (by omega)).trans ?_ | refine (ax_newA_ne _ _ _ (by omega)).trans ?_) (by repeat first | assumption | exact ax_set_self _ _ _ | exact ax_newA_self _ _ _ | refine (ax_set_ne _ _ (by omega)).trans ?_ | refine (ax_newA_ne _ _ _ (by omega)).trans ?_) (by rfl) (by rfl) (by omega) rfl (fun _ => by rfl) (fun _ _ _ => by trivial) rfl rfl rfl (by decide) rfl rfl ?_
  exact wp_return dX2_copyFrom_23 rfl (k _ ((ax_fr.set (lo := p) (hi := p + 2) (by omega)).put (by omega)) ((hM0.setN _).setR _))
theorem s_X2_init (hO : h.2 p = some (.inr (2, [.int 0, .null]))) (hz : h.1 = p + 1) (hA : Γ.2.1 ≤ p)
    (k : ∀ h', h'.1 = p + 2 → (∀ a, a < p → h'.2 a = h.2 a) → ChkAt h' p 0 (fun _ => 0) → Q (.inl none) h') : WP Γ MX2_init (1, 60, 1, 90) 0 [some (.ref p)] [] h Q := by
  refine wp_aload_n (n := 1) dX2_init_0 rfl rfl ?_
  refine wp_objInit (n := 4) dX2_init_1 rfl olX2_3 ax_oi ax_oc rfl rfl ?_
  refine wp_aload_n (n := 5) dX2_init_4 rfl rfl ?_
  refine wp_iconst (n := 6) (v := 0) dX2_init_5 rfl (by decide) ?_
  refine wp_putf (n := 9) dX2_init_6 rfl flX2_9 (by repeat first | assumption | exact ax_set_self _ _ _ | exact ax_newA_self _ _ _ | refine (ax_set_ne _ _ (by omega)).trans ?_ | refine (ax_newA_ne _ _ _ (by omega)).trans ?_) (by omega) (by rfl) rfl rfl ?_
  refine wp_aload_n (n := 10) dX2_init_9 rfl rfl ?_
  refine wp_bipush (n := 12) (v := nI 90) dX2_init_10 rfl (by decide) ?_
  refine wp_newaA (n := 14) (p + 1) 90 (ty := .int) (90, .inl (fun _ => 0)) dX2_init_12 rfl hz rfl ac_int rfl (by decide) rfl (fun _ => rfl) (fun _ q => by cases q) (by decide) rfl rfl ?_
  refine wp_putF (n := 17) dX2_init_14 rfl flX2_15 rfl rfl (by repeat first | assumption | exact ax_set_self _ _ _ | exact ax_newA_self _ _ _ | refine (ax_set_ne _ _ (by omega)).trans ?_ | refine (ax_newA_ne _ _ _ (by omega)).trans ?_) (by omega) (by rfl) rfl rfl ?_
  refine wp_return dX2_init_17 rfl (k _ rfl (fun a ha => ?_) ⟨?_, ?_⟩)
  · repeat first | rfl | refine (ax_set_ne _ _ (by omega)).trans ?_ | refine (ax_newA_ne _ _ _ (by omega)).trans ?_
  · repeat first | assumption | exact ax_set_self _ _ _ | exact ax_newA_self _ _ _ | refine (ax_set_ne _ _ (by omega)).trans ?_ | refine (ax_newA_ne _ _ _ (by omega)).trans ?_
  · repeat first | assumption | exact ax_set_self _ _ _ | exact ax_newA_self _ _ _ | refine (ax_set_ne _ _ (by omega)).trans ?_ | refine (ax_newA_ne _ _ _ (by omega)).trans ?_
/-! Reservations: 0 from, 1 to, 2 number, 3 expiry, 4 state -/
def pend (rw : Nat → Int32) (r : Nat) : Bool := decide (rw (r * 5 + 4) = 0)
def sumI (f : Nat → Int32) : Nat → Int32
  | 0 => 0
  | j + 1 => sumI f j + f j
theorem s_X7_init (hO : h.2 p = some (.inr (7, [.int 0, .null]))) (hz : h.1 = p + 1) (hA : Γ.2.1 ≤ p)
    (k : ∀ h', h'.1 = p + 2 → (∀ a, a < p → h'.2 a = h.2 a) → ResAt h' p 0 (fun _ => 0) → Q (.inl none) h') : WP Γ MX7_init (1, 60, 1, 300) 0 [some (.ref p)] [] h Q := by
  refine wp_aload_n (n := 1) dX7_init_0 rfl rfl ?_
  refine wp_objInit (n := 4) dX7_init_1 rfl olX7_3 ax_oi ax_oc rfl rfl ?_
  refine wp_aload_n (n := 5) dX7_init_4 rfl rfl ?_
  refine wp_iconst (n := 6) (v := 0) dX7_init_5 rfl (by decide) ?_
  refine wp_putf (n := 9) dX7_init_6 rfl flX7_9 (by repeat first | assumption | exact ax_set_self _ _ _ | exact ax_newA_self _ _ _ | refine (ax_set_ne _ _ (by omega)).trans ?_ | refine (ax_newA_ne _ _ _ (by omega)).trans ?_) (by omega) (by rfl) rfl rfl ?_
  refine wp_aload_n (n := 10) dX7_init_9 rfl rfl ?_
  refine wp_sipush (n := 13) (v := nI 300) dX7_init_10 rfl (by decide) ?_
  refine wp_newaA (n := 15) (p + 1) 300 (ty := .int) (300, .inl (fun _ => 0)) dX7_init_13 rfl hz rfl ac_int rfl (by decide) rfl (fun _ => rfl) (fun _ q => by cases q) (by decide) rfl rfl ?_
  refine wp_putF (n := 18) dX7_init_15 rfl flX7_15 rfl rfl (by repeat first | assumption | exact ax_set_self _ _ _ | exact ax_newA_self _ _ _ | refine (ax_set_ne _ _ (by omega)).trans ?_ | refine (ax_newA_ne _ _ _ (by omega)).trans ?_) (by omega) (by rfl) rfl rfl ?_
  refine wp_return dX7_init_18 rfl (k _ rfl (fun a ha => ?_) ⟨?_, ?_⟩)
  · repeat first | rfl | refine (ax_set_ne _ _ (by omega)).trans ?_ | refine (ax_newA_ne _ _ _ (by omega)).trans ?_
  · repeat first | assumption | exact ax_set_self _ _ _ | exact ax_newA_self _ _ _ | refine (ax_set_ne _ _ (by omega)).trans ?_ | refine (ax_newA_ne _ _ _ (by omega)).trans ?_
  · repeat first | assumption | exact ax_set_self _ _ _ | exact ax_newA_self _ _ _ | refine (ax_set_ne _ _ (by omega)).trans ?_ | refine (ax_newA_ne _ _ _ (by omega)).trans ?_
theorem s_X7_copyFrom {q m : Nat} {rw2 : Nat → Int32} (hM : ResAt h p n rw) (hM2 : ResAt h q m rw2) (hA : Γ.2.1 ≤ p) (hd : q + 2 ≤ p ∨ p + 2 ≤ q)
    (k : ∀ h', ax_fr p (p + 2) h h' → ResAt h' p m rw2 → Q (.inl none) h') : WP Γ MX7_copyFrom (1, 60, 0, 0) 0 [some (.ref p), some (.ref q)] [] h Q := by
  have hM0 := hM
  obtain ⟨hO, hR⟩ := hM
  obtain ⟨hO2, hR2⟩ := hM2
  refine wp_aload_n (n := 1) dX7_copyFrom_0 rfl rfl ?_
  refine wp_aload_n (n := 2) dX7_copyFrom_1 rfl rfl ?_
  refine wp_getf (n := 5) dX7_copyFrom_2 rfl flX7_9 (by repeat first | assumption | exact ax_set_self _ _ _ | exact ax_newA_self _ _ _ | refine (ax_set_ne _ _ (by omega)).trans ?_ | refine (ax_newA_ne _ _ _ (by omega)).trans ?_) (by rfl) ?_
  refine wp_putf (n := 8) dX7_copyFrom_5 rfl flX7_9 (by repeat first | assumption | exact ax_set_self _ _ _ | exact ax_newA_self _ _ _ | refine (ax_set_ne _ _ (by omega)).trans ?_ | refine (ax_newA_ne _ _ _ (by omega)).trans ?_) (by omega) (by rfl) rfl rfl ?_
  refine wp_aload_n (n := 9) dX7_copyFrom_8 rfl rfl ?_
  refine wp_getf (n := 12) dX7_copyFrom_9 rfl flX7_15 (by repeat first | assumption | exact ax_set_self _ _ _ | exact ax_newA_self _ _ _ | refine (ax_set_ne _ _ (by omega)).trans ?_ | refine (ax_newA_ne _ _ _ (by omega)).trans ?_) (by rfl) ?_
  refine wp_iconst (n := 13) (v := 0) dX7_copyFrom_12 rfl (by decide) ?_
  refine wp_aload_n (n := 14) dX7_copyFrom_13 rfl rfl ?_
  refine wp_getf (n := 17) dX7_copyFrom_14 rfl flX7_15 (by repeat first | assumption | exact ax_set_self _ _ _ | exact ax_newA_self _ _ _ | refine (ax_set_ne _ _ (by omega)).trans ?_ | refine (ax_newA_ne _ _ _ (by omega)).trans ?_) (by rfl) ?_
  refine wp_iconst (n := 18) (v := 0) dX7_copyFrom_17 rfl (by decide) ?_
  refine wp_sipush (n := 21) (v := nI 300) dX7_copyFrom_18 rfl (by decide) ?_
  refine wp_copyAll (n := 24) (N := 300) dX7_copyFrom_21 rfl cpX7_38 ax_cn ax_cs ax_ci (by repeat first | assumption | exact ax_set_self _ _ _ | exact ax_newA_self _ _ _ | refine (ax_set_ne _ _ (by omega)).trans ?_ | refine (ax_newA_ne _ _ _ (by omega)).trans ?_) (by repeat first | assumption | exact ax_set_self _ _ _ | exact ax_newA_self _ _ _ | refine (ax_set_ne _ _ (by omega)).trans ?_ | refine (ax_newA_ne _ _ _ (by omega)).trans ?_) (by rfl) (by rfl) (by omega) rfl (fun _ => by rfl) (fun _ _ _ => by trivial) rfl rfl rfl (by decide) rfl rfl ?_
  exact wp_return dX7_copyFrom_24 rfl (k _ ((ax_fr.set (lo := p) (hi := p + 2) (by omega)).put (by omega)) ((hM0.setN _).setR _))
theorem s_X7_isFull (hM : ResAt h p n rw) (hn : n ≤ 60)
    (k : Q (.inl (some (.int (bI (decide (60 ≤ n)))))) h) : WP Γ MX7_isFull (0, 0, 0, 0) 0 [some (.ref p)] [] h Q := by
  obtain ⟨hO, hR⟩ := hM
  refine wp_aload_n (n := 1) dX7_isFull_0 rfl rfl ?_
  refine wp_getf (n := 4) dX7_isFull_1 rfl flX7_9 (by repeat first | assumption | exact ax_set_self _ _ _ | exact ax_newA_self _ _ _ | refine (ax_set_ne _ _ (by omega)).trans ?_ | refine (ax_newA_ne _ _ _ (by omega)).trans ?_) (by rfl) ?_
  refine wp_bipush (n := 6) (v := nI 60) dX7_isFull_4 rfl (by decide) ?_
  refine wp_icmp_lt (t := 13) (n := 9) dX7_isFull_6 (by decide) rfl (fun hc => ?_) (fun hc => ?_)
  · rw [nI_lt9 (by omega) (by omega)] at hc
    have e : decide (60 ≤ n) = false := by simp; omega
    rw [e] at k
    refine wp_iconst (n := 14) (v := 0) dX7_isFull_13 rfl (by decide) ?_
    exact wp_ireturn dX7_isFull_14 rfl rfl (k)
  · rw [nI_lt9 (by omega) (by omega)] at hc
    have e : decide (60 ≤ n) = true := by simp; omega
    rw [e] at k
    refine wp_iconst (n := 10) (v := nI 1) dX7_isFull_9 rfl (by decide) ?_
    refine wp_goto (t := 14) dX7_isFull_10 (by decide) ?_
    exact wp_ireturn dX7_isFull_14 rfl rfl (k)
/-- a row of five numbers -/
def upd5 (rw : Nat → Int32) (r : Nat) (a b c d e : Int32) : Nat → Int32 := upd (upd (upd (upd (upd rw (r * 5 + 0) a) (r * 5 + 1) b) (r * 5 + 2) c) (r * 5 + 3) d) (r * 5 + 4) e
theorem s_X7_add {a b c d : Int32} (hM : ResAt h p n rw) (hA : Γ.2.1 ≤ p) (hn : n < 60)
    (k : ∀ h', ax_fr p (p + 2) h h' → ResAt h' p (n + 1) (upd5 rw n a b c d 0) → Q (.inl (some (.int (nI n)))) h') : WP Γ MX7_add (0, 0, 0, 0) 0 [some (.ref p), some (.int a), some (.int b), some (.int c), some (.int d), none, none] [] h Q := by
  have hM0 := hM
  obtain ⟨hO, hR⟩ := hM
  refine wp_aload_n (n := 1) dX7_add_0 rfl rfl ?_
  refine wp_getf (n := 4) dX7_add_1 rfl flX7_9 (by repeat first | assumption | exact ax_set_self _ _ _ | exact ax_newA_self _ _ _ | refine (ax_set_ne _ _ (by omega)).trans ?_ | refine (ax_newA_ne _ _ _ (by omega)).trans ?_) (by rfl) ?_
  refine wp_istore (n := 6) dX7_add_4 rfl rfl rfl rfl ?_
  refine wp_iload (n := 8) dX7_add_6 rfl rfl ?_
  refine wp_iconst (n := 9) (v := nI 5) dX7_add_8 rfl (by decide) ?_
  refine wp_imul (n := 10) dX7_add_9 rfl ?_
  refine wp_istore (n := 12) dX7_add_10 rfl rfl rfl rfl ?_
  refine wp_aload_n (n := 13) dX7_add_12 rfl rfl ?_
  refine wp_getf (n := 16) dX7_add_13 rfl flX7_15 (by repeat first | assumption | exact ax_set_self _ _ _ | exact ax_newA_self _ _ _ | refine (ax_set_ne _ _ (by omega)).trans ?_ | refine (ax_newA_ne _ _ _ (by omega)).trans ?_) (by rfl) ?_
  refine wp_iload (n := 18) dX7_add_16 rfl rfl ?_
  refine wp_iconst (n := 19) (v := 0) dX7_add_18 rfl (by decide) ?_
  refine wp_iadd (n := 20) dX7_add_19 rfl ?_
  refine wp_iload_n (n := 21) dX7_add_20 rfl rfl ?_
  refine wp_iast (n := 22) (n * 5 + 0) dX7_add_21 rfl (by repeat first | assumption | exact ax_set_self _ _ _ | exact ax_newA_self _ _ _ | refine (ax_set_ne _ _ (by omega)).trans ?_ | refine (ax_newA_ne _ _ _ (by omega)).trans ?_) (by omega) (by simp only [nI_zero, nI_mul, nI_add]) (by omega) (by decide) ?_
  refine wp_aload_n (n := 23) dX7_add_22 rfl rfl ?_
  refine wp_getf (n := 26) dX7_add_23 rfl flX7_15 (by repeat first | assumption | exact ax_set_self _ _ _ | exact ax_newA_self _ _ _ | refine (ax_set_ne _ _ (by omega)).trans ?_ | refine (ax_newA_ne _ _ _ (by omega)).trans ?_) (by rfl) ?_
  refine wp_iload (n := 28) dX7_add_26 rfl rfl ?_
  refine wp_iconst (n := 29) (v := nI 1) dX7_add_28 rfl (by decide) ?_
  refine wp_iadd (n := 30) dX7_add_29 rfl ?_
  refine wp_iload_n (n := 31) dX7_add_30 rfl rfl ?_
  refine wp_iast (n := 32) (n * 5 + 1) dX7_add_31 rfl (by repeat first | assumption | exact ax_set_self _ _ _ | exact ax_newA_self _ _ _ | refine (ax_set_ne _ _ (by omega)).trans ?_ | refine (ax_newA_ne _ _ _ (by omega)).trans ?_) (by omega) (by simp only [nI_zero, nI_mul, nI_add]) (by omega) (by decide) ?_
  refine wp_aload_n (n := 33) dX7_add_32 rfl rfl ?_
  refine wp_getf (n := 36) dX7_add_33 rfl flX7_15 (by repeat first | assumption | exact ax_set_self _ _ _ | exact ax_newA_self _ _ _ | refine (ax_set_ne _ _ (by omega)).trans ?_ | refine (ax_newA_ne _ _ _ (by omega)).trans ?_) (by rfl) ?_
  refine wp_iload (n := 38) dX7_add_36 rfl rfl ?_
  refine wp_iconst (n := 39) (v := nI 2) dX7_add_38 rfl (by decide) ?_
  refine wp_iadd (n := 40) dX7_add_39 rfl ?_
  refine wp_iload_n (n := 41) dX7_add_40 rfl rfl ?_
  refine wp_iast (n := 42) (n * 5 + 2) dX7_add_41 rfl (by repeat first | assumption | exact ax_set_self _ _ _ | exact ax_newA_self _ _ _ | refine (ax_set_ne _ _ (by omega)).trans ?_ | refine (ax_newA_ne _ _ _ (by omega)).trans ?_) (by omega) (by simp only [nI_zero, nI_mul, nI_add]) (by omega) (by decide) ?_
  refine wp_aload_n (n := 43) dX7_add_42 rfl rfl ?_
  refine wp_getf (n := 46) dX7_add_43 rfl flX7_15 (by repeat first | assumption | exact ax_set_self _ _ _ | exact ax_newA_self _ _ _ | refine (ax_set_ne _ _ (by omega)).trans ?_ | refine (ax_newA_ne _ _ _ (by omega)).trans ?_) (by rfl) ?_
  refine wp_iload (n := 48) dX7_add_46 rfl rfl ?_
  refine wp_iconst (n := 49) (v := nI 3) dX7_add_48 rfl (by decide) ?_
  refine wp_iadd (n := 50) dX7_add_49 rfl ?_
  refine wp_iload (n := 52) dX7_add_50 rfl rfl ?_
  refine wp_iast (n := 53) (n * 5 + 3) dX7_add_52 rfl (by repeat first | assumption | exact ax_set_self _ _ _ | exact ax_newA_self _ _ _ | refine (ax_set_ne _ _ (by omega)).trans ?_ | refine (ax_newA_ne _ _ _ (by omega)).trans ?_) (by omega) (by simp only [nI_zero, nI_mul, nI_add]) (by omega) (by decide) ?_
  refine wp_aload_n (n := 54) dX7_add_53 rfl rfl ?_
  refine wp_getf (n := 57) dX7_add_54 rfl flX7_15 (by repeat first | assumption | exact ax_set_self _ _ _ | exact ax_newA_self _ _ _ | refine (ax_set_ne _ _ (by omega)).trans ?_ | refine (ax_newA_ne _ _ _ (by omega)).trans ?_) (by rfl) ?_
  refine wp_iload (n := 59) dX7_add_57 rfl rfl ?_
  refine wp_iconst (n := 60) (v := nI 4) dX7_add_59 rfl (by decide) ?_
  refine wp_iadd (n := 61) dX7_add_60 rfl ?_
  refine wp_iconst (n := 62) (v := 0) dX7_add_61 rfl (by decide) ?_
  refine wp_iast (n := 63) (n * 5 + 4) dX7_add_62 rfl (by repeat first | assumption | exact ax_set_self _ _ _ | exact ax_newA_self _ _ _ | refine (ax_set_ne _ _ (by omega)).trans ?_ | refine (ax_newA_ne _ _ _ (by omega)).trans ?_) (by omega) (by simp only [nI_zero, nI_mul, nI_add]) (by omega) (by decide) ?_
  refine wp_aload_n (n := 64) dX7_add_63 rfl rfl ?_
  refine wp_dup (n := 65) dX7_add_64 rfl rfl ?_
  refine wp_getf (n := 68) dX7_add_65 rfl flX7_9 (by repeat first | assumption | exact ax_set_self _ _ _ | exact ax_newA_self _ _ _ | refine (ax_set_ne _ _ (by omega)).trans ?_ | refine (ax_newA_ne _ _ _ (by omega)).trans ?_) (by rfl) ?_
  refine wp_iconst (n := 69) (v := nI 1) dX7_add_68 rfl (by decide) ?_
  refine wp_iadd (n := 70) dX7_add_69 rfl ?_
  rw [nI_add]
  refine wp_putf (n := 73) dX7_add_70 rfl flX7_9 (by repeat first | assumption | exact ax_set_self _ _ _ | exact ax_newA_self _ _ _ | refine (ax_set_ne _ _ (by omega)).trans ?_ | refine (ax_newA_ne _ _ _ (by omega)).trans ?_) (by omega) (by rfl) rfl rfl ?_
  refine wp_iload (n := 75) dX7_add_73 rfl rfl ?_
  refine wp_ireturn dX7_add_75 rfl rfl (k _ ((((((ax_fr.set (lo := p) (hi := p + 2) (by omega)).put (by omega)).put (by omega)).put (by omega)).put (by omega)).put (by omega)) ⟨ax_set_self _ _ _, ?_⟩)
  repeat first | exact ax_set_self _ _ _ | refine (ax_set_ne _ _ (by omega)).trans ?_
theorem s_X7_value {r j : Nat} (hM : ResAt h p n rw) (hr : r < 60) (hj : j < 5)
    (k : Q (.inl (some (.int (rw (r * 5 + j))))) h) : WP Γ MX7_value (0, 0, 0, 0) 0 [some (.ref p), some (.int (nI r)), some (.int (nI j))] [] h Q := by
  obtain ⟨hO, hR⟩ := hM
  refine wp_aload_n (n := 1) dX7_value_0 rfl rfl ?_
  refine wp_getf (n := 4) dX7_value_1 rfl flX7_15 (by repeat first | assumption | exact ax_set_self _ _ _ | exact ax_newA_self _ _ _ | refine (ax_set_ne _ _ (by omega)).trans ?_ | refine (ax_newA_ne _ _ _ (by omega)).trans ?_) (by rfl) ?_
  refine wp_iload_n (n := 5) dX7_value_4 rfl rfl ?_
  refine wp_iconst (n := 6) (v := nI 5) dX7_value_5 rfl (by decide) ?_
  refine wp_imul (n := 7) dX7_value_6 rfl ?_
  refine wp_iload_n (n := 8) dX7_value_7 rfl rfl ?_
  refine wp_iadd (n := 9) dX7_value_8 rfl ?_
  refine wp_iald (n := 10) (r * 5 + j) dX7_value_9 rfl (by repeat first | assumption | exact ax_set_self _ _ _ | exact ax_newA_self _ _ _ | refine (ax_set_ne _ _ (by omega)).trans ?_ | refine (ax_newA_ne _ _ _ (by omega)).trans ?_) (by simp only [nI_zero, nI_mul, nI_add]) (by omega) (by decide) ?_
  exact wp_ireturn dX7_value_10 rfl rfl (k)
theorem s_X7_isPending {r : Nat} (hM : ResAt h p n rw) (hr : r < 60)
    (k : Q (.inl (some (.int (bI (pend rw r))))) h) : WP Γ MX7_isPending (1, 22, 0, 0) 0 [some (.ref p), some (.int (nI r))] [] h Q := by
  have hM0 := hM
  obtain ⟨hO, hR⟩ := hM
  refine wp_aload_n (n := 1) dX7_isPending_0 rfl rfl ?_
  refine wp_iload_n (n := 2) dX7_isPending_1 rfl rfl ?_
  refine wp_iconst (n := 3) (v := nI 4) dX7_isPending_2 rfl (by decide) ?_
  refine wp_callV2 (n := 6) (rm' := (0, 0, 0, 0)) rfl dX7_isPending_3 rfl mlX7_19 (by assumption) rfl rfl rfl rfl rfl ?_
  refine s_X7_value hM0 hr (by omega) ?_
  show WP Γ _ _ _ _ _ _ _
  refine wp_if_ne (t := 13) (n := 9) dX7_isPending_6 (by decide) rfl (fun hc => ?_) (fun hc => ?_)
  · have e : pend rw r = false := by simp [pend, hc]
    rw [e] at k
    refine wp_iconst (n := 14) (v := 0) dX7_isPending_13 rfl (by decide) ?_
    exact wp_ireturn dX7_isPending_14 rfl rfl (k)
  · have e : pend rw r = true := by simp [pend, hc]
    rw [e] at k
    refine wp_iconst (n := 10) (v := nI 1) dX7_isPending_9 rfl (by decide) ?_
    refine wp_goto (t := 14) dX7_isPending_10 (by decide) ?_
    exact wp_ireturn dX7_isPending_14 rfl rfl (k)
theorem s_X7_end {r : Nat} (hM : ResAt h p n rw) (hA : Γ.2.1 ≤ p) (hr : r < 60)
    (k : ∀ h', ax_fr p (p + 2) h h' → ResAt h' p n (upd rw (r * 5 + 4) x) → Q (.inl none) h') : WP Γ MX7_end (0, 0, 0, 0) 0 [some (.ref p), some (.int (nI r)), some (.int x)] [] h Q := by
  have hM0 := hM
  obtain ⟨hO, hR⟩ := hM
  refine wp_aload_n (n := 1) dX7_end_0 rfl rfl ?_
  refine wp_getf (n := 4) dX7_end_1 rfl flX7_15 (by repeat first | assumption | exact ax_set_self _ _ _ | exact ax_newA_self _ _ _ | refine (ax_set_ne _ _ (by omega)).trans ?_ | refine (ax_newA_ne _ _ _ (by omega)).trans ?_) (by rfl) ?_
  refine wp_iload_n (n := 5) dX7_end_4 rfl rfl ?_
  refine wp_iconst (n := 6) (v := nI 5) dX7_end_5 rfl (by decide) ?_
  refine wp_imul (n := 7) dX7_end_6 rfl ?_
  refine wp_iconst (n := 8) (v := nI 4) dX7_end_7 rfl (by decide) ?_
  refine wp_iadd (n := 9) dX7_end_8 rfl ?_
  refine wp_iload_n (n := 10) dX7_end_9 rfl rfl ?_
  refine wp_iast (n := 11) (r * 5 + 4) dX7_end_10 rfl (by repeat first | assumption | exact ax_set_self _ _ _ | exact ax_newA_self _ _ _ | refine (ax_set_ne _ _ (by omega)).trans ?_ | refine (ax_newA_ne _ _ _ (by omega)).trans ?_) (by omega) (by simp only [nI_zero, nI_mul, nI_add]) (by omega) (by decide) ?_
  exact wp_return dX7_end_11 rfl (k _ (ax_fr.set (by omega)) (hM0.setR _))
theorem bI_ne {b : Bool} (h : ¬ bI b = 0) : b = true := by cases b with
  | true => rfl
  | false => exact absurd rfl h
theorem bI_eq {b : Bool} (h : bI b = 0) : b = false := by cases b with
  | false => rfl
  | true => exact absurd h (by decide)
theorem s_X7_pendingCount (hM : ResAt h p n rw) (hn : n ≤ 60)
    (k : Q (.inl (some (.int (nI (cntB (pend rw) n))))) h) : WP Γ MX7_pendingCount (2, 43, 0, 0) 0 [some (.ref p), none, none] [] h Q := by
  have hM0 := hM
  obtain ⟨hO, hR⟩ := hM
  refine wp_iconst (n := 1) (v := 0) dX7_pendingCount_0 rfl (by decide) ?_
  refine wp_istore_n (n := 2) dX7_pendingCount_1 rfl rfl rfl rfl ?_
  refine wp_iconst (n := 3) (v := 0) dX7_pendingCount_2 rfl (by decide) ?_
  refine wp_istore_n (n := 4) dX7_pendingCount_3 rfl rfl rfl rfl ?_
  refine ax_up (P := fun j => WP Γ MX7_pendingCount (2, 43, 0, 0) 4 [some (.ref p), some (.int (nI (cntB (pend rw) j))), some (.int (nI j))] [] h Q) n (fun j hj ih => ?_) 0 (Nat.zero_le _)
  refine wp_iload_n (n := 5) dX7_pendingCount_4 rfl rfl ?_
  refine wp_aload_n (n := 6) dX7_pendingCount_5 rfl rfl ?_
  refine wp_getf (n := 9) dX7_pendingCount_6 rfl flX7_9 (by repeat first | assumption | exact ax_set_self _ _ _ | exact ax_newA_self _ _ _ | refine (ax_set_ne _ _ (by omega)).trans ?_ | refine (ax_newA_ne _ _ _ (by omega)).trans ?_) (by rfl) ?_
  refine wp_icmp_ge (t := 29) (n := 12) dX7_pendingCount_9 (by decide) rfl (fun hc => ?_) (fun hc => ?_)
  · rw [nI_le9 (by omega) (by omega)] at hc
    obtain rfl : j = n := by omega
    refine wp_iload_n (n := 30) dX7_pendingCount_29 rfl rfl ?_
    exact wp_ireturn dX7_pendingCount_30 rfl rfl (k)
  · rw [nI_le9 (by omega) (by omega)] at hc
    have hlt : j < n := by omega
    have ih := ih hlt
    refine wp_aload_n (n := 13) dX7_pendingCount_12 rfl rfl ?_
    refine wp_iload_n (n := 14) dX7_pendingCount_13 rfl rfl ?_
    refine wp_callV1 (n := 17) (rm' := (1, 22, 0, 0)) rfl dX7_pendingCount_14 rfl mlX7_23 (by assumption) rfl rfl rfl rfl rfl ?_
    refine s_X7_isPending hM0 (by omega) ?_
    show WP Γ _ _ _ _ _ _ _
    refine wp_if_eq (t := 23) (n := 20) dX7_pendingCount_17 (by decide) rfl (fun hq => ?_) (fun hq => ?_)
    · refine wp_iinc (n := 26) dX7_pendingCount_23 rfl rfl (nI_inc j) rfl rfl rfl ?_
      refine wp_goto (t := 4) dX7_pendingCount_26 (by decide) ?_
      simp only [cntB, bI_eq hq, Nat.add_zero, if_false, Bool.false_eq_true] at ih
      exact ih
    · refine wp_iinc (n := 23) dX7_pendingCount_20 rfl rfl (nI_inc _) rfl rfl rfl ?_
      refine wp_iinc (n := 26) dX7_pendingCount_23 rfl rfl (nI_inc j) rfl rfl rfl ?_
      refine wp_goto (t := 4) dX7_pendingCount_26 (by decide) ?_
      simp only [cntB, bI_ne hq, if_true] at ih
      exact ih
theorem s_X7_drop {r : Nat} (hM : ResAt h p n rw) (hA : Γ.2.1 ≤ p) (hn : n ≤ 60) (hr : r < n)
    (k0 : pend rw r = false → Q (.inl (some (.int (-5)))) h)
    (k1 : pend rw r = true → ∀ h', ax_fr p (p + 2) h h' → ResAt h' p n (upd rw (r * 5 + 4) (nI 2)) → Q (.inl (some (.int (nI (cntB (pend (upd rw (r * 5 + 4) (nI 2))) n))))) h') : WP Γ MX7_drop (3, 65, 0, 0) 0 [some (.ref p), some (.int (nI r))] [] h Q := by
  have hM0 := hM
  obtain ⟨hO, hR⟩ := hM
  refine wp_aload_n (n := 1) dX7_drop_0 rfl rfl ?_
  refine wp_iload_n (n := 2) dX7_drop_1 rfl rfl ?_
  refine wp_callV1 (n := 5) (rm' := (1, 22, 0, 0)) rfl dX7_drop_2 rfl mlX7_23 (by assumption) rfl rfl rfl rfl rfl ?_
  refine s_X7_isPending hM0 (by omega) ?_
  show WP Γ _ _ _ _ _ _ _
  refine wp_if_ne (t := 11) (n := 8) dX7_drop_5 (by decide) rfl (fun hc => ?_) (fun hc => ?_)
  · refine wp_aload_n (n := 12) dX7_drop_11 rfl rfl ?_
    refine wp_iload_n (n := 13) dX7_drop_12 rfl rfl ?_
    refine wp_iconst (n := 14) (v := nI 2) dX7_drop_13 rfl (by decide) ?_
    refine wp_callV2 (n := 17) (rm' := (0, 0, 0, 0)) rfl dX7_drop_14 rfl mlX7_27 (by assumption) rfl rfl rfl rfl rfl ?_
    refine s_X7_end hM0 hA (by omega) (fun h1 hF1 hM1 => ?_)
    show WP Γ _ _ _ _ _ _ _
    have hM2 := hM1
    obtain ⟨hO, hR⟩ := hM1
    refine wp_aload_n (n := 18) dX7_drop_17 rfl rfl ?_
    refine wp_callV0 (n := 21) (rm' := (2, 43, 0, 0)) rfl dX7_drop_18 rfl mlX7_31 (by assumption) rfl rfl rfl rfl rfl ?_
    refine s_X7_pendingCount hM2 hn ?_
    show WP Γ _ _ _ _ _ _ _
    exact wp_ireturn dX7_drop_21 rfl rfl (k1 (bI_ne hc) h1 hF1 hM2)
  · refine wp_bipush (n := 10) (v := (-5)) dX7_drop_8 rfl (by decide) ?_
    exact wp_ireturn dX7_drop_10 rfl rfl (k0 (bI_eq hc))
theorem s_X7_prolong {r : Nat} (hM : ResAt h p n rw) (hA : Γ.2.1 ≤ p) (hr : r < 60)
    (k0 : pend rw r = false → Q (.inl (some (.int (-5)))) h)
    (k1 : pend rw r = true → ∀ h', ax_fr p (p + 2) h h' → ResAt h' p n (upd rw (r * 5 + 3) (rw (r * 5 + 3) + x)) → Q (.inl (some (.int (rw (r * 5 + 3) + x)))) h') : WP Γ MX7_prolong (2, 43, 0, 0) 0 [some (.ref p), some (.int (nI r)), some (.int x), none] [] h Q := by
  have hM0 := hM
  obtain ⟨hO, hR⟩ := hM
  refine wp_aload_n (n := 1) dX7_prolong_0 rfl rfl ?_
  refine wp_iload_n (n := 2) dX7_prolong_1 rfl rfl ?_
  refine wp_callV1 (n := 5) (rm' := (1, 22, 0, 0)) rfl dX7_prolong_2 rfl mlX7_23 (by assumption) rfl rfl rfl rfl rfl ?_
  refine s_X7_isPending hM0 (by omega) ?_
  show WP Γ _ _ _ _ _ _ _
  refine wp_if_ne (t := 11) (n := 8) dX7_prolong_5 (by decide) rfl (fun hc => ?_) (fun hc => ?_)
  · refine wp_aload_n (n := 12) dX7_prolong_11 rfl rfl ?_
    refine wp_iload_n (n := 13) dX7_prolong_12 rfl rfl ?_
    refine wp_iconst (n := 14) (v := nI 3) dX7_prolong_13 rfl (by decide) ?_
    refine wp_callV2 (n := 17) (rm' := (0, 0, 0, 0)) rfl dX7_prolong_14 rfl mlX7_19 (by assumption) rfl rfl rfl rfl rfl ?_
    refine s_X7_value hM0 hr (by omega) ?_
    show WP Γ _ _ _ _ _ _ _
    refine wp_iload_n (n := 18) dX7_prolong_17 rfl rfl ?_
    refine wp_iadd (n := 19) dX7_prolong_18 rfl ?_
    refine wp_istore_n (n := 20) dX7_prolong_19 rfl rfl rfl rfl ?_
    refine wp_aload_n (n := 21) dX7_prolong_20 rfl rfl ?_
    refine wp_getf (n := 24) dX7_prolong_21 rfl flX7_15 (by repeat first | assumption | exact ax_set_self _ _ _ | exact ax_newA_self _ _ _ | refine (ax_set_ne _ _ (by omega)).trans ?_ | refine (ax_newA_ne _ _ _ (by omega)).trans ?_) (by rfl) ?_
    refine wp_iload_n (n := 25) dX7_prolong_24 rfl rfl ?_
    refine wp_iconst (n := 26) (v := nI 5) dX7_prolong_25 rfl (by decide) ?_
    refine wp_imul (n := 27) dX7_prolong_26 rfl ?_
    refine wp_iconst (n := 28) (v := nI 3) dX7_prolong_27 rfl (by decide) ?_
    refine wp_iadd (n := 29) dX7_prolong_28 rfl ?_
    refine wp_iload_n (n := 30) dX7_prolong_29 rfl rfl ?_
    refine wp_iast (n := 31) (r * 5 + 3) dX7_prolong_30 rfl (by repeat first | assumption | exact ax_set_self _ _ _ | exact ax_newA_self _ _ _ | refine (ax_set_ne _ _ (by omega)).trans ?_ | refine (ax_newA_ne _ _ _ (by omega)).trans ?_) (by omega) (by simp only [nI_zero, nI_mul, nI_add]) (by omega) (by decide) ?_
    refine wp_iload_n (n := 32) dX7_prolong_31 rfl rfl ?_
    exact wp_ireturn dX7_prolong_32 rfl rfl (k1 (bI_ne hc) _ (ax_fr.set (by omega)) (hM0.setR _))
  · refine wp_bipush (n := 10) (v := (-5)) dX7_prolong_8 rfl (by decide) ?_
    exact wp_ireturn dX7_prolong_10 rfl rfl (k0 (bI_eq hc))
/-- pending, and due at the time t -/
def dueB (rw : Nat → Int32) (t : Int32) (r : Nat) : Bool := pend rw r && decide (¬ t < rw (r * 5 + 3))
theorem s_X7_expire {t : Int32} (hM : ResAt h p n rw) (hA : Γ.2.1 ≤ p) (hn : n ≤ 60)
    (k : ∀ h' rw', ax_fr p (p + 2) h h' → ResAt h' p n rw' → (∀ r j, j < 5 → rw' (r * 5 + j) = if j = 4 ∧ r < n ∧ dueB rw t r = true then nI 3 else rw (r * 5 + j)) → Q (.inl (some (.int (nI (cntB (dueB rw t) n))))) h') : WP Γ MX7_expire (2, 43, 0, 0) 0 [some (.ref p), some (.int t), none, none] [] h Q := by
  refine wp_iconst (n := 1) (v := 0) dX7_expire_0 rfl (by decide) ?_
  refine wp_istore_n (n := 2) dX7_expire_1 rfl rfl rfl rfl ?_
  refine wp_iconst (n := 3) (v := 0) dX7_expire_2 rfl (by decide) ?_
  refine wp_istore_n (n := 4) dX7_expire_3 rfl rfl rfl rfl ?_
  have L : ∀ j, j ≤ n → ∀ h1 rw1, ax_fr p (p + 2) h h1 → ResAt h1 p n rw1 → (∀ r i, i < 5 → rw1 (r * 5 + i) = if i = 4 ∧ r < j ∧ dueB rw t r = true then nI 3 else rw (r * 5 + i)) → WP Γ MX7_expire (2, 43, 0, 0) 4 [some (.ref p), some (.int t), some (.int (nI (cntB (dueB rw t) j))), some (.int (nI j))] [] h1 Q := by
    refine ax_up n (fun j hj ih => ?_)
    intro h1 rw1 hF1 hM1 hz
    have hM0 := hM1
    obtain ⟨hO, hR⟩ := hM1
    refine wp_iload_n (n := 5) dX7_expire_4 rfl rfl ?_
    refine wp_aload_n (n := 6) dX7_expire_5 rfl rfl ?_
    refine wp_getf (n := 9) dX7_expire_6 rfl flX7_9 (by repeat first | assumption | exact ax_set_self _ _ _ | exact ax_newA_self _ _ _ | refine (ax_set_ne _ _ (by omega)).trans ?_ | refine (ax_newA_ne _ _ _ (by omega)).trans ?_) (by rfl) ?_
    refine wp_icmp_ge (t := 45) (n := 12) dX7_expire_9 (by decide) rfl (fun hc => ?_) (fun hc => ?_)
    · rw [nI_le9 (by omega) (by omega)] at hc
      obtain rfl : j = n := by omega
      refine wp_iload_n (n := 46) dX7_expire_45 rfl rfl ?_
      exact wp_ireturn dX7_expire_46 rfl rfl (k h1 rw1 hF1 hM0 hz)
    · rw [nI_le9 (by omega) (by omega)] at hc
      have hlt : j < n := by omega
      have e4 : rw1 (j * 5 + 4) = rw (j * 5 + 4) := by rw [hz j 4 (by omega), if_neg (by omega)]
      have e3 : rw1 (j * 5 + 3) = rw (j * 5 + 3) := by rw [hz j 3 (by omega), if_neg (by omega)]
      have ep : pend rw1 j = pend rw j := by simp only [pend, e4]
      have N : dueB rw t j = false → WP Γ MX7_expire (2, 43, 0, 0) 39 [some (.ref p), some (.int t), some (.int (nI (cntB (dueB rw t) j))), some (.int (nI j))] [] h1 Q := by
        intro hd
        refine wp_iinc (n := 42) dX7_expire_39 rfl rfl (nI_inc j) rfl rfl rfl ?_
        refine wp_goto (t := 4) dX7_expire_42 (by decide) ?_
        have ih := ih hlt h1 rw1 hF1 hM0 (fun r i hi => ?_)
        · simp only [cntB, hd, Nat.add_zero, if_false, Bool.false_eq_true] at ih
          exact ih
        · rw [hz r i hi]
          by_cases e : r = j
          · subst e
            rw [if_neg (by omega), if_neg (by rw [hd]; simp)]
          · have : (i = 4 ∧ r < j ∧ dueB rw t r = true) ↔ (i = 4 ∧ r < j + 1 ∧ dueB rw t r = true) := by
              constructor
              · rintro ⟨a, b, c⟩; exact ⟨a, by omega, c⟩
              · rintro ⟨a, b, c⟩; exact ⟨a, by omega, c⟩
            simp only [this]
      refine wp_aload_n (n := 13) dX7_expire_12 rfl rfl ?_
      refine wp_iload_n (n := 14) dX7_expire_13 rfl rfl ?_
      refine wp_callV1 (n := 17) (rm' := (1, 22, 0, 0)) rfl dX7_expire_14 rfl mlX7_23 (by assumption) rfl rfl rfl rfl rfl ?_
      refine s_X7_isPending hM0 (by omega) ?_
      show WP Γ _ _ _ _ _ _ _
      refine wp_if_eq (t := 39) (n := 20) dX7_expire_17 (by decide) rfl (fun hq => ?_) (fun hq => ?_)
      · refine N ?_
        have := bI_eq hq
        rw [ep] at this
        simp [dueB, this]
      · have hp := bI_ne hq
        rw [ep] at hp
        refine wp_aload_n (n := 21) dX7_expire_20 rfl rfl ?_
        refine wp_iload_n (n := 22) dX7_expire_21 rfl rfl ?_
        refine wp_iconst (n := 23) (v := nI 3) dX7_expire_22 rfl (by decide) ?_
        refine wp_callV2 (n := 26) (rm' := (0, 0, 0, 0)) rfl dX7_expire_23 rfl mlX7_19 (by assumption) rfl rfl rfl rfl rfl ?_
        refine s_X7_value hM0 (by omega) (by omega) ?_
        show WP Γ _ _ _ _ _ _ _
        refine wp_iload_n (n := 27) dX7_expire_26 rfl rfl ?_
        rw [e3]
        refine wp_icmp_gt (t := 39) (n := 30) dX7_expire_27 (by decide) rfl (fun hr => ?_) (fun hr => ?_)
        · exact N (by simp [dueB, hr])
        · have hd : dueB rw t j = true := by simp [dueB, hp, hr]
          refine wp_aload_n (n := 31) dX7_expire_30 rfl rfl ?_
          refine wp_iload_n (n := 32) dX7_expire_31 rfl rfl ?_
          refine wp_iconst (n := 33) (v := nI 3) dX7_expire_32 rfl (by decide) ?_
          refine wp_callV2 (n := 36) (rm' := (0, 0, 0, 0)) rfl dX7_expire_33 rfl mlX7_27 (by assumption) rfl rfl rfl rfl rfl ?_
          refine s_X7_end hM0 hA (by omega) (fun h2 hF2 hM2 => ?_)
          show WP Γ _ _ _ _ _ _ _
          refine wp_iinc (n := 39) dX7_expire_36 rfl rfl (nI_inc _) rfl rfl rfl ?_
          refine wp_iinc (n := 42) dX7_expire_39 rfl rfl (nI_inc j) rfl rfl rfl ?_
          refine wp_goto (t := 4) dX7_expire_42 (by decide) ?_
          have ih := ih hlt h2 _ (hF1.tr hF2 (by omega) (by omega)) hM2 (fun r i hi => ?_)
          · simp only [cntB, hd, if_true] at ih
            exact ih
          · simp only [upd]
            by_cases e : r * 5 + i = j * 5 + 4
            · have e1 : r = j := by omega
              have e2 : i = 4 := by omega
              subst e1; subst e2
              rw [if_pos rfl, if_pos ⟨rfl, by omega, hd⟩]
            · rw [if_neg e, hz r i hi]
              have : (i = 4 ∧ r < j ∧ dueB rw t r = true) ↔ (i = 4 ∧ r < j + 1 ∧ dueB rw t r = true) := by
                constructor
                · rintro ⟨a, b, c⟩; exact ⟨a, by omega, c⟩
                · rintro ⟨a, b, c⟩; exact ⟨a, by omega, c⟩
              simp only [this]
  exact L 0 (by omega) h rw ax_fr.rf hM (fun r i hi => by rw [if_neg (by omega)])
/-- what is pending from a pool (s = 0) or to it (s = 1) -/
def pSum (rw : Nat → Int32) (s : Nat) (x : Int32) (n : Nat) : Int32 := sumI (fun r => if pend rw r = true ∧ rw (r * 5 + s) = x then rw (r * 5 + 2) else 0) n
theorem s_X7_pendingSum {s : Nat} (hM : ResAt h p n rw) (hn : n ≤ 60) (hs : s < 2)
    (k : Q (.inl (some (.int (pSum rw s x n)))) h) : WP Γ MX7_pendingSum (0, 0, 0, 0) 0 [some (.ref p), some (.int (nI s)), some (.int x), none, none, none] [] h Q := by
  obtain ⟨hO, hR⟩ := hM
  refine wp_iconst (n := 1) (v := 0) dX7_pendingSum_0 rfl (by decide) ?_
  refine wp_istore_n (n := 2) dX7_pendingSum_1 rfl rfl rfl rfl ?_
  refine wp_iconst (n := 3) (v := 0) dX7_pendingSum_2 rfl (by decide) ?_
  refine wp_istore (n := 5) dX7_pendingSum_3 rfl rfl rfl rfl ?_
  suffices L : ∀ j, j ≤ n → ∀ q5, WP Γ MX7_pendingSum (0, 0, 0, 0) 5 [some (.ref p), some (.int (nI s)), some (.int x), some (.int (pSum rw s x j)), some (.int (nI j)), q5] [] h Q from L 0 (Nat.zero_le _) none
  refine ax_up n (fun j hj ih => ?_)
  intro q5
  refine wp_lo (lo' := [some (.ref p), some (.int (nI s)), some (.int x), some (.int (pSum rw s x j)), some (.int (nI j)), none]) (fun k v hk => ?_) ?_
  · match k, hk with
    | 0, hk => exact hk
    | 1, hk => exact hk
    | 2, hk => exact hk
    | 3, hk => exact hk
    | 4, hk => exact hk
    | 5, hk => exact absurd hk (by simp [ax_gl])
    | k + 6, hk => exact absurd hk (by simp [ax_gl])
  refine wp_iload (n := 7) dX7_pendingSum_5 rfl rfl ?_
  refine wp_aload_n (n := 8) dX7_pendingSum_7 rfl rfl ?_
  refine wp_getf (n := 11) dX7_pendingSum_8 rfl flX7_9 (by repeat first | assumption | exact ax_set_self _ _ _ | exact ax_newA_self _ _ _ | refine (ax_set_ne _ _ (by omega)).trans ?_ | refine (ax_newA_ne _ _ _ (by omega)).trans ?_) (by rfl) ?_
  refine wp_icmp_ge (t := 63) (n := 14) dX7_pendingSum_11 (by decide) rfl (fun hc => ?_) (fun hc => ?_)
  · rw [nI_le9 (by omega) (by omega)] at hc
    obtain rfl : j = n := by omega
    refine wp_iload_n (n := 64) dX7_pendingSum_63 rfl rfl ?_
    exact wp_ireturn dX7_pendingSum_64 rfl rfl (k)
  · rw [nI_le9 (by omega) (by omega)] at hc
    have hlt : j < n := by omega
    have ih := ih hlt (some (.int (nI j * nI 5)))
    have N : ¬ (pend rw j = true ∧ rw (j * 5 + s) = x) → WP Γ MX7_pendingSum (0, 0, 0, 0) 57 [some (.ref p), some (.int (nI s)), some (.int x), some (.int (pSum rw s x j)), some (.int (nI j)), some (.int (nI j * nI 5))] [] h Q := by
      intro hno
      refine wp_iinc (n := 60) dX7_pendingSum_57 rfl rfl (nI_inc j) rfl rfl rfl ?_
      refine wp_goto (t := 5) dX7_pendingSum_60 (by decide) ?_
      simp only [pSum, sumI, if_neg hno, Int32.add_zero] at ih
      exact ih
    refine wp_iload (n := 16) dX7_pendingSum_14 rfl rfl ?_
    refine wp_iconst (n := 17) (v := nI 5) dX7_pendingSum_16 rfl (by decide) ?_
    refine wp_imul (n := 18) dX7_pendingSum_17 rfl ?_
    refine wp_istore (n := 20) dX7_pendingSum_18 rfl rfl rfl rfl ?_
    refine wp_aload_n (n := 21) dX7_pendingSum_20 rfl rfl ?_
    refine wp_getf (n := 24) dX7_pendingSum_21 rfl flX7_15 (by repeat first | assumption | exact ax_set_self _ _ _ | exact ax_newA_self _ _ _ | refine (ax_set_ne _ _ (by omega)).trans ?_ | refine (ax_newA_ne _ _ _ (by omega)).trans ?_) (by rfl) ?_
    refine wp_iload (n := 26) dX7_pendingSum_24 rfl rfl ?_
    refine wp_iconst (n := 27) (v := nI 4) dX7_pendingSum_26 rfl (by decide) ?_
    refine wp_iadd (n := 28) dX7_pendingSum_27 rfl ?_
    refine wp_iald (n := 29) (j * 5 + 4) dX7_pendingSum_28 rfl (by repeat first | assumption | exact ax_set_self _ _ _ | exact ax_newA_self _ _ _ | refine (ax_set_ne _ _ (by omega)).trans ?_ | refine (ax_newA_ne _ _ _ (by omega)).trans ?_) (by simp only [nI_zero, nI_mul, nI_add]) (by omega) (by decide) ?_
    refine wp_if_ne (t := 57) (n := 32) dX7_pendingSum_29 (by decide) rfl (fun hq => ?_) (fun hq => ?_)
    · exact N (fun q => hq (by simpa [pend] using q.1))
    · have hp : pend rw j = true := by simp [pend, hq]
      refine wp_aload_n (n := 33) dX7_pendingSum_32 rfl rfl ?_
      refine wp_getf (n := 36) dX7_pendingSum_33 rfl flX7_15 (by repeat first | assumption | exact ax_set_self _ _ _ | exact ax_newA_self _ _ _ | refine (ax_set_ne _ _ (by omega)).trans ?_ | refine (ax_newA_ne _ _ _ (by omega)).trans ?_) (by rfl) ?_
      refine wp_iload (n := 38) dX7_pendingSum_36 rfl rfl ?_
      refine wp_iload_n (n := 39) dX7_pendingSum_38 rfl rfl ?_
      refine wp_iadd (n := 40) dX7_pendingSum_39 rfl ?_
      refine wp_iald (n := 41) (j * 5 + s) dX7_pendingSum_40 rfl (by repeat first | assumption | exact ax_set_self _ _ _ | exact ax_newA_self _ _ _ | refine (ax_set_ne _ _ (by omega)).trans ?_ | refine (ax_newA_ne _ _ _ (by omega)).trans ?_) (by simp only [nI_zero, nI_mul, nI_add]) (by omega) (by decide) ?_
      refine wp_iload_n (n := 42) dX7_pendingSum_41 rfl rfl ?_
      refine wp_icmp_ne (t := 57) (n := 45) dX7_pendingSum_42 (by decide) rfl (fun hr => ?_) (fun hr => ?_)
      · exact N (fun q => hr q.2)
      · refine wp_iload_n (n := 46) dX7_pendingSum_45 rfl rfl ?_
        refine wp_aload_n (n := 47) dX7_pendingSum_46 rfl rfl ?_
        refine wp_getf (n := 50) dX7_pendingSum_47 rfl flX7_15 (by repeat first | assumption | exact ax_set_self _ _ _ | exact ax_newA_self _ _ _ | refine (ax_set_ne _ _ (by omega)).trans ?_ | refine (ax_newA_ne _ _ _ (by omega)).trans ?_) (by rfl) ?_
        refine wp_iload (n := 52) dX7_pendingSum_50 rfl rfl ?_
        refine wp_iconst (n := 53) (v := nI 2) dX7_pendingSum_52 rfl (by decide) ?_
        refine wp_iadd (n := 54) dX7_pendingSum_53 rfl ?_
        refine wp_iald (n := 55) (j * 5 + 2) dX7_pendingSum_54 rfl (by repeat first | assumption | exact ax_set_self _ _ _ | exact ax_newA_self _ _ _ | refine (ax_set_ne _ _ (by omega)).trans ?_ | refine (ax_newA_ne _ _ _ (by omega)).trans ?_) (by simp only [nI_zero, nI_mul, nI_add]) (by omega) (by decide) ?_
        refine wp_iadd (n := 56) dX7_pendingSum_55 rfl ?_
        refine wp_istore_n (n := 57) dX7_pendingSum_56 rfl rfl rfl rfl ?_
        refine wp_iinc (n := 60) dX7_pendingSum_57 rfl rfl (nI_inc j) rfl rfl rfl ?_
        refine wp_goto (t := 5) dX7_pendingSum_60 (by decide) ?_
        simp only [pSum, sumI, if_pos (And.intro hp hr)] at ih
        exact ih
/-- what is still pending from a pool behind the time t -/
def aSum (rw : Nat → Int32) (x t : Int32) (n : Nat) : Int32 := sumI (fun r => if pend rw r = true ∧ t < rw (r * 5 + 3) ∧ rw (r * 5 + 0) = x then rw (r * 5 + 2) else 0) n
theorem s_X7_pendingAfter {t : Int32} (hM : ResAt h p n rw) (hn : n ≤ 60)
    (k : Q (.inl (some (.int (aSum rw x t n)))) h) : WP Γ MX7_pendingAfter (2, 43, 0, 0) 0 [some (.ref p), some (.int x), some (.int t), none, none, none] [] h Q := by
  have hM0 := hM
  obtain ⟨hO, hR⟩ := hM
  refine wp_iconst (n := 1) (v := 0) dX7_pendingAfter_0 rfl (by decide) ?_
  refine wp_istore_n (n := 2) dX7_pendingAfter_1 rfl rfl rfl rfl ?_
  refine wp_iconst (n := 3) (v := 0) dX7_pendingAfter_2 rfl (by decide) ?_
  refine wp_istore (n := 5) dX7_pendingAfter_3 rfl rfl rfl rfl ?_
  suffices L : ∀ j, j ≤ n → ∀ q5, WP Γ MX7_pendingAfter (2, 43, 0, 0) 5 [some (.ref p), some (.int x), some (.int t), some (.int (aSum rw x t j)), some (.int (nI j)), q5] [] h Q from L 0 (Nat.zero_le _) none
  refine ax_up n (fun j hj ih => ?_)
  intro q5
  refine wp_lo (lo' := [some (.ref p), some (.int x), some (.int t), some (.int (aSum rw x t j)), some (.int (nI j)), none]) (fun k v hk => ?_) ?_
  · match k, hk with
    | 0, hk => exact hk
    | 1, hk => exact hk
    | 2, hk => exact hk
    | 3, hk => exact hk
    | 4, hk => exact hk
    | 5, hk => exact absurd hk (by simp [ax_gl])
    | k + 6, hk => exact absurd hk (by simp [ax_gl])
  refine wp_iload (n := 7) dX7_pendingAfter_5 rfl rfl ?_
  refine wp_aload_n (n := 8) dX7_pendingAfter_7 rfl rfl ?_
  refine wp_getf (n := 11) dX7_pendingAfter_8 rfl flX7_9 (by repeat first | assumption | exact ax_set_self _ _ _ | exact ax_newA_self _ _ _ | refine (ax_set_ne _ _ (by omega)).trans ?_ | refine (ax_newA_ne _ _ _ (by omega)).trans ?_) (by rfl) ?_
  refine wp_icmp_ge (t := 73) (n := 14) dX7_pendingAfter_11 (by decide) rfl (fun hc => ?_) (fun hc => ?_)
  · rw [nI_le9 (by omega) (by omega)] at hc
    obtain rfl : j = n := by omega
    refine wp_iload_n (n := 74) dX7_pendingAfter_73 rfl rfl ?_
    exact wp_ireturn dX7_pendingAfter_74 rfl rfl (k)
  · rw [nI_le9 (by omega) (by omega)] at hc
    have hlt : j < n := by omega
    have ih := ih hlt
    have N : ∀ q5, ¬ (pend rw j = true ∧ t < rw (j * 5 + 3) ∧ rw (j * 5 + 0) = x) → WP Γ MX7_pendingAfter (2, 43, 0, 0) 67 [some (.ref p), some (.int x), some (.int t), some (.int (aSum rw x t j)), some (.int (nI j)), q5] [] h Q := by
      intro q5 hno
      refine wp_iinc (n := 70) dX7_pendingAfter_67 rfl rfl (nI_inc j) rfl rfl rfl ?_
      refine wp_goto (t := 5) dX7_pendingAfter_70 (by decide) ?_
      have ih := ih q5
      simp only [aSum, sumI, if_neg hno, Int32.add_zero] at ih
      exact ih
    have Z : ∀ v, v = 0 → ¬ (pend rw j = true ∧ t < rw (j * 5 + 3)) → WP Γ MX7_pendingAfter (2, 43, 0, 0) 39 [some (.ref p), some (.int x), some (.int t), some (.int (aSum rw x t j)), some (.int (nI j)), none] [.int v] h Q := by
      intro v hv hno
      subst hv
      refine wp_istore (n := 41) dX7_pendingAfter_39 rfl rfl rfl rfl ?_
      refine wp_iload (n := 43) dX7_pendingAfter_41 rfl rfl ?_
      refine wp_if_eq (t := 67) (n := 46) dX7_pendingAfter_43 (by decide) rfl (fun h9 => ?_) (fun h9 => ?_)
      · exact N _ (fun q => hno ⟨q.1, q.2.1⟩)
      · exact absurd rfl h9
    refine wp_aload_n (n := 15) dX7_pendingAfter_14 rfl rfl ?_
    refine wp_iload (n := 17) dX7_pendingAfter_15 rfl rfl ?_
    refine wp_callV1 (n := 20) (rm' := (1, 22, 0, 0)) rfl dX7_pendingAfter_17 rfl mlX7_23 (by assumption) rfl rfl rfl rfl rfl ?_
    refine s_X7_isPending hM0 (by omega) ?_
    show WP Γ _ _ _ _ _ _ _
    refine wp_if_eq (t := 38) (n := 23) dX7_pendingAfter_20 (by decide) rfl (fun hq => ?_) (fun hq => ?_)
    · refine wp_iconst (n := 39) (v := 0) dX7_pendingAfter_38 rfl (by decide) ?_
      exact Z _ rfl (fun q => by rw [bI_eq hq] at q; exact absurd q.1 (by decide))
    · have hp := bI_ne hq
      refine wp_aload_n (n := 24) dX7_pendingAfter_23 rfl rfl ?_
      refine wp_iload (n := 26) dX7_pendingAfter_24 rfl rfl ?_
      refine wp_iconst (n := 27) (v := nI 3) dX7_pendingAfter_26 rfl (by decide) ?_
      refine wp_callV2 (n := 30) (rm' := (0, 0, 0, 0)) rfl dX7_pendingAfter_27 rfl mlX7_19 (by assumption) rfl rfl rfl rfl rfl ?_
      refine s_X7_value hM0 (by omega) (by omega) ?_
      show WP Γ _ _ _ _ _ _ _
      refine wp_iload_n (n := 31) dX7_pendingAfter_30 rfl rfl ?_
      refine wp_icmp_le (t := 38) (n := 34) dX7_pendingAfter_31 (by decide) rfl (fun hr => ?_) (fun hr => ?_)
      · refine wp_iconst (n := 39) (v := 0) dX7_pendingAfter_38 rfl (by decide) ?_
        exact Z _ rfl (fun q => absurd q.2 (Int32.not_lt.mpr hr))
      · have hr := i32_not_le hr
        refine wp_iconst (n := 35) (v := nI 1) dX7_pendingAfter_34 rfl (by decide) ?_
        refine wp_goto (t := 39) dX7_pendingAfter_35 (by decide) ?_
        refine wp_istore (n := 41) dX7_pendingAfter_39 rfl rfl rfl rfl ?_
        refine wp_iload (n := 43) dX7_pendingAfter_41 rfl rfl ?_
        refine wp_if_eq (t := 67) (n := 46) dX7_pendingAfter_43 (by decide) rfl (fun h9 => ?_) (fun h9 => ?_)
        · exact absurd h9 (by decide)
        · refine wp_aload_n (n := 47) dX7_pendingAfter_46 rfl rfl ?_
          refine wp_iload (n := 49) dX7_pendingAfter_47 rfl rfl ?_
          refine wp_iconst (n := 50) (v := 0) dX7_pendingAfter_49 rfl (by decide) ?_
          refine wp_callV2 (n := 53) (rm' := (0, 0, 0, 0)) rfl dX7_pendingAfter_50 rfl mlX7_19 (by assumption) rfl rfl rfl rfl rfl ?_
          refine s_X7_value (j := 0) hM0 (by omega) (by omega) ?_
          show WP Γ _ _ _ _ _ _ _
          refine wp_iload_n (n := 54) dX7_pendingAfter_53 rfl rfl ?_
          refine wp_icmp_ne (t := 67) (n := 57) dX7_pendingAfter_54 (by decide) rfl (fun hs => ?_) (fun hs => ?_)
          · exact N _ (fun q => hs q.2.2)
          · refine wp_iload_n (n := 58) dX7_pendingAfter_57 rfl rfl ?_
            refine wp_aload_n (n := 59) dX7_pendingAfter_58 rfl rfl ?_
            refine wp_iload (n := 61) dX7_pendingAfter_59 rfl rfl ?_
            refine wp_iconst (n := 62) (v := nI 2) dX7_pendingAfter_61 rfl (by decide) ?_
            refine wp_callV2 (n := 65) (rm' := (0, 0, 0, 0)) rfl dX7_pendingAfter_62 rfl mlX7_19 (by assumption) rfl rfl rfl rfl rfl ?_
            refine s_X7_value hM0 (by omega) (by omega) ?_
            show WP Γ _ _ _ _ _ _ _
            refine wp_iadd (n := 66) dX7_pendingAfter_65 rfl ?_
            refine wp_istore_n (n := 67) dX7_pendingAfter_66 rfl rfl rfl rfl ?_
            refine wp_iinc (n := 70) dX7_pendingAfter_67 rfl rfl (nI_inc j) rfl rfl rfl ?_
            refine wp_goto (t := 5) dX7_pendingAfter_70 (by decide) ?_
            have ih := ih (some (.int (nI 1)))
            simp only [aSum, sumI, if_pos (And.intro hp (And.intro hr hs))] at ih
            exact ih
/-- the pending reservation that expires first -/
def fteC (rw : Nat → Int32) (j : Nat) (o : Option Nat) : Bool := match o with
  | none => true
  | some i => decide (rw (j * 5 + 3) < rw (i * 5 + 3))
def fteO (rw : Nat → Int32) : Nat → Option Nat
  | 0 => none
  | j + 1 => if pend rw j = true ∧ fteC rw j (fteO rw j) = true then some j else fteO rw j
def oI (o : Option Nat) : Int32 := match o with
  | none => -1
  | some i => nI i
theorem fteO_lt (rw : Nat → Int32) : ∀ (n i : Nat), fteO rw n = some i → i < n
  | 0, i, h => by simp [fteO] at h
  | n + 1, i, h => by
    unfold fteO at h
    split at h
    · cases h; omega
    · have := fteO_lt rw n i h; omega
theorem s_X7_firstToExpire (hM : ResAt h p n rw) (hn : n ≤ 60)
    (k : Q (.inl (some (.int (oI (fteO rw n))))) h) : WP Γ MX7_firstToExpire (2, 43, 0, 0) 0 [some (.ref p), none, none, none] [] h Q := by
  have hM0 := hM
  obtain ⟨hO, hR⟩ := hM
  refine wp_iconst (n := 1) (v := (-1)) dX7_firstToExpire_0 rfl (by decide) ?_
  refine wp_istore_n (n := 2) dX7_firstToExpire_1 rfl rfl rfl rfl ?_
  refine wp_iconst (n := 3) (v := 0) dX7_firstToExpire_2 rfl (by decide) ?_
  refine wp_istore_n (n := 4) dX7_firstToExpire_3 rfl rfl rfl rfl ?_
  suffices L : ∀ j, j ≤ n → ∀ q3, WP Γ MX7_firstToExpire (2, 43, 0, 0) 4 [some (.ref p), some (.int (oI (fteO rw j))), some (.int (nI j)), q3] [] h Q from L 0 (Nat.zero_le _) none
  refine ax_up n (fun j hj ih => ?_)
  intro q3
  refine wp_lo (lo' := [some (.ref p), some (.int (oI (fteO rw j))), some (.int (nI j)), none]) (fun k v hk => ?_) ?_
  · match k, hk with
    | 0, hk => exact hk
    | 1, hk => exact hk
    | 2, hk => exact hk
    | 3, hk => exact absurd hk (by simp [ax_gl])
    | k + 4, hk => exact absurd hk (by simp [ax_gl])
  refine wp_iload_n (n := 5) dX7_firstToExpire_4 rfl rfl ?_
  refine wp_aload_n (n := 6) dX7_firstToExpire_5 rfl rfl ?_
  refine wp_getf (n := 9) dX7_firstToExpire_6 rfl flX7_9 (by repeat first | assumption | exact ax_set_self _ _ _ | exact ax_newA_self _ _ _ | refine (ax_set_ne _ _ (by omega)).trans ?_ | refine (ax_newA_ne _ _ _ (by omega)).trans ?_) (by rfl) ?_
  refine wp_icmp_ge (t := 58) (n := 12) dX7_firstToExpire_9 (by decide) rfl (fun hc => ?_) (fun hc => ?_)
  · rw [nI_le9 (by omega) (by omega)] at hc
    obtain rfl : j = n := by omega
    refine wp_iload_n (n := 59) dX7_firstToExpire_58 rfl rfl ?_
    exact wp_ireturn dX7_firstToExpire_59 rfl rfl (k)
  · rw [nI_le9 (by omega) (by omega)] at hc
    have hlt : j < n := by omega
    have ih := ih hlt
    have J : ∀ b : Bool, (b = true ↔ fteC rw j (fteO rw j) = true) → WP Γ MX7_firstToExpire (2, 43, 0, 0) 37 [some (.ref p), some (.int (oI (fteO rw j))), some (.int (nI j)), none] [.int (bI b)] h Q := by
      intro b hb
      have ih := ih (some (.int (bI b)))
      have N : ¬ (pend rw j = true ∧ b = true) → WP Γ MX7_firstToExpire (2, 43, 0, 0) 52 [some (.ref p), some (.int (oI (fteO rw j))), some (.int (nI j)), some (.int (bI b))] [] h Q := by
        intro hno
        refine wp_iinc (n := 55) dX7_firstToExpire_52 rfl rfl (nI_inc j) rfl rfl rfl ?_
        refine wp_goto (t := 4) dX7_firstToExpire_55 (by decide) ?_
        unfold fteO at ih
        rw [if_neg (fun q => hno ⟨q.1, hb.mpr q.2⟩)] at ih
        exact ih
      refine wp_istore_n (n := 38) dX7_firstToExpire_37 rfl rfl rfl rfl ?_
      refine wp_aload_n (n := 39) dX7_firstToExpire_38 rfl rfl ?_
      refine wp_iload_n (n := 40) dX7_firstToExpire_39 rfl rfl ?_
      refine wp_callV1 (n := 43) (rm' := (1, 22, 0, 0)) rfl dX7_firstToExpire_40 rfl mlX7_23 (by assumption) rfl rfl rfl rfl rfl ?_
      refine s_X7_isPending hM0 (by omega) ?_
      show WP Γ _ _ _ _ _ _ _
      refine wp_if_eq (t := 52) (n := 46) dX7_firstToExpire_43 (by decide) rfl (fun hq => ?_) (fun hq => ?_)
      · exact N (fun q => by rw [bI_eq hq] at q; exact absurd q.1 (by decide))
      · refine wp_iload_n (n := 47) dX7_firstToExpire_46 rfl rfl ?_
        refine wp_if_eq (t := 52) (n := 50) dX7_firstToExpire_47 (by decide) rfl (fun hr => ?_) (fun hr => ?_)
        · exact N (fun q => by rw [bI_eq hr] at q; exact absurd q.2 (by decide))
        · refine wp_iload_n (n := 51) dX7_firstToExpire_50 rfl rfl ?_
          refine wp_istore_n (n := 52) dX7_firstToExpire_51 rfl rfl rfl rfl ?_
          refine wp_iinc (n := 55) dX7_firstToExpire_52 rfl rfl (nI_inc j) rfl rfl rfl ?_
          refine wp_goto (t := 4) dX7_firstToExpire_55 (by decide) ?_
          unfold fteO at ih
          rw [if_pos ⟨bI_ne hq, hb.mp (bI_ne hr)⟩] at ih
          exact ih
    refine wp_iload_n (n := 13) dX7_firstToExpire_12 rfl rfl ?_
    refine wp_iconst (n := 14) (v := (-1)) dX7_firstToExpire_13 rfl (by decide) ?_
    refine wp_icmp_eq (t := 32) (n := 17) dX7_firstToExpire_14 (by decide) rfl (fun hq => ?_) (fun hq => ?_)
    · refine wp_iconst (n := 33) (v := nI 1) dX7_firstToExpire_32 rfl (by decide) ?_
      refine wp_goto (t := 37) dX7_firstToExpire_33 (by decide) ?_
      refine J true ?_
      cases e : fteO rw j with
      | none => simp [fteC]
      | some i =>
        have := fteO_lt rw j i e
        rw [e] at hq
        exact absurd hq (nI_ne_neg (by omega))
    · cases e : fteO rw j with
      | none => rw [e] at hq; exact absurd rfl hq
      | some i =>
        have hi := fteO_lt rw j i e
        simp only [e] at J ⊢
        refine wp_aload_n (n := 18) dX7_firstToExpire_17 rfl rfl ?_
        refine wp_iload_n (n := 19) dX7_firstToExpire_18 rfl rfl ?_
        refine wp_iconst (n := 20) (v := nI 3) dX7_firstToExpire_19 rfl (by decide) ?_
        refine wp_callV2 (n := 23) (rm' := (0, 0, 0, 0)) rfl dX7_firstToExpire_20 rfl mlX7_19 (by assumption) rfl rfl rfl rfl rfl ?_
        refine s_X7_value hM0 (by omega) (by omega) ?_
        show WP Γ _ _ _ _ _ _ _
        refine wp_aload_n (n := 24) dX7_firstToExpire_23 rfl rfl ?_
        refine wp_iload_n (n := 25) dX7_firstToExpire_24 rfl rfl ?_
        refine wp_iconst (n := 26) (v := nI 3) dX7_firstToExpire_25 rfl (by decide) ?_
        refine wp_callV2 (n := 29) (rm' := (0, 0, 0, 0)) rfl dX7_firstToExpire_26 rfl mlX7_19 (by assumption) rfl rfl rfl rfl rfl ?_
        refine s_X7_value hM0 (by omega) (by omega) ?_
        show WP Γ _ _ _ _ _ _ _
        refine wp_icmp_ge (t := 36) (n := 32) dX7_firstToExpire_29 (by decide) rfl (fun hr => ?_) (fun hr => ?_)
        · refine wp_iconst (n := 37) (v := 0) dX7_firstToExpire_36 rfl (by decide) ?_
          refine J false ?_
          simp only [fteC, Bool.false_eq_true, false_iff, decide_eq_true_eq]
          exact Int32.not_lt.mpr hr
        · refine wp_iconst (n := 33) (v := nI 1) dX7_firstToExpire_32 rfl (by decide) ?_
          refine wp_goto (t := 37) dX7_firstToExpire_33 (by decide) ?_
          refine J true ?_
          simp only [fteC, true_iff, decide_eq_true_eq]
          exact i32_not_le hr
/-- the first expiry after which at most y is pending from a pool -/
def tos (rw : Nat → Int32) (x y : Int32) (n : Nat) : Nat → Int32
  | 0 => -1
  | j + 1 => if pend rw j = true ∧ (tos rw x y n j = -1 ∨ rw (j * 5 + 3) < tos rw x y n j) ∧ ¬ y < aSum rw x (rw (j * 5 + 3)) n then rw (j * 5 + 3) else tos rw x y n j
theorem s_X7_timeOfSum {y : Int32} (hM : ResAt h p n rw) (hn : n ≤ 60)
    (k : Q (.inl (some (.int (tos rw x y n n)))) h) : WP Γ MX7_timeOfSum (3, 68, 0, 0) 0 [some (.ref p), some (.int x), some (.int y), none, none, none, none] [] h Q := by
  have hM0 := hM
  obtain ⟨hO, hR⟩ := hM
  refine wp_iconst (n := 1) (v := (-1)) dX7_timeOfSum_0 rfl (by decide) ?_
  refine wp_istore_n (n := 2) dX7_timeOfSum_1 rfl rfl rfl rfl ?_
  refine wp_iconst (n := 3) (v := 0) dX7_timeOfSum_2 rfl (by decide) ?_
  refine wp_istore (n := 5) dX7_timeOfSum_3 rfl rfl rfl rfl ?_
  suffices L : ∀ j, j ≤ n → ∀ q5 q6, WP Γ MX7_timeOfSum (3, 68, 0, 0) 5 [some (.ref p), some (.int x), some (.int y), some (.int (tos rw x y n j)), some (.int (nI j)), q5, q6] [] h Q from L 0 (Nat.zero_le _) none none
  refine ax_up n (fun j hj ih => ?_)
  intro q5 q6
  refine wp_lo (lo' := [some (.ref p), some (.int x), some (.int y), some (.int (tos rw x y n j)), some (.int (nI j)), none, none]) (fun k v hk => ?_) ?_
  · match k, hk with
    | 0, hk => exact hk
    | 1, hk => exact hk
    | 2, hk => exact hk
    | 3, hk => exact hk
    | 4, hk => exact hk
    | 5, hk => exact absurd hk (by simp [ax_gl])
    | 6, hk => exact absurd hk (by simp [ax_gl])
    | k + 7, hk => exact absurd hk (by simp [ax_gl])
  refine wp_iload (n := 7) dX7_timeOfSum_5 rfl rfl ?_
  refine wp_aload_n (n := 8) dX7_timeOfSum_7 rfl rfl ?_
  refine wp_getf (n := 11) dX7_timeOfSum_8 rfl flX7_9 (by repeat first | assumption | exact ax_set_self _ _ _ | exact ax_newA_self _ _ _ | refine (ax_set_ne _ _ (by omega)).trans ?_ | refine (ax_newA_ne _ _ _ (by omega)).trans ?_) (by rfl) ?_
  refine wp_icmp_ge (t := 75) (n := 14) dX7_timeOfSum_11 (by decide) rfl (fun hc => ?_) (fun hc => ?_)
  · rw [nI_le9 (by omega) (by omega)] at hc
    obtain rfl : j = n := by omega
    refine wp_iload_n (n := 76) dX7_timeOfSum_75 rfl rfl ?_
    exact wp_ireturn dX7_timeOfSum_76 rfl rfl (k)
  · rw [nI_le9 (by omega) (by omega)] at hc
    have hlt : j < n := by omega
    have ih := ih hlt
    have J : ∀ b : Bool, (b = true ↔ (tos rw x y n j = -1 ∨ rw (j * 5 + 3) < tos rw x y n j)) → WP Γ MX7_timeOfSum (3, 68, 0, 0) 39 [some (.ref p), some (.int x), some (.int y), some (.int (tos rw x y n j)), some (.int (nI j)), some (.int (rw (j * 5 + 3))), none] [.int (bI b)] h Q := by
      intro b hb
      have ih := ih (some (.int (rw (j * 5 + 3)))) (some (.int (bI b)))
      have N : ¬ (pend rw j = true ∧ b = true ∧ ¬ y < aSum rw x (rw (j * 5 + 3)) n) → WP Γ MX7_timeOfSum (3, 68, 0, 0) 69 [some (.ref p), some (.int x), some (.int y), some (.int (tos rw x y n j)), some (.int (nI j)), some (.int (rw (j * 5 + 3))), some (.int (bI b))] [] h Q := by
        intro hno
        refine wp_iinc (n := 72) dX7_timeOfSum_69 rfl rfl (nI_inc j) rfl rfl rfl ?_
        refine wp_goto (t := 5) dX7_timeOfSum_72 (by decide) ?_
        unfold tos at ih
        rw [if_neg (fun q => hno ⟨q.1, hb.mpr q.2.1, q.2.2⟩)] at ih
        exact ih
      refine wp_istore (n := 41) dX7_timeOfSum_39 rfl rfl rfl rfl ?_
      refine wp_aload_n (n := 42) dX7_timeOfSum_41 rfl rfl ?_
      refine wp_iload (n := 44) dX7_timeOfSum_42 rfl rfl ?_
      refine wp_callV1 (n := 47) (rm' := (1, 22, 0, 0)) rfl dX7_timeOfSum_44 rfl mlX7_23 (by assumption) rfl rfl rfl rfl rfl ?_
      refine s_X7_isPending hM0 (by omega) ?_
      show WP Γ _ _ _ _ _ _ _
      refine wp_if_eq (t := 69) (n := 50) dX7_timeOfSum_47 (by decide) rfl (fun hq => ?_) (fun hq => ?_)
      · exact N (fun q => by rw [bI_eq hq] at q; exact absurd q.1 (by decide))
      · refine wp_iload (n := 52) dX7_timeOfSum_50 rfl rfl ?_
        refine wp_if_eq (t := 69) (n := 55) dX7_timeOfSum_52 (by decide) rfl (fun hr => ?_) (fun hr => ?_)
        · exact N (fun q => by rw [bI_eq hr] at q; exact absurd q.2.1 (by decide))
        · refine wp_aload_n (n := 56) dX7_timeOfSum_55 rfl rfl ?_
          refine wp_iload_n (n := 57) dX7_timeOfSum_56 rfl rfl ?_
          refine wp_iload (n := 59) dX7_timeOfSum_57 rfl rfl ?_
          refine wp_callV2 (n := 62) (rm' := (2, 43, 0, 0)) rfl dX7_timeOfSum_59 rfl mlX7_35 (by assumption) rfl rfl rfl rfl rfl ?_
          refine s_X7_pendingAfter hM0 hn ?_
          show WP Γ _ _ _ _ _ _ _
          refine wp_iload_n (n := 63) dX7_timeOfSum_62 rfl rfl ?_
          refine wp_icmp_gt (t := 69) (n := 66) dX7_timeOfSum_63 (by decide) rfl (fun hs => ?_) (fun hs => ?_)
          · exact N (fun q => q.2.2 hs)
          · refine wp_iload (n := 68) dX7_timeOfSum_66 rfl rfl ?_
            refine wp_istore_n (n := 69) dX7_timeOfSum_68 rfl rfl rfl rfl ?_
            refine wp_iinc (n := 72) dX7_timeOfSum_69 rfl rfl (nI_inc j) rfl rfl rfl ?_
            refine wp_goto (t := 5) dX7_timeOfSum_72 (by decide) ?_
            unfold tos at ih
            rw [if_pos ⟨bI_ne hq, hb.mp (bI_ne hr), hs⟩] at ih
            exact ih
    refine wp_aload_n (n := 15) dX7_timeOfSum_14 rfl rfl ?_
    refine wp_iload (n := 17) dX7_timeOfSum_15 rfl rfl ?_
    refine wp_iconst (n := 18) (v := nI 3) dX7_timeOfSum_17 rfl (by decide) ?_
    refine wp_callV2 (n := 21) (rm' := (0, 0, 0, 0)) rfl dX7_timeOfSum_18 rfl mlX7_19 (by assumption) rfl rfl rfl rfl rfl ?_
    refine s_X7_value hM0 (by omega) (by omega) ?_
    show WP Γ _ _ _ _ _ _ _
    refine wp_istore (n := 23) dX7_timeOfSum_21 rfl rfl rfl rfl ?_
    refine wp_iload_n (n := 24) dX7_timeOfSum_23 rfl rfl ?_
    refine wp_iconst (n := 25) (v := (-1)) dX7_timeOfSum_24 rfl (by decide) ?_
    refine wp_icmp_eq (t := 34) (n := 28) dX7_timeOfSum_25 (by decide) rfl (fun hq => ?_) (fun hq => ?_)
    · refine wp_iconst (n := 35) (v := nI 1) dX7_timeOfSum_34 rfl (by decide) ?_
      refine wp_goto (t := 39) dX7_timeOfSum_35 (by decide) ?_
      exact J true (by simp [hq])
    · refine wp_iload (n := 30) dX7_timeOfSum_28 rfl rfl ?_
      refine wp_iload_n (n := 31) dX7_timeOfSum_30 rfl rfl ?_
      refine wp_icmp_ge (t := 38) (n := 34) dX7_timeOfSum_31 (by decide) rfl (fun hr => ?_) (fun hr => ?_)
      · refine wp_iconst (n := 39) (v := 0) dX7_timeOfSum_38 rfl (by decide) ?_
        exact J false (by simp [hq, Int32.not_lt.mpr hr])
      · refine wp_iconst (n := 35) (v := nI 1) dX7_timeOfSum_34 rfl (by decide) ?_
        refine wp_goto (t := 39) dX7_timeOfSum_35 (by decide) ?_
        exact J true (by simp [hq, i32_not_le hr])
end
