/-! ===== BlockMap: what writes ===== -/
theorem ax_fr.put {lo hi : Nat} {h h1 : AH} (hF : ax_fr lo hi h h1) {a : Nat} {e : AE} (q : lo ≤ a ∧ a < hi) : ax_fr lo hi h (ax_set h1 a e) := hF.tr (ax_fr.set (lo := lo) (hi := hi) q) ⟨Nat.le_refl _, Nat.le_refl _⟩ ⟨Nat.le_refl _, Nat.le_refl _⟩
theorem nI_dec1 (j : Nat) : nI j + Int32.ofInt (-1) = nI j - nI 1 := by
  rw [Int32.sub_eq_add_neg]
  have : Int32.ofInt (-1) = - nI 1 := by decide
  rw [this]
section
variable {h : AH} {p n : Nat} {pl tm pk : Nat → Int32}
theorem MapAt.setPl (hM : MapAt h p n pl tm pk) (f : Nat → Int32) : MapAt (ax_set h (p + 1) (.inl (.int, 200, .inl f))) p n f tm pk :=
  ⟨(ax_set_ne _ _ (by omega)).trans hM.1, ax_set_self _ _ _, (ax_set_ne _ _ (by omega)).trans hM.2.2.1, (ax_set_ne _ _ (by omega)).trans hM.2.2.2⟩
theorem MapAt.setTm (hM : MapAt h p n pl tm pk) (f : Nat → Int32) : MapAt (ax_set h (p + 2) (.inl (.int, 200, .inl f))) p n pl f pk :=
  ⟨(ax_set_ne _ _ (by omega)).trans hM.1, (ax_set_ne _ _ (by omega)).trans hM.2.1, ax_set_self _ _ _, (ax_set_ne _ _ (by omega)).trans hM.2.2.2⟩
theorem MapAt.setPk (hM : MapAt h p n pl tm pk) (f : Nat → Int32) : MapAt (ax_set h (p + 3) (.inl (.boolean, 200, .inl f))) p n pl tm f :=
  ⟨(ax_set_ne _ _ (by omega)).trans hM.1, (ax_set_ne _ _ (by omega)).trans hM.2.1, (ax_set_ne _ _ (by omega)).trans hM.2.2.1, ax_set_self _ _ _⟩
theorem MapAt.setN (hM : MapAt h p n pl tm pk) (m : Nat) : MapAt (ax_set h p (.inr (1, [.int (nI m), .ref (p + 1), .ref (p + 2), .ref (p + 3)]))) p m pl tm pk :=
  ⟨ax_set_self _ _ _, (ax_set_ne _ _ (by omega)).trans hM.2.1, (ax_set_ne _ _ (by omega)).trans hM.2.2.1, (ax_set_ne _ _ (by omega)).trans hM.2.2.2⟩
end
section
variable {Γ : GE} {h : AH} {Q : PO} {p n : Nat} {pl tm pk : Nat → Int32} {x : Int32}
theorem s_X1_put {j : Nat} {y : Int32} (hM : MapAt h p n pl tm pk) (hA : Γ.2.1 ≤ p) (hj : j < 200)
    (k : ∀ h', ax_fr p (p + 4) h h' → MapAt h' p n (upd pl j x) (upd tm j y) pk → Q (.inl none) h') : WP Γ MX1_put (0, 0, 0, 0) 0 [some (.ref p), some (.int (nI j)), some (.int x), some (.int y)] [] h Q := by
  have hM0 := hM
  obtain ⟨hO, hP, hT, hK⟩ := hM
  refine wp_aload_n (n := 1) dX1_put_0 rfl rfl ?_
  refine wp_getf (n := 4) dX1_put_1 rfl flX1_15 (by repeat first | assumption | exact ax_set_self _ _ _ | exact ax_newA_self _ _ _ | refine (ax_set_ne _ _ (by omega)).trans ?_ | refine (ax_newA_ne _ _ _ (by omega)).trans ?_) (by rfl) ?_
  refine wp_iload_n (n := 5) dX1_put_4 rfl rfl ?_
  refine wp_iload_n (n := 6) dX1_put_5 rfl rfl ?_
  refine wp_iast (n := 7) _ dX1_put_6 rfl (by repeat first | assumption | exact ax_set_self _ _ _ | exact ax_newA_self _ _ _ | refine (ax_set_ne _ _ (by omega)).trans ?_ | refine (ax_newA_ne _ _ _ (by omega)).trans ?_) (by omega) rfl (by omega) (by decide) ?_
  refine wp_aload_n (n := 8) dX1_put_7 rfl rfl ?_
  refine wp_getf (n := 11) dX1_put_8 rfl flX1_19 (by repeat first | assumption | exact ax_set_self _ _ _ | exact ax_newA_self _ _ _ | refine (ax_set_ne _ _ (by omega)).trans ?_ | refine (ax_newA_ne _ _ _ (by omega)).trans ?_) (by rfl) ?_
  refine wp_iload_n (n := 12) dX1_put_11 rfl rfl ?_
  refine wp_iload_n (n := 13) dX1_put_12 rfl rfl ?_
  refine wp_iast (n := 14) _ dX1_put_13 rfl (by repeat first | assumption | exact ax_set_self _ _ _ | exact ax_newA_self _ _ _ | refine (ax_set_ne _ _ (by omega)).trans ?_ | refine (ax_newA_ne _ _ _ (by omega)).trans ?_) (by omega) rfl (by omega) (by decide) ?_
  exact wp_return dX1_put_14 rfl (k _ (ax_fr.tr (ax_fr.set (lo := p) (hi := p + 4) (by omega)) (ax_fr.set (lo := p) (hi := p + 4) (by omega)) (by omega) (by omega)) ((hM0.setPl _).setTm _))
theorem s_X1_begin {m : Nat} (hM : MapAt h p n pl tm pk) (hA : Γ.2.1 ≤ p)
    (k : ∀ h' pl' tm', ax_fr p (p + 4) h h' → MapAt h' p m pl' tm' pk → (∀ b, b < 200 → pl' b = 0 ∧ tm' b = 0) → Q (.inl none) h') : WP Γ MX1_begin (1, 23, 0, 0) 0 [some (.ref p), some (.int (nI m)), none] [] h Q := by
  have hM0 := hM
  obtain ⟨hO, hP, hT, hK⟩ := hM
  refine wp_aload_n (n := 1) dX1_begin_0 rfl rfl ?_
  refine wp_iload_n (n := 2) dX1_begin_1 rfl rfl ?_
  refine wp_putf (n := 5) dX1_begin_2 rfl flX1_9 (by repeat first | assumption | exact ax_set_self _ _ _ | exact ax_newA_self _ _ _ | refine (ax_set_ne _ _ (by omega)).trans ?_ | refine (ax_newA_ne _ _ _ (by omega)).trans ?_) (by omega) (by rfl) rfl rfl ?_
  refine wp_iconst (n := 6) (v := 0) dX1_begin_5 rfl (by decide) ?_
  refine wp_istore_n (n := 7) dX1_begin_6 rfl rfl rfl rfl ?_
  have hM1 := hM0.setN m
  have hF1 : ax_fr p (p + 4) h (ax_set h p (.inr (1, [.int (nI m), .ref (p + 1), .ref (p + 2), .ref (p + 3)]))) := ax_fr.set (by omega)
  generalize ax_set h p (.inr (1, [.int (nI m), .ref (p + 1), .ref (p + 2), .ref (p + 3)])) = h1 at hM1 hF1 ⊢
  have L : ∀ j, j ≤ 200 → ∀ h1 pl1 tm1, ax_fr p (p + 4) h h1 → MapAt h1 p m pl1 tm1 pk → (∀ b, b < j → pl1 b = 0 ∧ tm1 b = 0) → WP Γ MX1_begin (1, 23, 0, 0) 7 [some (.ref p), some (.int (nI m)), some (.int (nI j))] [] h1 Q := by
    refine ax_up 200 (fun j hj ih => ?_)
    intro h1 pl1 tm1 hF1 hM1 hz
    have hM0 := hM1
    obtain ⟨hO, hP, hT, hK⟩ := hM1
    refine wp_iload_n (n := 8) dX1_begin_7 rfl rfl ?_
    refine wp_sipush (n := 11) (v := nI 200) dX1_begin_8 rfl (by decide) ?_
    refine wp_icmp_ge (t := 27) (n := 14) dX1_begin_11 (by decide) rfl (fun hc => ?_) (fun hc => ?_)
    · rw [nI_le9 (by omega) (by omega)] at hc
      obtain rfl : j = 200 := by omega
      exact wp_return dX1_begin_27 rfl (k h1 pl1 tm1 hF1 hM0 hz)
    · rw [nI_le9 (by omega) (by omega)] at hc
      have hlt : j < 200 := by omega
      refine wp_aload_n (n := 15) dX1_begin_14 rfl rfl ?_
      refine wp_iload_n (n := 16) dX1_begin_15 rfl rfl ?_
      refine wp_iconst (n := 17) (v := 0) dX1_begin_16 rfl (by decide) ?_
      refine wp_iconst (n := 18) (v := 0) dX1_begin_17 rfl (by decide) ?_
      refine wp_callV3 (n := 21) (rm' := (0, 0, 0, 0)) rfl dX1_begin_18 rfl mlX1_26 (by assumption) rfl rfl rfl rfl rfl ?_
      refine s_X1_put hM0 hA hlt (fun h2 hF2 hM2 => ?_)
      show WP Γ _ _ _ _ _ _ _
      refine wp_iinc (n := 24) dX1_begin_21 rfl rfl (nI_inc j) rfl rfl rfl ?_
      refine wp_goto (t := 7) dX1_begin_24 (by decide) ?_
      refine ih hlt h2 _ _ (hF1.tr hF2 (by omega) (by omega)) hM2 (fun b hb => ?_)
      simp only [upd]
      by_cases e : b = j
      · rw [if_pos e, if_pos e]; exact ⟨rfl, rfl⟩
      · rw [if_neg e, if_neg e]; exact hz b (by omega)
  exact L 0 (by omega) h1 pl tm hF1 hM1 (fun b hb => absurd hb (Nat.not_lt_zero b))
theorem s_X1_exchange {i j : Nat} (hM : MapAt h p n pl tm pk) (hA : Γ.2.1 ≤ p) (hi : i < 200) (hj : j < 200)
    (k : ∀ h', ax_fr p (p + 4) h h' → MapAt h' p n (upd (upd pl i (pl j)) j (pl i)) (upd (upd tm i (tm j)) j (tm i)) pk → Q (.inl (some (.int (bI (decide (¬ upd (upd pl i (pl j)) j (pl i) i = pl i)))))) h') : WP Γ MX1_exchange (1, 23, 0, 0) 0 [some (.ref p), some (.int (nI i)), some (.int (nI j)), none, none] [] h Q := by
  have hM0 := hM
  obtain ⟨hO, hP, hT, hK⟩ := hM
  refine wp_aload_n (n := 1) dX1_exchange_0 rfl rfl ?_
  refine wp_getf (n := 4) dX1_exchange_1 rfl flX1_15 (by repeat first | assumption | exact ax_set_self _ _ _ | exact ax_newA_self _ _ _ | refine (ax_set_ne _ _ (by omega)).trans ?_ | refine (ax_newA_ne _ _ _ (by omega)).trans ?_) (by rfl) ?_
  refine wp_iload_n (n := 5) dX1_exchange_4 rfl rfl ?_
  refine wp_iald (n := 6) _ dX1_exchange_5 rfl (by repeat first | assumption | exact ax_set_self _ _ _ | exact ax_newA_self _ _ _ | refine (ax_set_ne _ _ (by omega)).trans ?_ | refine (ax_newA_ne _ _ _ (by omega)).trans ?_) rfl (by omega) (by decide) ?_
  refine wp_istore_n (n := 7) dX1_exchange_6 rfl rfl rfl rfl ?_
  refine wp_aload_n (n := 8) dX1_exchange_7 rfl rfl ?_
  refine wp_getf (n := 11) dX1_exchange_8 rfl flX1_19 (by repeat first | assumption | exact ax_set_self _ _ _ | exact ax_newA_self _ _ _ | refine (ax_set_ne _ _ (by omega)).trans ?_ | refine (ax_newA_ne _ _ _ (by omega)).trans ?_) (by rfl) ?_
  refine wp_iload_n (n := 12) dX1_exchange_11 rfl rfl ?_
  refine wp_iald (n := 13) _ dX1_exchange_12 rfl (by repeat first | assumption | exact ax_set_self _ _ _ | exact ax_newA_self _ _ _ | refine (ax_set_ne _ _ (by omega)).trans ?_ | refine (ax_newA_ne _ _ _ (by omega)).trans ?_) rfl (by omega) (by decide) ?_
  refine wp_istore (n := 15) dX1_exchange_13 rfl rfl rfl rfl ?_
  refine wp_aload_n (n := 16) dX1_exchange_15 rfl rfl ?_
  refine wp_iload_n (n := 17) dX1_exchange_16 rfl rfl ?_
  refine wp_aload_n (n := 18) dX1_exchange_17 rfl rfl ?_
  refine wp_getf (n := 21) dX1_exchange_18 rfl flX1_15 (by repeat first | assumption | exact ax_set_self _ _ _ | exact ax_newA_self _ _ _ | refine (ax_set_ne _ _ (by omega)).trans ?_ | refine (ax_newA_ne _ _ _ (by omega)).trans ?_) (by rfl) ?_
  refine wp_iload_n (n := 22) dX1_exchange_21 rfl rfl ?_
  refine wp_iald (n := 23) _ dX1_exchange_22 rfl (by repeat first | assumption | exact ax_set_self _ _ _ | exact ax_newA_self _ _ _ | refine (ax_set_ne _ _ (by omega)).trans ?_ | refine (ax_newA_ne _ _ _ (by omega)).trans ?_) rfl (by omega) (by decide) ?_
  refine wp_aload_n (n := 24) dX1_exchange_23 rfl rfl ?_
  refine wp_getf (n := 27) dX1_exchange_24 rfl flX1_19 (by repeat first | assumption | exact ax_set_self _ _ _ | exact ax_newA_self _ _ _ | refine (ax_set_ne _ _ (by omega)).trans ?_ | refine (ax_newA_ne _ _ _ (by omega)).trans ?_) (by rfl) ?_
  refine wp_iload_n (n := 28) dX1_exchange_27 rfl rfl ?_
  refine wp_iald (n := 29) _ dX1_exchange_28 rfl (by repeat first | assumption | exact ax_set_self _ _ _ | exact ax_newA_self _ _ _ | refine (ax_set_ne _ _ (by omega)).trans ?_ | refine (ax_newA_ne _ _ _ (by omega)).trans ?_) rfl (by omega) (by decide) ?_
  refine wp_callV3 (n := 32) (rm' := (0, 0, 0, 0)) rfl dX1_exchange_29 rfl mlX1_26 (by assumption) rfl rfl rfl rfl rfl ?_
  refine s_X1_put hM0 hA hi (fun h1 hF1 hM1 => ?_)
  show WP Γ _ _ _ _ _ _ _
  have hM2 := hM1
  obtain ⟨hO, hP, hT, hK⟩ := hM1
  refine wp_aload_n (n := 33) dX1_exchange_32 rfl rfl ?_
  refine wp_iload_n (n := 34) dX1_exchange_33 rfl rfl ?_
  refine wp_iload_n (n := 35) dX1_exchange_34 rfl rfl ?_
  refine wp_iload (n := 37) dX1_exchange_35 rfl rfl ?_
  refine wp_callV3 (n := 40) (rm' := (0, 0, 0, 0)) rfl dX1_exchange_37 rfl mlX1_26 (by assumption) rfl rfl rfl rfl rfl ?_
  refine s_X1_put hM2 hA hj (fun h2 hF2 hM3 => ?_)
  show WP Γ _ _ _ _ _ _ _
  have hk := k h2 (hF1.tr hF2 (by omega) (by omega)) hM3
  obtain ⟨hO, hP, hT, hK⟩ := hM3
  refine wp_aload_n (n := 41) dX1_exchange_40 rfl rfl ?_
  refine wp_getf (n := 44) dX1_exchange_41 rfl flX1_15 (by repeat first | assumption | exact ax_set_self _ _ _ | exact ax_newA_self _ _ _ | refine (ax_set_ne _ _ (by omega)).trans ?_ | refine (ax_newA_ne _ _ _ (by omega)).trans ?_) (by rfl) ?_
  refine wp_iload_n (n := 45) dX1_exchange_44 rfl rfl ?_
  refine wp_iald (n := 46) _ dX1_exchange_45 rfl (by repeat first | assumption | exact ax_set_self _ _ _ | exact ax_newA_self _ _ _ | refine (ax_set_ne _ _ (by omega)).trans ?_ | refine (ax_newA_ne _ _ _ (by omega)).trans ?_) rfl (by omega) (by decide) ?_
  refine wp_iload_n (n := 47) dX1_exchange_46 rfl rfl ?_
  refine wp_icmp_eq (t := 54) (n := 50) dX1_exchange_47 (by decide) rfl (fun hc => ?_) (fun hc => ?_)
  · refine wp_iconst (n := 55) (v := 0) dX1_exchange_54 rfl (by decide) ?_
    simp only [hc, not_true_eq_false, decide_false, bI, if_false, Bool.false_eq_true] at hk
    exact wp_ireturn dX1_exchange_55 rfl rfl (hk)
  · refine wp_iconst (n := 51) (v := nI 1) dX1_exchange_50 rfl (by decide) ?_
    refine wp_goto (t := 55) dX1_exchange_51 (by decide) ?_
    simp only [hc, not_false_eq_true, decide_true, bI, if_true] at hk
    exact wp_ireturn dX1_exchange_55 rfl rfl (hk)
theorem s_X1_pickNothing (hM : MapAt h p n pl tm pk) (hA : Γ.2.1 ≤ p)
    (k : ∀ h' pk', ax_fr p (p + 4) h h' → MapAt h' p n pl tm pk' → (∀ b, b < 200 → pk' b = 0) → Q (.inl none) h') : WP Γ MX1_pickNothing (0, 0, 0, 0) 0 [some (.ref p), none] [] h Q := by
  refine wp_iconst (n := 1) (v := 0) dX1_pickNothing_0 rfl (by decide) ?_
  refine wp_istore_n (n := 2) dX1_pickNothing_1 rfl rfl rfl rfl ?_
  have L : ∀ j, j ≤ 200 → ∀ h1 pk1, ax_fr p (p + 4) h h1 → MapAt h1 p n pl tm pk1 → (∀ b, b < j → pk1 b = 0) → WP Γ MX1_pickNothing (0, 0, 0, 0) 2 [some (.ref p), some (.int (nI j))] [] h1 Q := by
    refine ax_up 200 (fun j hj ih => ?_)
    intro h1 pk1 hF1 hM1 hz
    have hM0 := hM1
    obtain ⟨hO, hP, hT, hK⟩ := hM1
    refine wp_iload_n (n := 3) dX1_pickNothing_2 rfl rfl ?_
    refine wp_sipush (n := 6) (v := nI 200) dX1_pickNothing_3 rfl (by decide) ?_
    refine wp_icmp_ge (t := 22) (n := 9) dX1_pickNothing_6 (by decide) rfl (fun hc => ?_) (fun hc => ?_)
    · rw [nI_le9 (by omega) (by omega)] at hc
      obtain rfl : j = 200 := by omega
      exact wp_return dX1_pickNothing_22 rfl (k h1 pk1 hF1 hM0 hz)
    · rw [nI_le9 (by omega) (by omega)] at hc
      have hlt : j < 200 := by omega
      refine wp_aload_n (n := 10) dX1_pickNothing_9 rfl rfl ?_
      refine wp_getf (n := 13) dX1_pickNothing_10 rfl flX1_22 (by repeat first | assumption | exact ax_set_self _ _ _ | exact ax_newA_self _ _ _ | refine (ax_set_ne _ _ (by omega)).trans ?_ | refine (ax_newA_ne _ _ _ (by omega)).trans ?_) (by rfl) ?_
      refine wp_iload_n (n := 14) dX1_pickNothing_13 rfl rfl ?_
      refine wp_iconst (n := 15) (v := 0) dX1_pickNothing_14 rfl (by decide) ?_
      refine wp_zast (n := 16) _ dX1_pickNothing_15 rfl (by repeat first | assumption | exact ax_set_self _ _ _ | exact ax_newA_self _ _ _ | refine (ax_set_ne _ _ (by omega)).trans ?_ | refine (ax_newA_ne _ _ _ (by omega)).trans ?_) (by omega) rfl (by omega) (by decide) rfl ?_
      refine wp_iinc (n := 19) dX1_pickNothing_16 rfl rfl (nI_inc j) rfl rfl rfl ?_
      refine wp_goto (t := 2) dX1_pickNothing_19 (by decide) ?_
      refine ih hlt _ _ (hF1.put (by omega)) (hM0.setPk _) (fun b hb => ?_)
      simp only [upd]
      by_cases e : b = j
      · rw [if_pos e]
      · rw [if_neg e]; exact hz b (by omega)
  exact L 0 (by omega) h pk ax_fr.rf hM (fun b hb => absurd hb (Nat.not_lt_zero b))
theorem s_X1_pickOne {j : Nat} (hM : MapAt h p n pl tm pk) (hA : Γ.2.1 ≤ p) (hj : j < 200)
    (k : ∀ h' pk', ax_fr p (p + 4) h h' → MapAt h' p n pl tm pk' → (∀ b, b < 200 → pk' b = bI (decide (b = j))) → Q (.inl none) h') : WP Γ MX1_pickOne (1, 21, 0, 0) 0 [some (.ref p), some (.int (nI j))] [] h Q := by
  have hM0 := hM
  obtain ⟨hO, hP, hT, hK⟩ := hM
  refine wp_aload_n (n := 1) dX1_pickOne_0 rfl rfl ?_
  refine wp_callV0 (n := 4) (rm' := (0, 0, 0, 0)) rfl dX1_pickOne_1 rfl mlX1_36 (by assumption) rfl rfl rfl rfl rfl ?_
  refine s_X1_pickNothing hM0 hA (fun h1 pk1 hF1 hM1 hz => ?_)
  show WP Γ _ _ _ _ _ _ _
  have hM2 := hM1
  obtain ⟨hO, hP, hT, hK⟩ := hM1
  refine wp_aload_n (n := 5) dX1_pickOne_4 rfl rfl ?_
  refine wp_getf (n := 8) dX1_pickOne_5 rfl flX1_22 (by repeat first | assumption | exact ax_set_self _ _ _ | exact ax_newA_self _ _ _ | refine (ax_set_ne _ _ (by omega)).trans ?_ | refine (ax_newA_ne _ _ _ (by omega)).trans ?_) (by rfl) ?_
  refine wp_iload_n (n := 9) dX1_pickOne_8 rfl rfl ?_
  refine wp_iconst (n := 10) (v := nI 1) dX1_pickOne_9 rfl (by decide) ?_
  refine wp_zast (n := 11) _ dX1_pickOne_10 rfl (by repeat first | assumption | exact ax_set_self _ _ _ | exact ax_newA_self _ _ _ | refine (ax_set_ne _ _ (by omega)).trans ?_ | refine (ax_newA_ne _ _ _ (by omega)).trans ?_) (by omega) rfl (by omega) (by decide) rfl ?_
  refine wp_return dX1_pickOne_11 rfl (k _ _ (hF1.put (by omega)) (hM2.setPk _) (fun b hb => ?_))
  simp only [upd, bI]
  by_cases e : b = j
  · simp [e]
  · simp [e, hz b hb]
/-- the first w blocks of the pool x from s on -/
def selL (pl : Nat → Int32) (n : Nat) (x : Int32) (w s b : Nat) : Bool := decide (s ≤ b ∧ b < n ∧ pl b = x ∧ cnt pl x b - cnt pl x s < w)
/-- the last w blocks of the pool x -/
def selH (pl : Nat → Int32) (n : Nat) (x : Int32) (w b : Nat) : Bool := decide (b < n ∧ pl b = x ∧ cnt pl x n - cnt pl x (b + 1) < w)
theorem s_X1_pickLowest {w s : Nat} (hM : MapAt h p n pl tm pk) (hA : Γ.2.1 ≤ p) (hn : n ≤ 200) (hw : w ≤ 200) (hs : s ≤ n) (h0 : ∀ b, b < 200 → pk b = 0)
    (k : ∀ h' pk', ax_fr p (p + 4) h h' → MapAt h' p n pl tm pk' → (∀ b, b < 200 → pk' b = bI (selL pl n x w s b)) → Q (.inl none) h') : WP Γ MX1_pickLowest (0, 0, 0, 0) 0 [some (.ref p), some (.int x), some (.int (nI w)), some (.int (nI s)), none, none] [] h Q := by
  refine wp_iload_n (n := 1) dX1_pickLowest_0 rfl rfl ?_
  refine wp_istore (n := 3) dX1_pickLowest_1 rfl rfl rfl rfl ?_
  refine wp_iload_n (n := 4) dX1_pickLowest_3 rfl rfl ?_
  refine wp_istore (n := 6) dX1_pickLowest_4 rfl rfl rfl rfl ?_
  have L : ∀ j, j ≤ n → ∀ l h1 pk1, s ≤ j → l + (cnt pl x j - cnt pl x s) = w → ax_fr p (p + 4) h h1 → MapAt h1 p n pl tm pk1 → (∀ b, b < 200 → pk1 b = bI (decide (b < j) && selL pl n x w s b)) → WP Γ MX1_pickLowest (0, 0, 0, 0) 6 [some (.ref p), some (.int x), some (.int (nI w)), some (.int (nI s)), some (.int (nI l)), some (.int (nI j))] [] h1 Q := by
    refine ax_up n (fun j hj ih => ?_)
    intro l h1 pk1 hsj hl hF1 hM1 hz
    have hM0 := hM1
    obtain ⟨hO, hP, hT, hK⟩ := hM1
    have hend : (j = n ∨ l = 0) → ∀ b, b < 200 → pk1 b = bI (selL pl n x w s b) := by
      intro he b hb
      rw [hz b hb]
      by_cases q : b < j
      · simp [q]
      · have : selL pl n x w s b = false := by
          rw [selL, decide_eq_false_iff_not]
          rintro ⟨q1, q2, q3, q4⟩
          rcases he with e | e
          · omega
          · have := cnt_mono pl x (Nat.le_of_not_lt q)
            omega
        simp [q, this]
    refine wp_iload (n := 8) dX1_pickLowest_6 rfl rfl ?_
    refine wp_aload_n (n := 9) dX1_pickLowest_8 rfl rfl ?_
    refine wp_getf (n := 12) dX1_pickLowest_9 rfl flX1_9 (by repeat first | assumption | exact ax_set_self _ _ _ | exact ax_newA_self _ _ _ | refine (ax_set_ne _ _ (by omega)).trans ?_ | refine (ax_newA_ne _ _ _ (by omega)).trans ?_) (by rfl) ?_
    refine wp_icmp_ge (t := 48) (n := 15) dX1_pickLowest_12 (by decide) rfl (fun hc => ?_) (fun hc => ?_)
    · rw [nI_le9 (by omega) (by omega)] at hc
      exact wp_return dX1_pickLowest_48 rfl (k h1 pk1 hF1 hM0 (hend (Or.inl (by omega))))
    · rw [nI_le9 (by omega) (by omega)] at hc
      have hlt : j < n := by omega
      refine wp_iload (n := 17) dX1_pickLowest_15 rfl rfl ?_
      refine wp_if_le (t := 48) (n := 20) dX1_pickLowest_17 (by decide) rfl (fun hq => ?_) (fun hq => ?_)
      · rw [nI_zero, nI_le9 (by omega) (by omega)] at hq
        exact wp_return dX1_pickLowest_48 rfl (k h1 pk1 hF1 hM0 (hend (Or.inr (by omega))))
      · rw [nI_zero, nI_le9 (by omega) (by omega)] at hq
        have hmn := cnt_mono pl x hsj
        refine wp_aload_n (n := 21) dX1_pickLowest_20 rfl rfl ?_
        refine wp_getf (n := 24) dX1_pickLowest_21 rfl flX1_15 (by repeat first | assumption | exact ax_set_self _ _ _ | exact ax_newA_self _ _ _ | refine (ax_set_ne _ _ (by omega)).trans ?_ | refine (ax_newA_ne _ _ _ (by omega)).trans ?_) (by rfl) ?_
        refine wp_iload (n := 26) dX1_pickLowest_24 rfl rfl ?_
        refine wp_iald (n := 27) _ dX1_pickLowest_26 rfl (by repeat first | assumption | exact ax_set_self _ _ _ | exact ax_newA_self _ _ _ | refine (ax_set_ne _ _ (by omega)).trans ?_ | refine (ax_newA_ne _ _ _ (by omega)).trans ?_) rfl (by omega) (by decide) ?_
        refine wp_iload_n (n := 28) dX1_pickLowest_27 rfl rfl ?_
        refine wp_icmp_ne (t := 42) (n := 31) dX1_pickLowest_28 (by decide) rfl (fun hr => ?_) (fun hr => ?_)
        · refine wp_iinc (n := 45) dX1_pickLowest_42 rfl rfl (nI_inc j) rfl rfl rfl ?_
          refine wp_goto (t := 6) dX1_pickLowest_45 (by decide) ?_
          refine ih hlt l h1 pk1 (by omega) (by simp only [cnt, if_neg hr]; omega) hF1 hM0 (fun b hb => ?_)
          rw [hz b hb]
          by_cases e : b = j
          · subst e
            simp [selL, hr]
          · have e2 : decide (b < j) = decide (b < j + 1) := by
              rw [decide_eq_decide]; omega
            rw [e2]
        · obtain ⟨l, rfl⟩ : ∃ l', l = l' + 1 := ⟨l - 1, by omega⟩
          refine wp_aload_n (n := 32) dX1_pickLowest_31 rfl rfl ?_
          refine wp_getf (n := 35) dX1_pickLowest_32 rfl flX1_22 (by repeat first | assumption | exact ax_set_self _ _ _ | exact ax_newA_self _ _ _ | refine (ax_set_ne _ _ (by omega)).trans ?_ | refine (ax_newA_ne _ _ _ (by omega)).trans ?_) (by rfl) ?_
          refine wp_iload (n := 37) dX1_pickLowest_35 rfl rfl ?_
          refine wp_iconst (n := 38) (v := nI 1) dX1_pickLowest_37 rfl (by decide) ?_
          refine wp_zast (n := 39) _ dX1_pickLowest_38 rfl (by repeat first | assumption | exact ax_set_self _ _ _ | exact ax_newA_self _ _ _ | refine (ax_set_ne _ _ (by omega)).trans ?_ | refine (ax_newA_ne _ _ _ (by omega)).trans ?_) (by omega) rfl (by omega) (by decide) rfl ?_
          refine wp_iinc (n := 42) dX1_pickLowest_39 rfl rfl (nI_dec l) rfl rfl rfl ?_
          refine wp_iinc (n := 45) dX1_pickLowest_42 rfl rfl (nI_inc j) rfl rfl rfl ?_
          refine wp_goto (t := 6) dX1_pickLowest_45 (by decide) ?_
          refine ih hlt l _ _ (by omega) (by simp only [cnt, if_pos hr]; omega) (hF1.put (by omega)) (hM0.setPk _) (fun b hb => ?_)
          simp only [upd]
          by_cases e : b = j
          · subst e
            have : selL pl n x w s b = true := by
              rw [selL, decide_eq_true_eq]
              exact ⟨hsj, hlt, hr, by omega⟩
            simp [this, bI]
          · rw [if_neg e, hz b hb]
            have e2 : decide (b < j) = decide (b < j + 1) := by
              rw [decide_eq_decide]; omega
            rw [e2]
  refine L s hs w h pk (Nat.le_refl _) (by omega) ax_fr.rf hM (fun b hb => ?_)
  rw [h0 b hb]
  by_cases q : b < s
  · have : selL pl n x w s b = false := by
      rw [selL, decide_eq_false_iff_not]
      rintro ⟨q1, -⟩
      omega
    simp [this, bI]
  · simp [q, bI]
theorem s_X1_pickHighest {w : Nat} (hM : MapAt h p n pl tm pk) (hA : Γ.2.1 ≤ p) (hn : n ≤ 200) (hw : w ≤ 200) (h0 : ∀ b, b < 200 → pk b = 0)
    (k : ∀ h' pk', ax_fr p (p + 4) h h' → MapAt h' p n pl tm pk' → (∀ b, b < 200 → pk' b = bI (selH pl n x w b)) → Q (.inl none) h') : WP Γ MX1_pickHighest (0, 0, 0, 0) 0 [some (.ref p), some (.int x), some (.int (nI w)), none, none] [] h Q := by
  have hM0 := hM
  obtain ⟨hO, hP, hT, hK⟩ := hM
  refine wp_iload_n (n := 1) dX1_pickHighest_0 rfl rfl ?_
  refine wp_istore_n (n := 2) dX1_pickHighest_1 rfl rfl rfl rfl ?_
  refine wp_aload_n (n := 3) dX1_pickHighest_2 rfl rfl ?_
  refine wp_getf (n := 6) dX1_pickHighest_3 rfl flX1_9 (by repeat first | assumption | exact ax_set_self _ _ _ | exact ax_newA_self _ _ _ | refine (ax_set_ne _ _ (by omega)).trans ?_ | refine (ax_newA_ne _ _ _ (by omega)).trans ?_) (by rfl) ?_
  refine wp_iconst (n := 7) (v := nI 1) dX1_pickHighest_6 rfl (by decide) ?_
  refine wp_isub (n := 8) dX1_pickHighest_7 rfl ?_
  have L : ∀ j, j ≤ n → ∀ l h1 pk1 v, v = nI j - nI 1 → l + (cnt pl x n - cnt pl x j) = w → ax_fr p (p + 4) h h1 → MapAt h1 p n pl tm pk1 → (∀ b, b < 200 → pk1 b = bI (decide (j ≤ b) && selH pl n x w b)) → WP Γ MX1_pickHighest (0, 0, 0, 0) 10 [some (.ref p), some (.int x), some (.int (nI w)), some (.int (nI l)), some (.int v)] [] h1 Q := by
    intro j
    induction j with
    | zero =>
      intro hj l h1 pk1 v hv hl hF1 hM1 hz
      have hM0 := hM1
      obtain ⟨hO, hP, hT, hK⟩ := hM1
      refine wp_iload (n := 12) dX1_pickHighest_10 rfl rfl ?_
      refine wp_if_lt (t := 47) (n := 15) dX1_pickHighest_12 (by decide) rfl (fun hc => ?_) (fun hc => ?_)
      · refine wp_return dX1_pickHighest_47 rfl (k h1 pk1 hF1 hM0 (fun b hb => ?_))
        rw [hz b hb]
        simp
      · subst hv
        exact absurd (by decide) hc
    | succ j ih =>
      intro hj l h1 pk1 v hv hl hF1 hM1 hz
      rw [nI_sub (by omega)] at hv
      subst hv
      have hM0 := hM1
      obtain ⟨hO, hP, hT, hK⟩ := hM1
      refine wp_iload (n := 12) dX1_pickHighest_10 rfl rfl ?_
      refine wp_if_lt (t := 47) (n := 15) dX1_pickHighest_12 (by decide) rfl (fun hc => ?_) (fun hc => ?_)
      · exact absurd hc (nI_pos (by omega))
      · refine wp_iload_n (n := 16) dX1_pickHighest_15 rfl rfl ?_
        refine wp_if_le (t := 47) (n := 19) dX1_pickHighest_16 (by decide) rfl (fun hq => ?_) (fun hq => ?_)
        · rw [nI_zero, nI_le9 (by omega) (by omega)] at hq
          refine wp_return dX1_pickHighest_47 rfl (k h1 pk1 hF1 hM0 (fun b hb => ?_))
          rw [hz b hb]
          by_cases q : j + 1 ≤ b
          · simp [q]
          · have : selH pl n x w b = false := by
              rw [selH, decide_eq_false_iff_not]
              rintro ⟨q2, q3, q4⟩
              have := cnt_mono pl x (show b + 1 ≤ j + 1 by omega)
              omega
            simp [this]
        · rw [nI_zero, nI_le9 (by omega) (by omega)] at hq
          have hmn := cnt_mono pl x hj
          refine wp_aload_n (n := 20) dX1_pickHighest_19 rfl rfl ?_
          refine wp_getf (n := 23) dX1_pickHighest_20 rfl flX1_15 (by repeat first | assumption | exact ax_set_self _ _ _ | exact ax_newA_self _ _ _ | refine (ax_set_ne _ _ (by omega)).trans ?_ | refine (ax_newA_ne _ _ _ (by omega)).trans ?_) (by rfl) ?_
          refine wp_iload (n := 25) dX1_pickHighest_23 rfl rfl ?_
          refine wp_iald (n := 26) j dX1_pickHighest_25 rfl (by assumption) (by rw [Nat.add_sub_cancel]) (by omega) (by decide) ?_
          refine wp_iload_n (n := 27) dX1_pickHighest_26 rfl rfl ?_
          refine wp_icmp_ne (t := 41) (n := 30) dX1_pickHighest_27 (by decide) rfl (fun hr => ?_) (fun hr => ?_)
          · refine wp_iinc (n := 44) dX1_pickHighest_41 rfl rfl rfl rfl rfl rfl ?_
            refine wp_goto (t := 10) dX1_pickHighest_44 (by decide) ?_
            refine ih (by omega) l h1 pk1 _ ?_ (by simp only [cnt, if_neg hr] at hl; omega) hF1 hM0 (fun b hb => ?_)
            · rw [Nat.add_sub_cancel]; exact nI_dec1 j
            · rw [hz b hb]
              by_cases e : b = j
              · subst e
                simp [selH, hr]
              · have e2 : decide (j + 1 ≤ b) = decide (j ≤ b) := by
                  rw [decide_eq_decide]; omega
                rw [e2]
          · obtain ⟨l, rfl⟩ : ∃ l', l = l' + 1 := ⟨l - 1, by omega⟩
            refine wp_aload_n (n := 31) dX1_pickHighest_30 rfl rfl ?_
            refine wp_getf (n := 34) dX1_pickHighest_31 rfl flX1_22 (by repeat first | assumption | exact ax_set_self _ _ _ | exact ax_newA_self _ _ _ | refine (ax_set_ne _ _ (by omega)).trans ?_ | refine (ax_newA_ne _ _ _ (by omega)).trans ?_) (by rfl) ?_
            refine wp_iload (n := 36) dX1_pickHighest_34 rfl rfl ?_
            refine wp_iconst (n := 37) (v := nI 1) dX1_pickHighest_36 rfl (by decide) ?_
            refine wp_zast (n := 38) _ dX1_pickHighest_37 rfl (by assumption) (by omega) (show _ = nI j by rw [Nat.add_sub_cancel]) (by omega) (by decide) rfl ?_
            refine wp_iinc (n := 41) dX1_pickHighest_38 rfl rfl (nI_dec l) rfl rfl rfl ?_
            refine wp_iinc (n := 44) dX1_pickHighest_41 rfl rfl rfl rfl rfl rfl ?_
            refine wp_goto (t := 10) dX1_pickHighest_44 (by decide) ?_
            have h5 : cnt pl x (j + 1) = cnt pl x j + 1 := by simp only [cnt, if_pos hr]
            refine ih (by omega) l _ _ _ ?_ (by omega) (hF1.put (by omega)) (hM0.setPk _) (fun b hb => ?_)
            · rw [Nat.add_sub_cancel]; exact nI_dec1 j
            · simp only [upd]
              by_cases e : b = j
              · subst e
                have : selH pl n x w b = true := by
                  rw [selH, decide_eq_true_eq]
                  exact ⟨by omega, hr, by omega⟩
                simp [this, bI]
              · rw [if_neg e, hz b hb]
                have e2 : decide (j + 1 ≤ b) = decide (j ≤ b) := by
                  rw [decide_eq_decide]; omega
                rw [e2]
  refine wp_istore (n := 10) dX1_pickHighest_8 rfl rfl rfl rfl ?_
  refine L n (Nat.le_refl _) w h pk _ rfl (by omega) ax_fr.rf hM0 (fun b hb => ?_)
  rw [h0 b hb]
  by_cases q : n ≤ b
  · have : selH pl n x w b = false := by
      rw [selH, decide_eq_false_iff_not]
      rintro ⟨q1, -⟩
      omega
    simp [this, bI]
  · simp [q, bI]
theorem s_X1_putPicked {y : Int32} (hM : MapAt h p n pl tm pk) (hA : Γ.2.1 ≤ p) (hn : n ≤ 200)
    (k : ∀ h' pl' tm', ax_fr p (p + 4) h h' → MapAt h' p n pl' tm' pk → (∀ b, pl' b = (if b < n ∧ ¬ pk b = 0 then x else pl b) ∧ tm' b = (if b < n ∧ ¬ pk b = 0 then y else tm b)) → Q (.inl none) h') : WP Γ MX1_putPicked (0, 0, 0, 0) 0 [some (.ref p), some (.int x), some (.int y), none] [] h Q := by
  refine wp_iconst (n := 1) (v := 0) dX1_putPicked_0 rfl (by decide) ?_
  refine wp_istore_n (n := 2) dX1_putPicked_1 rfl rfl rfl rfl ?_
  have L : ∀ j, j ≤ n → ∀ h1 pl1 tm1, ax_fr p (p + 4) h h1 → MapAt h1 p n pl1 tm1 pk → (∀ b, pl1 b = (if b < j ∧ ¬ pk b = 0 then x else pl b) ∧ tm1 b = (if b < j ∧ ¬ pk b = 0 then y else tm b)) → WP Γ MX1_putPicked (0, 0, 0, 0) 2 [some (.ref p), some (.int x), some (.int y), some (.int (nI j))] [] h1 Q := by
    refine ax_up n (fun j hj ih => ?_)
    intro h1 pl1 tm1 hF1 hM1 hz
    have hM0 := hM1
    obtain ⟨hO, hP, hT, hK⟩ := hM1
    refine wp_iload_n (n := 3) dX1_putPicked_2 rfl rfl ?_
    refine wp_aload_n (n := 4) dX1_putPicked_3 rfl rfl ?_
    refine wp_getf (n := 7) dX1_putPicked_4 rfl flX1_9 (by repeat first | assumption | exact ax_set_self _ _ _ | exact ax_newA_self _ _ _ | refine (ax_set_ne _ _ (by omega)).trans ?_ | refine (ax_newA_ne _ _ _ (by omega)).trans ?_) (by rfl) ?_
    refine wp_icmp_ge (t := 39) (n := 10) dX1_putPicked_7 (by decide) rfl (fun hc => ?_) (fun hc => ?_)
    · rw [nI_le9 (by omega) (by omega)] at hc
      obtain rfl : j = n := by omega
      exact wp_return dX1_putPicked_39 rfl (k h1 pl1 tm1 hF1 hM0 hz)
    · rw [nI_le9 (by omega) (by omega)] at hc
      have hlt : j < n := by omega
      refine wp_aload_n (n := 11) dX1_putPicked_10 rfl rfl ?_
      refine wp_getf (n := 14) dX1_putPicked_11 rfl flX1_22 (by repeat first | assumption | exact ax_set_self _ _ _ | exact ax_newA_self _ _ _ | refine (ax_set_ne _ _ (by omega)).trans ?_ | refine (ax_newA_ne _ _ _ (by omega)).trans ?_) (by rfl) ?_
      refine wp_iload_n (n := 15) dX1_putPicked_14 rfl rfl ?_
      refine wp_zald (n := 16) _ dX1_putPicked_15 rfl (by repeat first | assumption | exact ax_set_self _ _ _ | exact ax_newA_self _ _ _ | refine (ax_set_ne _ _ (by omega)).trans ?_ | refine (ax_newA_ne _ _ _ (by omega)).trans ?_) rfl (by omega) (by decide) ?_
      refine wp_if_eq (t := 33) (n := 19) dX1_putPicked_16 (by decide) rfl (fun hq => ?_) (fun hq => ?_)
      · refine wp_iinc (n := 36) dX1_putPicked_33 rfl rfl (nI_inc j) rfl rfl rfl ?_
        refine wp_goto (t := 2) dX1_putPicked_36 (by decide) ?_
        refine ih hlt h1 pl1 tm1 hF1 hM0 (fun b => ?_)
        rw [(hz b).1, (hz b).2]
        by_cases e : b = j
        · subst e; simp [hq]
        · have : (b < j ∧ ¬ pk b = 0) ↔ (b < j + 1 ∧ ¬ pk b = 0) := by
            constructor
            · rintro ⟨a, b⟩; exact ⟨by omega, b⟩
            · rintro ⟨a, b⟩; exact ⟨by omega, b⟩
          simp only [this]
          exact ⟨trivial, trivial⟩
      · refine wp_aload_n (n := 20) dX1_putPicked_19 rfl rfl ?_
        refine wp_getf (n := 23) dX1_putPicked_20 rfl flX1_15 (by repeat first | assumption | exact ax_set_self _ _ _ | exact ax_newA_self _ _ _ | refine (ax_set_ne _ _ (by omega)).trans ?_ | refine (ax_newA_ne _ _ _ (by omega)).trans ?_) (by rfl) ?_
        refine wp_iload_n (n := 24) dX1_putPicked_23 rfl rfl ?_
        refine wp_iload_n (n := 25) dX1_putPicked_24 rfl rfl ?_
        refine wp_iast (n := 26) _ dX1_putPicked_25 rfl (by repeat first | assumption | exact ax_set_self _ _ _ | exact ax_newA_self _ _ _ | refine (ax_set_ne _ _ (by omega)).trans ?_ | refine (ax_newA_ne _ _ _ (by omega)).trans ?_) (by omega) rfl (by omega) (by decide) ?_
        refine wp_aload_n (n := 27) dX1_putPicked_26 rfl rfl ?_
        refine wp_getf (n := 30) dX1_putPicked_27 rfl flX1_19 (by repeat first | assumption | exact ax_set_self _ _ _ | exact ax_newA_self _ _ _ | refine (ax_set_ne _ _ (by omega)).trans ?_ | refine (ax_newA_ne _ _ _ (by omega)).trans ?_) (by rfl) ?_
        refine wp_iload_n (n := 31) dX1_putPicked_30 rfl rfl ?_
        refine wp_iload_n (n := 32) dX1_putPicked_31 rfl rfl ?_
        refine wp_iast (n := 33) _ dX1_putPicked_32 rfl (by repeat first | assumption | exact ax_set_self _ _ _ | exact ax_newA_self _ _ _ | refine (ax_set_ne _ _ (by omega)).trans ?_ | refine (ax_newA_ne _ _ _ (by omega)).trans ?_) (by omega) rfl (by omega) (by decide) ?_
        refine wp_iinc (n := 36) dX1_putPicked_33 rfl rfl (nI_inc j) rfl rfl rfl ?_
        refine wp_goto (t := 2) dX1_putPicked_36 (by decide) ?_
        refine ih hlt _ _ _ ((hF1.put (by omega)).put (by omega)) ((hM0.setPl _).setTm _) (fun b => ?_)
        simp only [upd]
        by_cases e : b = j
        · subst e
          rw [if_pos rfl, if_pos rfl, if_pos ⟨Nat.lt_succ_self _, hq⟩, if_pos ⟨Nat.lt_succ_self _, hq⟩]
          exact ⟨rfl, rfl⟩
        · rw [if_neg e, if_neg e, (hz b).1, (hz b).2]
          have : (b < j ∧ ¬ pk b = 0) ↔ (b < j + 1 ∧ ¬ pk b = 0) := by
            constructor
            · rintro ⟨a, b⟩; exact ⟨by omega, b⟩
            · rintro ⟨a, b⟩; exact ⟨by omega, b⟩
          simp only [this]
          exact ⟨trivial, trivial⟩
  exact L 0 (by omega) h pl tm ax_fr.rf hM (fun b => by simp)
end
