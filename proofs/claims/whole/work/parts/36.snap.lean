/-! ===== the face: snapshots ===== -/
def SnaC (h : AH) (p : Nat) (f : Nat → Option Nat) : Prop := h.2 (p + 6) = some (.inl (.object "StorageLedger$Ledger", 2, .inr (.inr (.inr (.inr f)))))
section
variable {Γ : GE} {h : AH} {Q : PO} {p D b np nb ne nh nc y : Nat} {qu ra le ln pl tm rw hw cw pk : FI} {re : Nat → UInt32} {bk : Nat → Int64} {t x z w v er : Int32} {f : Nat → Option Nat}
theorem LedP.ext {h' : AH} (hL : LedP h b np qu ra re le ln nb pl tm ne rw bk nh hw nc cw t y pk) (q : ∀ c, b ≤ c → c < b + 19 → h'.2 c = h.2 c) : LedP h' b np qu ra re le ln nb pl tm ne rw bk nh hw nc cw t y pk := by
  obtain ⟨hO, hP, hM, hJ, hR, hC, su, hS⟩ := hL
  exact ⟨(q _ (by omega) (by omega)).trans hO, ⟨(q _ (by omega) (by omega)).trans hP.1, (q _ (by omega) (by omega)).trans hP.2.1, (q _ (by omega) (by omega)).trans hP.2.2.1, (q _ (by omega) (by omega)).trans hP.2.2.2.1, (q _ (by omega) (by omega)).trans hP.2.2.2.2.1, (q _ (by omega) (by omega)).trans hP.2.2.2.2.2⟩, ⟨(q _ (by omega) (by omega)).trans hM.1, (q _ (by omega) (by omega)).trans hM.2.1, (q _ (by omega) (by omega)).trans hM.2.2.1, (q _ (by omega) (by omega)).trans hM.2.2.2⟩, ⟨(q _ (by omega) (by omega)).trans hJ.1, (q _ (by omega) (by omega)).trans hJ.2.1, (q _ (by omega) (by omega)).trans hJ.2.2⟩, ⟨(q _ (by omega) (by omega)).trans hR.1, (q _ (by omega) (by omega)).trans hR.2⟩, ⟨(q _ (by omega) (by omega)).trans hC.1, (q _ (by omega) (by omega)).trans hC.2⟩, su, (q _ (by omega) (by omega)).trans hS⟩
theorem LedAt.ext {h' : AH} (hL : LedAt h b np qu ra re le ln nb pl tm ne rw bk nh hw nc cw t y) (q : ∀ c, b ≤ c → c < b + 19 → h'.2 c = h.2 c) : LedAt h' b np qu ra re le ln nb pl tm ne rw bk nh hw nc cw t y := by
  obtain ⟨pk, hL⟩ := hL
  exact ⟨pk, hL.ext q⟩
def LedX (h : AH) (s : Nat) : Prop := ∃ np qu ra re le ln nb pl tm ne rw bk nh hw nc cw t y pk, LedP h s np qu ra re le ln nb pl tm ne rw bk nh hw nc cw t y pk
theorem s_X9_saveSnapshot (hF : FacC h p b D er) (hL : LedP h b np qu ra re le ln nb pl tm ne rw bk nh hw nc cw t y pk) (hS9 : SnaC h p f) (hA : Γ.2.1 ≤ p) (hpb : p + 7 ≤ b) (hz : b + 19 ≤ h.1) (hsn : ∀ j s, j < 2 → f j = some s → LedX h s ∧ p + 7 ≤ s ∧ (s + 19 ≤ b ∨ b + 19 ≤ s))
    (k1 : inN x 2 = false → ∀ n', h.1 ≤ n' → Q (.inr IAE) (n', h.2))
    (kS : ∀ j s, j < 2 → x = nI j → f j = some s → ∀ h', ax_fr s (s + 19) h h' → LedAt h' s np qu ra re le ln nb pl tm ne rw bk nh hw nc cw t y → Q (.inl (some (.int t))) h')
    (kN : ∀ j, j < 2 → x = nI j → f j = none → ∀ h', h'.1 = h.1 + 19 → (∀ a, a < h.1 → ¬ a = p + 6 → h'.2 a = h.2 a) → SnaC h' p (va_up f j (some h.1)) → LedAt h' h.1 np qu ra re le ln nb pl tm ne rw bk nh hw nc cw t y → Q (.inl (some (.int t))) h') : WP Γ MX9_saveSnapshot (7, 115, 20, 4409) 0 [some (.ref p), some (.int x), none] [] h Q := by
  have hF0 := hF
  unfold FacC at hF
  unfold SnaC at hS9
  have hL0 := hL
  obtain ⟨hO, hP, hM, hJ, hR, hC, su, hS⟩ := hL
  have hP1 := hP.1
  have hM1 := hM.1
  have hJ1 := hJ.1
  have hR1 := hR.1
  have hC1 := hC.1
  have hP2 := hP.2.1
  have hP3 := hP.2.2.1
  have hP4 := hP.2.2.2.1
  have hM2 := hM.2.1
  have hM3 := hM.2.2.1
  have hM4 := hM.2.2.2
  refine wp_iload_n (n := 1) dX9_saveSnapshot_0 rfl rfl ?_
  refine wp_callS1 (n := 4) (rm' := (6, 95, 1, 6)) rfl dX9_saveSnapshot_1 rfl mlX9_333 rfl rfl rfl rfl ?_
  refine s_X9_needSlot k1 (fun j hj e => ?_)
  show WP Γ _ _ _ _ _ _ _
  refine wp_aload_n (n := 5) dX9_saveSnapshot_4 rfl rfl ?_
  refine wp_getf (n := 8) dX9_saveSnapshot_5 rfl flX9_34 (by repeat first | assumption | exact ax_set_self _ _ _ | exact ax_newA_self _ _ _ | refine (ax_set_ne _ _ (by omega)).trans ?_ | refine (ax_newA_ne _ _ _ (by omega)).trans ?_) (by rfl) ?_
  refine wp_iload_n (n := 9) dX9_saveSnapshot_8 rfl rfl ?_
  subst e
  refine wp_aald (n := 10) j dX9_saveSnapshot_9 rfl hS9 rfl hj (by omega) ?_
  cases hf : f j with
  | some s =>
    obtain ⟨⟨np2, qu2, ra2, re2, le2, ln2, nb2, pl2, tm2, ne2, rw2, bk2, nh2, hw2, nc2, cw2, t2, y2, pk2, hX⟩, hs1, hs2⟩ := hsn j s hj hf
    have hX1 := hX.1
    show WP Γ _ _ _ _ (.ref s :: _) _ _
    refine wp_astore_n (n := 11) dX9_saveSnapshot_10 rfl rfl rfl rfl ?_
    refine wp_aload_n (n := 12) dX9_saveSnapshot_11 rfl rfl ?_
    refine wp_ifnonnull (t := 30) dX9_saveSnapshot_12 (by decide) ?_
    refine wp_aload_n (n := 31) dX9_saveSnapshot_30 rfl rfl ?_
    refine wp_aload_n (n := 32) dX9_saveSnapshot_31 rfl rfl ?_
    refine wp_getf (n := 35) dX9_saveSnapshot_32 rfl flX9_39 (by repeat first | assumption | exact ax_set_self _ _ _ | exact ax_newA_self _ _ _ | refine (ax_set_ne _ _ (by omega)).trans ?_ | refine (ax_newA_ne _ _ _ (by omega)).trans ?_) (by rfl) ?_
    refine wp_callV1 (n := 38) (rm' := (2, 81, 0, 0)) rfl dX9_saveSnapshot_35 rfl mlX9_103 (by repeat first | assumption | exact ax_set_self _ _ _ | exact ax_newA_self _ _ _ | refine (ax_set_ne _ _ (by omega)).trans ?_ | refine (ax_newA_ne _ _ _ (by omega)).trans ?_) rfl rfl rfl rfl rfl ?_
    refine s_X5_copyFrom hX hL0 (by omega) (by omega) (fun h3 f3 hL3 => ?_)
    show WP Γ _ _ _ _ _ _ _
    have hF := f3.get hF (by omega)
    have hO := f3.get hO (by omega)
    refine wp_aload_n (n := 39) dX9_saveSnapshot_38 rfl rfl ?_
    refine wp_getf (n := 42) dX9_saveSnapshot_39 rfl flX9_39 (by repeat first | assumption | exact ax_set_self _ _ _ | exact ax_newA_self _ _ _ | refine (ax_set_ne _ _ (by omega)).trans ?_ | refine (ax_newA_ne _ _ _ (by omega)).trans ?_) (by rfl) ?_
    refine wp_getf (n := 45) dX9_saveSnapshot_42 rfl flX9_137 (by repeat first | assumption | exact ax_set_self _ _ _ | exact ax_newA_self _ _ _ | refine (ax_set_ne _ _ (by omega)).trans ?_ | refine (ax_newA_ne _ _ _ (by omega)).trans ?_) (by rfl) ?_
    exact wp_ireturn dX9_saveSnapshot_45 rfl rfl (kS j s hj rfl hf h3 f3 ⟨pk2, hL3⟩)
  | none =>
    show WP Γ _ _ _ _ (.null :: _) _ _
    refine wp_astore_nN (n := 11) dX9_saveSnapshot_10 rfl rfl rfl rfl ?_
    refine wp_aload_nN (n := 12) dX9_saveSnapshot_11 rfl rfl ?_
    refine wp_ifnonnullN (n := 15) dX9_saveSnapshot_12 rfl ?_
    generalize hz9 : h.1 = a at *
    refine wp_newA (n := 18) (a) dX9_saveSnapshot_15 rfl hz9 nlX9_32 rfl rfl ?_
    refine wp_dup (n := 19) dX9_saveSnapshot_18 rfl rfl ?_
    refine wp_callIN (n := 22) (rm' := (2, 80, 18, 4395)) dX9_saveSnapshot_19 rfl mbX5_init (host := "StorageLedger") (by decide) rfl imX5_init [] rfl rfl rfl rfl rfl (Nat.le_of_ble_eq_true rfl) rfl ?_
    refine s_X5_init (ax_newA_self _ _ _) rfl (by omega) (fun h1 z1 f1 hL1 => ?_)
    show WP Γ _ _ _ _ _ _ _
    have g1 : ∀ c, c < a → h1.2 c = h.2 c := fun c hc => (f1 c hc).trans (ax_newA_ne _ _ _ (by omega))
    have hF1 := (g1 p (by omega)).trans hF
    have hS1 := (g1 (p + 6) (by omega)).trans hS9
    refine wp_astore_n (n := 23) dX9_saveSnapshot_22 rfl rfl rfl rfl ?_
    refine wp_aload_n (n := 24) dX9_saveSnapshot_23 rfl rfl ?_
    refine wp_getf (n := 27) dX9_saveSnapshot_24 rfl flX9_34 (by repeat first | assumption | exact ax_set_self _ _ _ | exact ax_newA_self _ _ _ | refine (ax_set_ne _ _ (by omega)).trans ?_ | refine (ax_newA_ne _ _ _ (by omega)).trans ?_) (by rfl) ?_
    refine wp_iload_n (n := 28) dX9_saveSnapshot_27 rfl rfl ?_
    refine wp_aload_n (n := 29) dX9_saveSnapshot_28 rfl rfl ?_
    refine wp_aast (n := 30) j dX9_saveSnapshot_29 rfl hS1 hL1.1 rfl (by omega) rfl hj (by omega) ?_
    have fr2 : ax_fr (p + 6) (p + 7) h1 (ax_set h1 (p + 6) (.inl (.object "StorageLedger$Ledger", 2, .inr (.inr (.inr (.inr (va_up f j (some a)))))))) := ax_fr.set (by omega)
    have hF2 := fr2.get hF1 (by omega)
    have hL2 := (hL0.ext (h' := h1) (fun c _ hc => g1 c (by omega))).fr fr2 (by omega)
    have hN2 := hL1.fr fr2 (by omega)
    have hS2 : SnaC (ax_set h1 (p + 6) (.inl (.object "StorageLedger$Ledger", 2, .inr (.inr (.inr (.inr (va_up f j (some a)))))))) p (va_up f j (some a)) := ax_set_self _ _ _
    have z2 : (ax_set h1 (p + 6) (.inl (.object "StorageLedger$Ledger", 2, .inr (.inr (.inr (.inr (va_up f j (some a)))))))).1 = a + 19 := z1
    have g2 : ∀ c, c < a → ¬ c = p + 6 → (ax_set h1 (p + 6) (.inl (.object "StorageLedger$Ledger", 2, .inr (.inr (.inr (.inr (va_up f j (some a)))))))).2 c = h.2 c := fun c h1 h2 => (ax_set_ne _ _ (by omega)).trans (g1 c h1)
    generalize ax_set h1 (p + 6) (.inl (.object "StorageLedger$Ledger", 2, .inr (.inr (.inr (.inr (va_up f j (some a))))))) = h2 at *
    have hO2 := hL2.1
    have hN1 := hN2.1
    refine wp_aload_n (n := 31) dX9_saveSnapshot_30 rfl rfl ?_
    refine wp_aload_n (n := 32) dX9_saveSnapshot_31 rfl rfl ?_
    refine wp_getf (n := 35) dX9_saveSnapshot_32 rfl flX9_39 (by repeat first | assumption | exact ax_set_self _ _ _ | exact ax_newA_self _ _ _ | refine (ax_set_ne _ _ (by omega)).trans ?_ | refine (ax_newA_ne _ _ _ (by omega)).trans ?_) (by rfl) ?_
    refine wp_callV1 (n := 38) (rm' := (2, 81, 0, 0)) rfl dX9_saveSnapshot_35 rfl mlX9_103 (by repeat first | assumption | exact ax_set_self _ _ _ | exact ax_newA_self _ _ _ | refine (ax_set_ne _ _ (by omega)).trans ?_ | refine (ax_newA_ne _ _ _ (by omega)).trans ?_) rfl rfl rfl rfl rfl ?_
    refine s_X5_copyFrom hN2 hL2 (by omega) (by omega) (fun h3 f3 hL3 => ?_)
    show WP Γ _ _ _ _ _ _ _
    have hF3 := f3.get hF2 (by omega)
    have hO3 := f3.get hO2 (by omega)
    refine wp_aload_n (n := 39) dX9_saveSnapshot_38 rfl rfl ?_
    refine wp_getf (n := 42) dX9_saveSnapshot_39 rfl flX9_39 (by repeat first | assumption | exact ax_set_self _ _ _ | exact ax_newA_self _ _ _ | refine (ax_set_ne _ _ (by omega)).trans ?_ | refine (ax_newA_ne _ _ _ (by omega)).trans ?_) (by rfl) ?_
    refine wp_getf (n := 45) dX9_saveSnapshot_42 rfl flX9_137 (by repeat first | assumption | exact ax_set_self _ _ _ | exact ax_newA_self _ _ _ | refine (ax_set_ne _ _ (by omega)).trans ?_ | refine (ax_newA_ne _ _ _ (by omega)).trans ?_) (by rfl) ?_
    exact wp_ireturn dX9_saveSnapshot_45 rfl rfl (kN j hj rfl hf h3 (f3.1.trans z2) (fun c h1 h2 => (f3.2 c (by omega)).trans (g2 c h1 h2)) (f3.get hS2 (by omega)) ⟨_, hL3⟩)
theorem s_X9_restoreSnapshot {np2 nb2 ne2 nh2 nc2 y2 : Nat → Nat} {qu2 ra2 le2 ln2 pl2 tm2 rw2 hw2 cw2 : Nat → FI} {re2 : Nat → Nat → UInt32} {bk2 : Nat → Nat → Int64} {t2 : Nat → Int32} (hF : FacC h p b D er) (hL : LedP h b np qu ra re le ln nb pl tm ne rw bk nh hw nc cw t y pk) (hS9 : SnaC h p f) (hA : Γ.2.1 ≤ p) (hpb : p + 7 ≤ b) (hsn : ∀ j s, j < 2 → f j = some s → LedAt h s (np2 j) (qu2 j) (ra2 j) (re2 j) (le2 j) (ln2 j) (nb2 j) (pl2 j) (tm2 j) (ne2 j) (rw2 j) (bk2 j) (nh2 j) (hw2 j) (nc2 j) (cw2 j) (t2 j) (y2 j) ∧ p + 7 ≤ s ∧ (s + 19 ≤ b ∨ b + 19 ≤ s))
    (k1 : inN x 2 = false → ∀ n', h.1 ≤ n' → Q (.inr IAE) (n', h.2))
    (kN : ∀ j, j < 2 → x = nI j → f j = none → Q (.inl (some (.int (-1)))) h)
    (kS : ∀ j s, j < 2 → x = nI j → f j = some s → ∀ h', ax_fr b (b + 19) h h' → LedAt h' b (np2 j) (qu2 j) (ra2 j) (re2 j) (le2 j) (ln2 j) (nb2 j) (pl2 j) (tm2 j) (ne2 j) (rw2 j) (bk2 j) (nh2 j) (hw2 j) (nc2 j) (cw2 j) (t2 j) (y2 j) → Q (.inl (some (.int (t2 j)))) h') : WP Γ MX9_restoreSnapshot (7, 115, 1, 6) 0 [some (.ref p), some (.int x), none] [] h Q := by
  have hF0 := hF
  unfold FacC at hF
  unfold SnaC at hS9
  have hL0 := hL
  obtain ⟨hO, hP, hM, hJ, hR, hC, su, hS⟩ := hL
  have hP1 := hP.1
  have hM1 := hM.1
  have hJ1 := hJ.1
  have hR1 := hR.1
  have hC1 := hC.1
  have hP2 := hP.2.1
  have hP3 := hP.2.2.1
  have hP4 := hP.2.2.2.1
  have hM2 := hM.2.1
  have hM3 := hM.2.2.1
  have hM4 := hM.2.2.2
  refine wp_iload_n (n := 1) dX9_restoreSnapshot_0 rfl rfl ?_
  refine wp_callS1 (n := 4) (rm' := (6, 95, 1, 6)) rfl dX9_restoreSnapshot_1 rfl mlX9_333 rfl rfl rfl rfl ?_
  refine s_X9_needSlot k1 (fun j hj e => ?_)
  show WP Γ _ _ _ _ _ _ _
  refine wp_aload_n (n := 5) dX9_restoreSnapshot_4 rfl rfl ?_
  refine wp_getf (n := 8) dX9_restoreSnapshot_5 rfl flX9_34 (by repeat first | assumption | exact ax_set_self _ _ _ | exact ax_newA_self _ _ _ | refine (ax_set_ne _ _ (by omega)).trans ?_ | refine (ax_newA_ne _ _ _ (by omega)).trans ?_) (by rfl) ?_
  refine wp_iload_n (n := 9) dX9_restoreSnapshot_8 rfl rfl ?_
  subst e
  refine wp_aald (n := 10) j dX9_restoreSnapshot_9 rfl hS9 rfl hj (by omega) ?_
  cases hf : f j with
  | some s =>
    obtain ⟨⟨pk2, hX⟩, hs1, hs2⟩ := hsn j s hj hf
    have hX1 := hX.1
    show WP Γ _ _ _ _ (.ref s :: _) _ _
    refine wp_astore_n (n := 11) dX9_restoreSnapshot_10 rfl rfl rfl rfl ?_
    refine wp_aload_n (n := 12) dX9_restoreSnapshot_11 rfl rfl ?_
    refine wp_ifnonnull (t := 17) dX9_restoreSnapshot_12 (by decide) ?_
    refine wp_aload_n (n := 18) dX9_restoreSnapshot_17 rfl rfl ?_
    refine wp_getf (n := 21) dX9_restoreSnapshot_18 rfl flX9_39 (by repeat first | assumption | exact ax_set_self _ _ _ | exact ax_newA_self _ _ _ | refine (ax_set_ne _ _ (by omega)).trans ?_ | refine (ax_newA_ne _ _ _ (by omega)).trans ?_) (by rfl) ?_
    refine wp_aload_n (n := 22) dX9_restoreSnapshot_21 rfl rfl ?_
    refine wp_callV1 (n := 25) (rm' := (2, 81, 0, 0)) rfl dX9_restoreSnapshot_22 rfl mlX9_103 (by repeat first | assumption | exact ax_set_self _ _ _ | exact ax_newA_self _ _ _ | refine (ax_set_ne _ _ (by omega)).trans ?_ | refine (ax_newA_ne _ _ _ (by omega)).trans ?_) rfl rfl rfl rfl rfl ?_
    refine s_X5_copyFrom hL0 hX (by omega) (by omega) (fun h3 f3 hL3 => ?_)
    show WP Γ _ _ _ _ _ _ _
    have hF := f3.get hF (by omega)
    have hO := hL3.1
    refine wp_aload_n (n := 26) dX9_restoreSnapshot_25 rfl rfl ?_
    refine wp_getf (n := 29) dX9_restoreSnapshot_26 rfl flX9_39 (by repeat first | assumption | exact ax_set_self _ _ _ | exact ax_newA_self _ _ _ | refine (ax_set_ne _ _ (by omega)).trans ?_ | refine (ax_newA_ne _ _ _ (by omega)).trans ?_) (by rfl) ?_
    refine wp_getf (n := 32) dX9_restoreSnapshot_29 rfl flX9_137 (by repeat first | assumption | exact ax_set_self _ _ _ | exact ax_newA_self _ _ _ | refine (ax_set_ne _ _ (by omega)).trans ?_ | refine (ax_newA_ne _ _ _ (by omega)).trans ?_) (by rfl) ?_
    exact wp_ireturn dX9_restoreSnapshot_32 rfl rfl (kS j s hj rfl hf h3 f3 ⟨_, hL3⟩)
  | none =>
    show WP Γ _ _ _ _ (.null :: _) _ _
    refine wp_astore_nN (n := 11) dX9_restoreSnapshot_10 rfl rfl rfl rfl ?_
    refine wp_aload_nN (n := 12) dX9_restoreSnapshot_11 rfl rfl ?_
    refine wp_ifnonnullN (n := 15) dX9_restoreSnapshot_12 rfl ?_
    refine wp_iconst (n := 16) (v := (-1)) dX9_restoreSnapshot_15 rfl (by decide) ?_
    exact wp_ireturn dX9_restoreSnapshot_16 rfl rfl (kN j hj rfl hf)
end
