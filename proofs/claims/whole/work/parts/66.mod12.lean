/-! ===== the reference: setPick, poolOf, since ===== -/
section
variable {Γ : GE} {h : AH} {Q : PO} {m a np nb ne nh nc y : Nat} {R : FI} {qu ra le ln pl tm rw hw cw pk : FI} {re : Nat → UInt32} {bk : Nat → Int64} {t x z w v th tl at' bg er ea lr cm : Int32}
theorem RowR.way {u : Nat} (h : RowR R np qu ra re le ln nb pl tm ne rw bk nh hw nc cw t y) : RowR (upd R 3 (nI u)) np qu ra re le ln nb pl tm ne rw bk nh hw nc cw t u := by
  obtain ⟨⟨r0, r1, r2, r3, r4, r5, r6⟩, rM, rP, rJ, rH, rC⟩ := h
  have eo : ∀ q, ¬ q = 3 → upd R 3 (nI u) q = R q := fun q hq => if_neg hq
  exact ⟨⟨(eo 0 (by omega)).trans r0, (eo 1 (by omega)).trans r1, (eo 2 (by omega)).trans r2, if_pos rfl, (eo 4 (by omega)).trans r4, (eo 5 (by omega)).trans r5, (eo 6 (by omega)).trans r6⟩, fun d hd => ⟨(eo _ (by omega)).trans (rM d hd).1, (eo _ (by omega)).trans (rM d hd).2⟩, fun j hj => ⟨(eo _ (by omega)).trans (rP j hj).1, (eo _ (by omega)).trans (rP j hj).2.1, fun i hi => (eo _ (by omega)).trans ((rP j hj).2.2 i hi)⟩, fun e he => ⟨fun q hq => (eo _ (by omega)).trans ((rJ e he).1 q hq), fun d hd => by rw [eo _ (by omega)]; exact (rJ e he).2 d hd⟩, fun r hr q hq => (eo _ (by omega)).trans (rH r hr q hq), fun c hc => ⟨fun j hj => (eo _ (by omega)).trans ((rC c hc).1 j hj), (eo _ (by omega)).trans (rC c hc).2⟩⟩
theorem s_X10_setPick (hM : ModC h m a th tl at' bg er ea lr cm) (hR : h.2 a = some (.inl (.int, 5061, .inl R))) (hr : RowR R np qu ra re le ln nb pl tm ne rw bk nh hw nc cw t y) (hA : Γ.2.1 ≤ m) (hAa : Γ.2.1 ≤ a) (ham : ¬ a = m)
    (k1 : inI x 0 3 = false → ∀ h', ax_fr m (m + 1) h h' → ModC h' m a (nI 1) tl at' bg er ea lr cm → Q (.inl (some (.int 0))) h')
    (k : ∀ u, u ≤ 3 → x = nI u → ∀ h' R', h'.1 = h.1 → (∀ c, ¬ c = m → ¬ c = a → h'.2 c = h.2 c) → ModC h' m a 0 tl at' bg er ea lr cm → h'.2 a = some (.inl (.int, 5061, .inl R')) → RowR R' np qu ra re le ln nb pl tm ne rw bk nh hw nc cw t u → Q (.inl (some (.int (nI y)))) h') : WP Γ MX10_setPick (1, 22, 0, 0) 0 [some (.ref m), some (.int x), none] [] h Q := by
  have hM0 := hM
  unfold ModC at hM
  have r3 := hr.1.2.2.2.1
  have e0 : decide ((0 : Int32) ≤ x ∧ x ≤ nI 3) = inI x 0 3 := rfl
  refine wp_aload_n (n := 1) dX10_setPick_0 rfl rfl ?_
  refine wp_iload_n (n := 2) dX10_setPick_1 rfl rfl ?_
  refine wp_iconst (n := 3) (v := 0) dX10_setPick_2 rfl (by decide) ?_
  refine wp_iconst (n := 4) (v := nI 3) dX10_setPick_3 rfl (by decide) ?_
  refine wp_callS3 (n := 7) (rm' := (0, 0, 0, 0)) rfl dX10_setPick_4 rfl mlX10_54 rfl rfl rfl rfl ?_
  refine s_X10_in ?_
  show WP Γ _ _ _ _ _ _ _
  refine wp_iconst (n := 8) (v := nI 1) dX10_setPick_7 rfl (by decide) ?_
  refine wp_callV2 (n := 11) (rm' := (0, 0, 0, 0)) rfl dX10_setPick_8 rfl mlX10_113 (by repeat first | assumption | exact ax_set_self _ _ _ | exact ax_newA_self _ _ _ | refine (ax_set_ne _ _ (by omega)).trans ?_ | refine (ax_newA_ne _ _ _ (by omega)).trans ?_) rfl rfl rfl rfl rfl ?_
  refine s_X10_isThrown hM0 hA (fun h1 f1 m1 => ?_)
  show WP Γ _ _ _ _ _ _ _
  rw [e0] at m1 ⊢
  have hR1 := f1.get hR (by omega)
  cases hx : inI x 0 3 with
  | false =>
    rw [hx] at m1
    refine wp_if_eq (t := 16) (n := 14) dX10_setPick_11 (by decide) rfl (fun hq => ?_) (fun hq => ?_)
    · exact absurd hq (by decide)
    · refine wp_iconst (n := 15) (v := 0) dX10_setPick_14 rfl (by decide) ?_
      exact wp_ireturn dX10_setPick_15 rfl rfl (k1 hx h1 f1 m1)
  | true =>
    rw [hx] at m1
    obtain ⟨u, u1, u2, rfl⟩ := inI_get (a := 0) (b := 3) (by omega) (by omega) (of_decide_eq_true hx).1 (of_decide_eq_true hx).2
    have m1' := m1
    unfold ModC at m1'
    refine wp_if_eq (t := 16) (n := 14) dX10_setPick_11 (by decide) rfl (fun hq => ?_) (fun hq => ?_)
    · refine wp_aload_n (n := 17) dX10_setPick_16 rfl rfl ?_
      refine wp_getf (n := 20) dX10_setPick_17 rfl flX10_9 (by repeat first | assumption | exact ax_set_self _ _ _ | exact ax_newA_self _ _ _ | refine (ax_set_ne _ _ (by omega)).trans ?_ | refine (ax_newA_ne _ _ _ (by omega)).trans ?_) (by rfl) ?_
      refine wp_iconst (n := 21) (v := nI 3) dX10_setPick_20 rfl (by decide) ?_
      refine wp_iald (n := 22) _ dX10_setPick_21 rfl (by repeat first | assumption | exact ax_set_self _ _ _ | exact ax_newA_self _ _ _ | refine (ax_set_ne _ _ (by omega)).trans ?_ | refine (ax_newA_ne _ _ _ (by omega)).trans ?_) rfl (by omega) (by decide) ?_
      rw [r3]
      refine wp_istore_n (n := 23) dX10_setPick_22 rfl rfl rfl rfl ?_
      refine wp_aload_n (n := 24) dX10_setPick_23 rfl rfl ?_
      refine wp_getf (n := 27) dX10_setPick_24 rfl flX10_9 (by repeat first | assumption | exact ax_set_self _ _ _ | exact ax_newA_self _ _ _ | refine (ax_set_ne _ _ (by omega)).trans ?_ | refine (ax_newA_ne _ _ _ (by omega)).trans ?_) (by rfl) ?_
      refine wp_iconst (n := 28) (v := nI 3) dX10_setPick_27 rfl (by decide) ?_
      refine wp_iload_n (n := 29) dX10_setPick_28 rfl rfl ?_
      refine wp_iast (n := 30) _ dX10_setPick_29 rfl (by repeat first | assumption | exact ax_set_self _ _ _ | exact ax_newA_self _ _ _ | refine (ax_set_ne _ _ (by omega)).trans ?_ | refine (ax_newA_ne _ _ _ (by omega)).trans ?_) (by omega) rfl (by omega) (by decide) ?_
      refine wp_iload_n (n := 31) dX10_setPick_30 rfl rfl ?_
      exact wp_ireturn dX10_setPick_31 rfl rfl (k u u2 rfl _ _ f1.1 (fun c c1 c2 => (ax_set_ne _ _ c2).trans (f1.2 c (by omega))) ((ax_set_ne _ _ (by omega)).trans m1) (ax_set_self _ _ _) hr.way)
    · exact absurd rfl hq
end
