/-! ===== the reference: poolOf, since ===== -/
section
variable {Γ : GE} {h : AH} {Q : PO} {m a np nb ne nh nc y : Nat} {R : FI} {qu ra le ln pl tm rw hw cw pk : FI} {re : Nat → UInt32} {bk : Nat → Int64} {t x z w v th tl at' bg er ea lr cm : Int32}
theorem s_X10_poolOf (hM : ModC h m a th tl at' bg er ea lr cm) (hR : h.2 a = some (.inl (.int, 5061, .inl R))) (hr : RowR R np qu ra re le ln nb pl tm ne rw bk nh hw nc cw t y) (hI : InvS np nb ne nh nc y t) (hA : Γ.2.1 ≤ m) (ham : ¬ a = m)
    (k1 : inN x nb = false → ∀ h', ax_fr m (m + 1) h h' → ModC h' m a (nI 1) tl at' bg er ea lr cm → Q (.inl (some (.int 0))) h')
    (k : ∀ j, j < nb → x = nI j → ∀ h', ax_fr m (m + 1) h h' → ModC h' m a 0 tl at' bg er ea lr cm → Q (.inl (some (.int (pl j)))) h') : WP Γ MX10_poolOf (2, 43, 0, 0) 0 [some (.ref m), some (.int x)] [] h Q := by
  have hM0 := hM
  unfold ModC at hM
  obtain ⟨s1, s2, s3, s4, s5, s6, s7, s8, tn, s9, s10⟩ := hI
  obtain ⟨⟨r0, r1, r2, r3, r4, r5, r6⟩, rM, rP, rJ, rH, rC⟩ := hr
  refine wp_aload_n (n := 1) dX10_poolOf_0 rfl rfl ?_
  refine wp_aload_n (n := 2) dX10_poolOf_1 rfl rfl ?_
  refine wp_iload_n (n := 3) dX10_poolOf_2 rfl rfl ?_
  refine wp_callV1 (n := 6) (rm' := (1, 22, 0, 0)) rfl dX10_poolOf_3 rfl mlX10_121 (by repeat first | assumption | exact ax_set_self _ _ _ | exact ax_newA_self _ _ _ | refine (ax_set_ne _ _ (by omega)).trans ?_ | refine (ax_newA_ne _ _ _ (by omega)).trans ?_) rfl rfl rfl rfl rfl ?_
  refine s_X10_isBlock hM0 hR r0 s4 ?_
  show WP Γ _ _ _ _ _ _ _
  refine wp_iconst (n := 7) (v := nI 1) dX10_poolOf_6 rfl (by decide) ?_
  refine wp_callV2 (n := 10) (rm' := (0, 0, 0, 0)) rfl dX10_poolOf_7 rfl mlX10_113 (by repeat first | assumption | exact ax_set_self _ _ _ | exact ax_newA_self _ _ _ | refine (ax_set_ne _ _ (by omega)).trans ?_ | refine (ax_newA_ne _ _ _ (by omega)).trans ?_) rfl rfl rfl rfl rfl ?_
  refine s_X10_isThrown hM0 hA (fun h1 f1 m1 => ?_)
  show WP Γ _ _ _ _ _ _ _
  have hR1 := f1.get hR (by omega)
  cases hx : inN x nb with
  | false =>
    rw [hx] at m1
    refine wp_if_eq (t := 17) (n := 13) dX10_poolOf_10 (by decide) rfl (fun hq => ?_) (fun hq => ?_)
    · exact absurd hq (by decide)
    · refine wp_iconst (n := 14) (v := 0) dX10_poolOf_13 rfl (by decide) ?_
      refine wp_goto (t := 26) dX10_poolOf_14 (by decide) ?_
      exact wp_ireturn dX10_poolOf_26 rfl rfl (k1 hx h1 f1 m1)
  | true =>
    rw [hx] at m1
    obtain ⟨j, hj, rfl⟩ := inN_get (n := nb) (by omega) (of_decide_eq_true hx).1 (of_decide_eq_true hx).2
    have m1' := m1
    unfold ModC at m1'
    refine wp_if_eq (t := 17) (n := 13) dX10_poolOf_10 (by decide) rfl (fun hq => ?_) (fun hq => ?_)
    · refine wp_aload_n (n := 18) dX10_poolOf_17 rfl rfl ?_
      refine wp_getf (n := 21) dX10_poolOf_18 rfl flX10_9 (by repeat first | assumption | exact ax_set_self _ _ _ | exact ax_newA_self _ _ _ | refine (ax_set_ne _ _ (by omega)).trans ?_ | refine (ax_newA_ne _ _ _ (by omega)).trans ?_) (by rfl) ?_
      refine wp_bipush (n := 23) (v := nI 7) dX10_poolOf_21 rfl (by decide) ?_
      refine wp_iload_n (n := 24) dX10_poolOf_23 rfl rfl ?_
      refine wp_iadd (n := 25) dX10_poolOf_24 rfl ?_
      refine wp_iald (n := 26) (7 + j) dX10_poolOf_25 rfl (by repeat first | assumption | exact ax_set_self _ _ _ | exact ax_newA_self _ _ _ | refine (ax_set_ne _ _ (by omega)).trans ?_ | refine (ax_newA_ne _ _ _ (by omega)).trans ?_) (by simp only [nI_zero, nI_mul, nI_add]) (by omega) (by omega) ?_
      rw [(rM j hj).1]
      exact wp_ireturn dX10_poolOf_26 rfl rfl (k j hj rfl h1 f1 m1)
    · exact absurd rfl hq
theorem s_X10_since (hM : ModC h m a th tl at' bg er ea lr cm) (hR : h.2 a = some (.inl (.int, 5061, .inl R))) (hr : RowR R np qu ra re le ln nb pl tm ne rw bk nh hw nc cw t y) (hI : InvS np nb ne nh nc y t) (hA : Γ.2.1 ≤ m) (ham : ¬ a = m)
    (k1 : inN x nb = false → ∀ h', ax_fr m (m + 1) h h' → ModC h' m a (nI 1) tl at' bg er ea lr cm → Q (.inl (some (.int 0))) h')
    (k : ∀ j, j < nb → x = nI j → ∀ h', ax_fr m (m + 1) h h' → ModC h' m a 0 tl at' bg er ea lr cm → Q (.inl (some (.int (tm j)))) h') : WP Γ MX10_since (2, 43, 0, 0) 0 [some (.ref m), some (.int x)] [] h Q := by
  have hM0 := hM
  unfold ModC at hM
  obtain ⟨s1, s2, s3, s4, s5, s6, s7, s8, tn, s9, s10⟩ := hI
  obtain ⟨⟨r0, r1, r2, r3, r4, r5, r6⟩, rM, rP, rJ, rH, rC⟩ := hr
  refine wp_aload_n (n := 1) dX10_since_0 rfl rfl ?_
  refine wp_aload_n (n := 2) dX10_since_1 rfl rfl ?_
  refine wp_iload_n (n := 3) dX10_since_2 rfl rfl ?_
  refine wp_callV1 (n := 6) (rm' := (1, 22, 0, 0)) rfl dX10_since_3 rfl mlX10_121 (by repeat first | assumption | exact ax_set_self _ _ _ | exact ax_newA_self _ _ _ | refine (ax_set_ne _ _ (by omega)).trans ?_ | refine (ax_newA_ne _ _ _ (by omega)).trans ?_) rfl rfl rfl rfl rfl ?_
  refine s_X10_isBlock hM0 hR r0 s4 ?_
  show WP Γ _ _ _ _ _ _ _
  refine wp_iconst (n := 7) (v := nI 1) dX10_since_6 rfl (by decide) ?_
  refine wp_callV2 (n := 10) (rm' := (0, 0, 0, 0)) rfl dX10_since_7 rfl mlX10_113 (by repeat first | assumption | exact ax_set_self _ _ _ | exact ax_newA_self _ _ _ | refine (ax_set_ne _ _ (by omega)).trans ?_ | refine (ax_newA_ne _ _ _ (by omega)).trans ?_) rfl rfl rfl rfl rfl ?_
  refine s_X10_isThrown hM0 hA (fun h1 f1 m1 => ?_)
  show WP Γ _ _ _ _ _ _ _
  have hR1 := f1.get hR (by omega)
  cases hx : inN x nb with
  | false =>
    rw [hx] at m1
    refine wp_if_eq (t := 17) (n := 13) dX10_since_10 (by decide) rfl (fun hq => ?_) (fun hq => ?_)
    · exact absurd hq (by decide)
    · refine wp_iconst (n := 14) (v := 0) dX10_since_13 rfl (by decide) ?_
      refine wp_goto (t := 27) dX10_since_14 (by decide) ?_
      exact wp_ireturn dX10_since_27 rfl rfl (k1 hx h1 f1 m1)
  | true =>
    rw [hx] at m1
    obtain ⟨j, hj, rfl⟩ := inN_get (n := nb) (by omega) (of_decide_eq_true hx).1 (of_decide_eq_true hx).2
    have m1' := m1
    unfold ModC at m1'
    refine wp_if_eq (t := 17) (n := 13) dX10_since_10 (by decide) rfl (fun hq => ?_) (fun hq => ?_)
    · refine wp_aload_n (n := 18) dX10_since_17 rfl rfl ?_
      refine wp_getf (n := 21) dX10_since_18 rfl flX10_9 (by repeat first | assumption | exact ax_set_self _ _ _ | exact ax_newA_self _ _ _ | refine (ax_set_ne _ _ (by omega)).trans ?_ | refine (ax_newA_ne _ _ _ (by omega)).trans ?_) (by rfl) ?_
      refine wp_sipush (n := 24) (v := nI 207) dX10_since_21 rfl (by decide) ?_
      refine wp_iload_n (n := 25) dX10_since_24 rfl rfl ?_
      refine wp_iadd (n := 26) dX10_since_25 rfl ?_
      refine wp_iald (n := 27) (207 + j) dX10_since_26 rfl (by repeat first | assumption | exact ax_set_self _ _ _ | exact ax_newA_self _ _ _ | refine (ax_set_ne _ _ (by omega)).trans ?_ | refine (ax_newA_ne _ _ _ (by omega)).trans ?_) (by simp only [nI_zero, nI_mul, nI_add]) (by omega) (by omega) ?_
      rw [(rM j hj).2]
      exact wp_ireturn dX10_since_27 rfl rfl (k j hj rfl h1 f1 m1)
    · exact absurd rfl hq
end
