/-! ===== the reference: checks, face 2 ===== -/
section
variable {Γ : GE} {h : AH} {Q : PO} {m a np nb ne nh nc y : Nat} {R : FI} {qu ra le ln pl tm rw hw cw pk : FI} {re : Nat → UInt32} {bk : Nat → Int64} {t x z w v th tl at' bg er ea lr cm : Int32}

theorem s_X10_inJ {p q : Nat} (ha : z = nI p) (hb : w = nI q) (k : Q (.inl (some (.int (bI (inI x p q))))) h) : WP Γ MX10_in (0, 0, 0, 0) 0 [some (.int x), some (.int z), some (.int w)] [] h Q := by
  subst ha
  subst hb
  exact s_X10_in k
theorem s_X10_isInterval (k : Q (.inl (some (.int (bI (decide (0 ≤ x ∧ x ≤ z)))))) h) : WP Γ MX10_isInterval (0, 0, 0, 0) 0 [some (.int x), some (.int z)] [] h Q := by
  refine wp_iload_n (n := 1) dX10_isInterval_0 rfl rfl ?_
  refine wp_if_lt (t := 13) (n := 4) dX10_isInterval_1 (by decide) rfl (fun hc => ?_) (fun hc => ?_)
  · rw [decide_eq_false (fun q => absurd hc (Int32.not_lt.mpr q.1))] at k
    refine wp_iconst (n := 14) (v := 0) dX10_isInterval_13 rfl (by decide) ?_
    exact wp_ireturn dX10_isInterval_14 rfl rfl (k)
  · refine wp_iload_n (n := 5) dX10_isInterval_4 rfl rfl ?_
    refine wp_iload_n (n := 6) dX10_isInterval_5 rfl rfl ?_
    refine wp_icmp_gt (t := 13) (n := 9) dX10_isInterval_6 (by decide) rfl (fun hq => ?_) (fun hq => ?_)
    · rw [decide_eq_false (fun q => absurd hq (Int32.not_lt.mpr q.2))] at k
      refine wp_iconst (n := 14) (v := 0) dX10_isInterval_13 rfl (by decide) ?_
      exact wp_ireturn dX10_isInterval_14 rfl rfl (k)
    · rw [decide_eq_true ⟨i32_not_lt hc, i32_not_lt hq⟩] at k
      refine wp_iconst (n := 10) (v := nI 1) dX10_isInterval_9 rfl (by decide) ?_
      refine wp_goto (t := 14) dX10_isInterval_10 (by decide) ?_
      exact wp_ireturn dX10_isInterval_14 rfl rfl (k)
theorem s_X10_areChecks (hM : ModC h m a th tl at' bg er ea lr cm) (hR : h.2 a = some (.inl (.int, 5061, .inl R))) (hS : R 6 = nI nc) (hn : nc ≤ 10)
    (k : Q (.inl (some (.int (bI (decide (0 ≤ x ∧ x ≤ z ∧ z < nI nc)))))) h) : WP Γ MX10_areChecks (1, 22, 0, 0) 0 [some (.ref m), some (.int x), some (.int z)] [] h Q := by
  unfold ModC at hM
  have e1 : ∀ c : Int32, decide ((0 : Int32) ≤ c ∧ c ≤ nI nc - nI 1) = inN c nc := fun c => in_N0 (by omega) c
  refine wp_iload_n (n := 1) dX10_areChecks_0 rfl rfl ?_
  refine wp_iconst (n := 2) (v := 0) dX10_areChecks_1 rfl (by decide) ?_
  refine wp_aload_n (n := 3) dX10_areChecks_2 rfl rfl ?_
  refine wp_getf (n := 6) dX10_areChecks_3 rfl flX10_9 (by repeat first | assumption | exact ax_set_self _ _ _ | exact ax_newA_self _ _ _ | refine (ax_set_ne _ _ (by omega)).trans ?_ | refine (ax_newA_ne _ _ _ (by omega)).trans ?_) (by rfl) ?_
  refine wp_bipush (n := 8) (v := nI 6) dX10_areChecks_6 rfl (by decide) ?_
  refine wp_iald (n := 9) _ dX10_areChecks_8 rfl (by repeat first | assumption | exact ax_set_self _ _ _ | exact ax_newA_self _ _ _ | refine (ax_set_ne _ _ (by omega)).trans ?_ | refine (ax_newA_ne _ _ _ (by omega)).trans ?_) rfl (by omega) (by decide) ?_
  rw [hS]
  refine wp_iconst (n := 10) (v := nI 1) dX10_areChecks_9 rfl (by decide) ?_
  refine wp_isub (n := 11) dX10_areChecks_10 rfl ?_
  refine wp_callS3 (n := 14) (rm' := (0, 0, 0, 0)) rfl dX10_areChecks_11 rfl mlX10_54 rfl rfl rfl rfl ?_
  refine s_X10_in ?_
  show WP Γ _ _ _ _ _ _ _
  rw [e1]
  have e2 : ∀ c d : Int32, (0 ≤ c ∧ c ≤ d ∧ d < nI nc) ↔ ((0 ≤ c ∧ c < nI nc) ∧ (c ≤ d ∧ d ≤ nI nc - nI 1)) := by
    intro c d
    have e3 := fun h0 : (0 : Int32) ≤ d => e1 d
    constructor
    · rintro ⟨h1, h2, h3⟩
      have h0 : (0 : Int32) ≤ d := Int32.le_trans h1 h2
      have h4 := e1 d
      rw [show inN d nc = true from decide_eq_true ⟨h0, h3⟩] at h4
      exact ⟨⟨h1, Int32.lt_of_le_of_lt h2 h3⟩, h2, (of_decide_eq_true h4).2⟩
    · rintro ⟨⟨h1, h2⟩, h3, h5⟩
      have h0 : (0 : Int32) ≤ d := Int32.le_trans h1 h3
      have h4 := e1 d
      rw [decide_eq_true ⟨h0, h5⟩] at h4
      exact ⟨h1, h3, (of_decide_eq_true h4.symm).2⟩
  refine wp_if_eq (t := 38) (n := 17) dX10_areChecks_14 (by decide) rfl (fun hc => ?_) (fun hc => ?_)
  · rw [decide_eq_false (fun q => of_decide_eq_false (bI_eq hc) ((e2 x z).mp q).1)] at k
    refine wp_iconst (n := 39) (v := 0) dX10_areChecks_38 rfl (by decide) ?_
    exact wp_ireturn dX10_areChecks_39 rfl rfl (k)
  · have hc := of_decide_eq_true (bI_ne hc)
    refine wp_iload_n (n := 18) dX10_areChecks_17 rfl rfl ?_
    refine wp_iload_n (n := 19) dX10_areChecks_18 rfl rfl ?_
    refine wp_aload_n (n := 20) dX10_areChecks_19 rfl rfl ?_
    refine wp_getf (n := 23) dX10_areChecks_20 rfl flX10_9 (by repeat first | assumption | exact ax_set_self _ _ _ | exact ax_newA_self _ _ _ | refine (ax_set_ne _ _ (by omega)).trans ?_ | refine (ax_newA_ne _ _ _ (by omega)).trans ?_) (by rfl) ?_
    refine wp_bipush (n := 25) (v := nI 6) dX10_areChecks_23 rfl (by decide) ?_
    refine wp_iald (n := 26) _ dX10_areChecks_25 rfl (by repeat first | assumption | exact ax_set_self _ _ _ | exact ax_newA_self _ _ _ | refine (ax_set_ne _ _ (by omega)).trans ?_ | refine (ax_newA_ne _ _ _ (by omega)).trans ?_) rfl (by omega) (by decide) ?_
    rw [hS]
    refine wp_iconst (n := 27) (v := nI 1) dX10_areChecks_26 rfl (by decide) ?_
    refine wp_isub (n := 28) dX10_areChecks_27 rfl ?_
    refine wp_callS3 (n := 31) (rm' := (0, 0, 0, 0)) rfl dX10_areChecks_28 rfl mlX10_54 rfl rfl rfl rfl ?_
    refine s_X10_in ?_
    show WP Γ _ _ _ _ _ _ _
    refine wp_if_eq (t := 38) (n := 34) dX10_areChecks_31 (by decide) rfl (fun hq => ?_) (fun hq => ?_)
    · rw [decide_eq_false (fun q => of_decide_eq_false (bI_eq hq) ((e2 x z).mp q).2)] at k
      refine wp_iconst (n := 39) (v := 0) dX10_areChecks_38 rfl (by decide) ?_
      exact wp_ireturn dX10_areChecks_39 rfl rfl (k)
    · rw [decide_eq_true ((e2 x z).mpr ⟨hc, of_decide_eq_true (bI_ne hq)⟩)] at k
      refine wp_iconst (n := 35) (v := nI 1) dX10_areChecks_34 rfl (by decide) ?_
      refine wp_goto (t := 39) dX10_areChecks_35 (by decide) ?_
      exact wp_ireturn dX10_areChecks_39 rfl rfl (k)
theorem chk_get (hn : nc ≤ 10) (q : 0 ≤ x ∧ x ≤ z ∧ z < nI nc) : ∃ i j, i ≤ j ∧ j < nc ∧ x = nI i ∧ z = nI j := by
  obtain ⟨h1, h2, h3⟩ := q
  obtain ⟨j, j1, rfl⟩ := inN_get (n := nc) (by omega) (Int32.le_trans h1 h2) h3
  obtain ⟨i, i1, rfl⟩ := i32_nat h1
  exact ⟨i, j, (nI_le9 i1 (by omega)).mp h2, j1, rfl, rfl⟩

theorem s_X10_booked (hM : ModC h m a th tl at' bg er ea lr cm) (hR : h.2 a = some (.inl (.int, 5061, .inl R))) (hr : RowR R np qu ra re le ln nb pl tm ne rw bk nh hw nc cw t y) (hI : Inv np qu ra re le ln nb pl tm ne rw bk nh hw nc cw t y) (hA : Γ.2.1 ≤ m) (ham : ¬ a = m) 
    (k1 : inN x np = false → ∀ h', ax_fr m (m + 1) h h' → ModC h' m a (nI 1) tl at' bg er ea lr cm → Q (.inl (some (.int 0))) h')
    (k : ∀ j, j < np → x = nI j → ∀ h', ax_fr m (m + 1) h h' → ModC h' m a (0) tl at' bg er ea lr cm → Q (.inl (some (.int (bkd nb rw (nI j) ne)))) h') : WP Γ MX10_booked (3, 67, 0, 0) 0 [some (.ref m), some (.int x)] [] h Q := by
  have hM0 := hM
  unfold ModC at hM
  have hI0 := hI
  have hr0 := hr
  obtain ⟨⟨s1, s2, s3, s4, s5, s6, s7, s8, tn, s9, s10⟩, IM, IP, IJ, IR, IC⟩ := hI
  obtain ⟨⟨r0, r1, r2, r3, r4, r5, r6⟩, rM, rP, rJ, rH, rC⟩ := hr
  refine wp_aload_n (n := 1) dX10_booked_0 rfl rfl ?_
  refine wp_aload_n (n := 2) dX10_booked_1 rfl rfl ?_
  refine wp_iload_n (n := 3) dX10_booked_2 rfl rfl ?_
  refine wp_callV1 (n := 6) (rm' := (1, 22, 0, 0)) rfl dX10_booked_3 rfl mlX10_109 (by repeat first | assumption | exact ax_set_self _ _ _ | exact ax_newA_self _ _ _ | refine (ax_set_ne _ _ (by omega)).trans ?_ | refine (ax_newA_ne _ _ _ (by omega)).trans ?_) rfl rfl rfl rfl rfl ?_
  refine s_X10_isPool hM0 hR r1 s2 ?_
  show WP Γ _ _ _ _ _ _ _
  refine wp_iconst (n := 7) (v := nI 1) dX10_booked_6 rfl (by decide) ?_
  refine wp_callV2 (n := 10) (rm' := (0, 0, 0, 0)) rfl dX10_booked_7 rfl mlX10_113 (by repeat first | assumption | exact ax_set_self _ _ _ | exact ax_newA_self _ _ _ | refine (ax_set_ne _ _ (by omega)).trans ?_ | refine (ax_newA_ne _ _ _ (by omega)).trans ?_) rfl rfl rfl rfl rfl ?_
  refine s_X10_isThrown hM0 hA (fun hB f1 mB => ?_)
  show WP Γ _ _ _ _ _ _ _
  have fB := f1
  have hRB := fB.get hR (by omega)
  cases hx1 : inN x np with
  | false =>
    rw [hx1] at mB
    refine wp_if_eq (t := 17) (n := 13) dX10_booked_10 (by decide) rfl (fun hq => ?_) (fun hq => ?_)
    · exact absurd hq (by decide)
    · refine wp_iconst (n := 14) (v := 0) dX10_booked_13 rfl (by decide) ?_
      refine wp_goto (t := 22) dX10_booked_14 (by decide) ?_
      exact wp_ireturn dX10_booked_22 rfl rfl (k1 hx1 hB fB mB)
  | true =>
    rw [hx1] at mB
    have mB' := mB
    unfold ModC at mB'
    refine wp_if_eq (t := 17) (n := 13) dX10_booked_10 (by decide) rfl (fun hq => ?_) (fun hq => ?_)
    · skip
      obtain ⟨j, j1, rfl⟩ := inN_get (n := np) (by omega) (of_decide_eq_true hx1).1 (of_decide_eq_true hx1).2
      refine wp_aload_n (n := 18) dX10_booked_17 rfl rfl ?_
      refine wp_iload_n (n := 19) dX10_booked_18 rfl rfl ?_
      refine wp_callV1 (n := 22) (rm' := (2, 46, 0, 0)) rfl dX10_booked_19 rfl mlX10_284 (by repeat first | assumption | exact ax_set_self _ _ _ | exact ax_newA_self _ _ _ | refine (ax_set_ne _ _ (by omega)).trans ?_ | refine (ax_newA_ne _ _ _ (by omega)).trans ?_) rfl rfl rfl rfl rfl ?_
      refine s_X10_bookedOf mB hRB hr0 s5 ?_
      show WP Γ _ _ _ _ _ _ _
      exact wp_ireturn dX10_booked_22 rfl rfl (k j j1 rfl hB fB mB)
    · exact absurd rfl hq
theorem s_X10_entryValue (hM : ModC h m a th tl at' bg er ea lr cm) (hR : h.2 a = some (.inl (.int, 5061, .inl R))) (hr : RowR R np qu ra re le ln nb pl tm ne rw bk nh hw nc cw t y) (hI : Inv np qu ra re le ln nb pl tm ne rw bk nh hw nc cw t y) (hA : Γ.2.1 ≤ m) (ham : ¬ a = m) 
    (k1 : inN x ne = false → ∀ h', ax_fr m (m + 1) h h' → ModC h' m a (nI 1) tl at' bg er ea lr cm → Q (.inl (some (.int 0))) h')
    (k2 : inN x ne = true → inI z 0 6 = false → ∀ h', ax_fr m (m + 1) h h' → ModC h' m a (nI 2) tl at' bg er ea lr cm → Q (.inl (some (.int 0))) h')
    (k : ∀ e, e < ne → x = nI e → ∀ i, 0 ≤ i → i ≤ 6 → z = nI i → ∀ h', ax_fr m (m + 1) h h' → ModC h' m a (0) tl at' bg er ea lr cm → Q (.inl (some (.int (rw (e * 7 + i))))) h') : WP Γ MX10_entryValue (2, 43, 0, 0) 0 [some (.ref m), some (.int x), some (.int z)] [] h Q := by
  have hM0 := hM
  unfold ModC at hM
  have hI0 := hI
  have hr0 := hr
  obtain ⟨⟨s1, s2, s3, s4, s5, s6, s7, s8, tn, s9, s10⟩, IM, IP, IJ, IR, IC⟩ := hI
  obtain ⟨⟨r0, r1, r2, r3, r4, r5, r6⟩, rM, rP, rJ, rH, rC⟩ := hr
  refine wp_aload_n (n := 1) dX10_entryValue_0 rfl rfl ?_
  refine wp_aload_n (n := 2) dX10_entryValue_1 rfl rfl ?_
  refine wp_iload_n (n := 3) dX10_entryValue_2 rfl rfl ?_
  refine wp_callV1 (n := 6) (rm' := (1, 22, 0, 0)) rfl dX10_entryValue_3 rfl mlX10_130 (by repeat first | assumption | exact ax_set_self _ _ _ | exact ax_newA_self _ _ _ | refine (ax_set_ne _ _ (by omega)).trans ?_ | refine (ax_newA_ne _ _ _ (by omega)).trans ?_) rfl rfl rfl rfl rfl ?_
  refine s_X10_isEntry hM0 hR r4 s5 ?_
  show WP Γ _ _ _ _ _ _ _
  refine wp_iconst (n := 7) (v := nI 1) dX10_entryValue_6 rfl (by decide) ?_
  refine wp_callV2 (n := 10) (rm' := (0, 0, 0, 0)) rfl dX10_entryValue_7 rfl mlX10_113 (by repeat first | assumption | exact ax_set_self _ _ _ | exact ax_newA_self _ _ _ | refine (ax_set_ne _ _ (by omega)).trans ?_ | refine (ax_newA_ne _ _ _ (by omega)).trans ?_) rfl rfl rfl rfl rfl ?_
  refine s_X10_isThrown hM0 hA (fun h1 f1 m1 => ?_)
  show WP Γ _ _ _ _ _ _ _
  have fa1 := f1
  have hR1 := fa1.get hR (by omega)
  cases hx1 : inN x ne with
  | false =>
    rw [hx1] at m1
    refine wp_if_ne (t := 28) (n := 13) dX10_entryValue_10 (by decide) rfl (fun hq => ?_) (fun hq => ?_)
    · refine wp_iconst (n := 29) (v := 0) dX10_entryValue_28 rfl (by decide) ?_
      exact wp_ireturn dX10_entryValue_29 rfl rfl (k1 hx1 h1 fa1 m1)
    · exact absurd hq (by decide)
  | true =>
    rw [hx1] at m1
    have m1' := m1
    unfold ModC at m1'
    refine wp_if_ne (t := 28) (n := 13) dX10_entryValue_10 (by decide) rfl (fun hq => ?_) (fun hq => ?_)
    · exact absurd rfl hq
    · skip
      refine wp_aload_n (n := 14) dX10_entryValue_13 rfl rfl ?_
      refine wp_iload_n (n := 15) dX10_entryValue_14 rfl rfl ?_
      refine wp_iconst (n := 16) (v := 0) dX10_entryValue_15 rfl (by decide) ?_
      refine wp_bipush (n := 18) (v := nI 6) dX10_entryValue_16 rfl (by decide) ?_
      refine wp_callS3 (n := 21) (rm' := (0, 0, 0, 0)) rfl dX10_entryValue_18 rfl mlX10_54 rfl rfl rfl rfl ?_
      refine s_X10_inJ (p := 0) (q := 6) rfl rfl ?_
      show WP Γ _ _ _ _ _ _ _
      refine wp_iconst (n := 22) (v := nI 2) dX10_entryValue_21 rfl (by decide) ?_
      refine wp_callV2 (n := 25) (rm' := (0, 0, 0, 0)) rfl dX10_entryValue_22 rfl mlX10_113 (by repeat first | assumption | exact ax_set_self _ _ _ | exact ax_newA_self _ _ _ | refine (ax_set_ne _ _ (by omega)).trans ?_ | refine (ax_newA_ne _ _ _ (by omega)).trans ?_) rfl rfl rfl rfl rfl ?_
      refine s_X10_isThrown m1 hA (fun hB f2 mB => ?_)
      show WP Γ _ _ _ _ _ _ _
      have fB := fa1.tr (lo := m) (hi := m + 1) f2 (by omega) (by omega)
      have hRB := fB.get hR (by omega)
      cases hx2 : inI z 0 6 with
      | false =>
        rw [hx2] at mB
        refine wp_if_eq (t := 30) (n := 28) dX10_entryValue_25 (by decide) rfl (fun hq => ?_) (fun hq => ?_)
        · exact absurd hq (by decide)
        · refine wp_iconst (n := 29) (v := 0) dX10_entryValue_28 rfl (by decide) ?_
          exact wp_ireturn dX10_entryValue_29 rfl rfl (k2 hx1 hx2 hB fB mB)
      | true =>
        rw [hx2] at mB
        have mB' := mB
        unfold ModC at mB'
        refine wp_if_eq (t := 30) (n := 28) dX10_entryValue_25 (by decide) rfl (fun hq => ?_) (fun hq => ?_)
        · skip
          obtain ⟨e, e1, rfl⟩ := inN_get (n := ne) (by omega) (of_decide_eq_true hx1).1 (of_decide_eq_true hx1).2
          obtain ⟨i, i1, i2, rfl⟩ := inI_get (a := 0) (b := 6) (by omega) (by omega) (of_decide_eq_true hx2).1 (of_decide_eq_true hx2).2
          have rE := (rJ e e1).1
          refine wp_aload_n (n := 31) dX10_entryValue_30 rfl rfl ?_
          refine wp_iload_n (n := 32) dX10_entryValue_31 rfl rfl ?_
          refine wp_iload_n (n := 33) dX10_entryValue_32 rfl rfl ?_
          refine wp_callV2 (n := 36) (rm' := (0, 0, 0, 0)) rfl dX10_entryValue_33 rfl mlX10_85 (by repeat first | assumption | exact ax_set_self _ _ _ | exact ax_newA_self _ _ _ | refine (ax_set_ne _ _ (by omega)).trans ?_ | refine (ax_newA_ne _ _ _ (by omega)).trans ?_) rfl rfl rfl rfl rfl ?_
          refine s_X10_entry mB hRB (by omega) (by omega) ?_
          show WP Γ _ _ _ _ _ _ _
          rw [rE i (by omega)]
          exact wp_ireturn dX10_entryValue_36 rfl rfl (k e e1 rfl i i1 i2 rfl hB fB mB)
        · exact absurd rfl hq
theorem s_X10_reservationValue (hM : ModC h m a th tl at' bg er ea lr cm) (hR : h.2 a = some (.inl (.int, 5061, .inl R))) (hr : RowR R np qu ra re le ln nb pl tm ne rw bk nh hw nc cw t y) (hI : Inv np qu ra re le ln nb pl tm ne rw bk nh hw nc cw t y) (hA : Γ.2.1 ≤ m) (ham : ¬ a = m) 
    (k1 : inN x nh = false → ∀ h', ax_fr m (m + 1) h h' → ModC h' m a (nI 1) tl at' bg er ea lr cm → Q (.inl (some (.int 0))) h')
    (k2 : inN x nh = true → inI z 0 4 = false → ∀ h', ax_fr m (m + 1) h h' → ModC h' m a (nI 2) tl at' bg er ea lr cm → Q (.inl (some (.int 0))) h')
    (k : ∀ r, r < nh → x = nI r → ∀ i, 0 ≤ i → i ≤ 4 → z = nI i → ∀ h', ax_fr m (m + 1) h h' → ModC h' m a (0) tl at' bg er ea lr cm → Q (.inl (some (.int (hw (r * 5 + i))))) h') : WP Γ MX10_reservationValue (2, 43, 0, 0) 0 [some (.ref m), some (.int x), some (.int z)] [] h Q := by
  have hM0 := hM
  unfold ModC at hM
  have hI0 := hI
  have hr0 := hr
  obtain ⟨⟨s1, s2, s3, s4, s5, s6, s7, s8, tn, s9, s10⟩, IM, IP, IJ, IR, IC⟩ := hI
  obtain ⟨⟨r0, r1, r2, r3, r4, r5, r6⟩, rM, rP, rJ, rH, rC⟩ := hr
  refine wp_aload_n (n := 1) dX10_reservationValue_0 rfl rfl ?_
  refine wp_aload_n (n := 2) dX10_reservationValue_1 rfl rfl ?_
  refine wp_iload_n (n := 3) dX10_reservationValue_2 rfl rfl ?_
  refine wp_callV1 (n := 6) (rm' := (1, 22, 0, 0)) rfl dX10_reservationValue_3 rfl mlX10_142 (by repeat first | assumption | exact ax_set_self _ _ _ | exact ax_newA_self _ _ _ | refine (ax_set_ne _ _ (by omega)).trans ?_ | refine (ax_newA_ne _ _ _ (by omega)).trans ?_) rfl rfl rfl rfl rfl ?_
  refine s_X10_isHold hM0 hR r5 s6 ?_
  show WP Γ _ _ _ _ _ _ _
  refine wp_iconst (n := 7) (v := nI 1) dX10_reservationValue_6 rfl (by decide) ?_
  refine wp_callV2 (n := 10) (rm' := (0, 0, 0, 0)) rfl dX10_reservationValue_7 rfl mlX10_113 (by repeat first | assumption | exact ax_set_self _ _ _ | exact ax_newA_self _ _ _ | refine (ax_set_ne _ _ (by omega)).trans ?_ | refine (ax_newA_ne _ _ _ (by omega)).trans ?_) rfl rfl rfl rfl rfl ?_
  refine s_X10_isThrown hM0 hA (fun h1 f1 m1 => ?_)
  show WP Γ _ _ _ _ _ _ _
  have fa1 := f1
  have hR1 := fa1.get hR (by omega)
  cases hx1 : inN x nh with
  | false =>
    rw [hx1] at m1
    refine wp_if_ne (t := 27) (n := 13) dX10_reservationValue_10 (by decide) rfl (fun hq => ?_) (fun hq => ?_)
    · refine wp_iconst (n := 28) (v := 0) dX10_reservationValue_27 rfl (by decide) ?_
      exact wp_ireturn dX10_reservationValue_28 rfl rfl (k1 hx1 h1 fa1 m1)
    · exact absurd hq (by decide)
  | true =>
    rw [hx1] at m1
    have m1' := m1
    unfold ModC at m1'
    refine wp_if_ne (t := 27) (n := 13) dX10_reservationValue_10 (by decide) rfl (fun hq => ?_) (fun hq => ?_)
    · exact absurd rfl hq
    · skip
      refine wp_aload_n (n := 14) dX10_reservationValue_13 rfl rfl ?_
      refine wp_iload_n (n := 15) dX10_reservationValue_14 rfl rfl ?_
      refine wp_iconst (n := 16) (v := 0) dX10_reservationValue_15 rfl (by decide) ?_
      refine wp_iconst (n := 17) (v := nI 4) dX10_reservationValue_16 rfl (by decide) ?_
      refine wp_callS3 (n := 20) (rm' := (0, 0, 0, 0)) rfl dX10_reservationValue_17 rfl mlX10_54 rfl rfl rfl rfl ?_
      refine s_X10_inJ (p := 0) (q := 4) rfl rfl ?_
      show WP Γ _ _ _ _ _ _ _
      refine wp_iconst (n := 21) (v := nI 2) dX10_reservationValue_20 rfl (by decide) ?_
      refine wp_callV2 (n := 24) (rm' := (0, 0, 0, 0)) rfl dX10_reservationValue_21 rfl mlX10_113 (by repeat first | assumption | exact ax_set_self _ _ _ | exact ax_newA_self _ _ _ | refine (ax_set_ne _ _ (by omega)).trans ?_ | refine (ax_newA_ne _ _ _ (by omega)).trans ?_) rfl rfl rfl rfl rfl ?_
      refine s_X10_isThrown m1 hA (fun hB f2 mB => ?_)
      show WP Γ _ _ _ _ _ _ _
      have fB := fa1.tr (lo := m) (hi := m + 1) f2 (by omega) (by omega)
      have hRB := fB.get hR (by omega)
      cases hx2 : inI z 0 4 with
      | false =>
        rw [hx2] at mB
        refine wp_if_eq (t := 29) (n := 27) dX10_reservationValue_24 (by decide) rfl (fun hq => ?_) (fun hq => ?_)
        · exact absurd hq (by decide)
        · refine wp_iconst (n := 28) (v := 0) dX10_reservationValue_27 rfl (by decide) ?_
          exact wp_ireturn dX10_reservationValue_28 rfl rfl (k2 hx1 hx2 hB fB mB)
      | true =>
        rw [hx2] at mB
        have mB' := mB
        unfold ModC at mB'
        refine wp_if_eq (t := 29) (n := 27) dX10_reservationValue_24 (by decide) rfl (fun hq => ?_) (fun hq => ?_)
        · skip
          obtain ⟨r, r9, rfl⟩ := inN_get (n := nh) (by omega) (of_decide_eq_true hx1).1 (of_decide_eq_true hx1).2
          obtain ⟨i, i1, i2, rfl⟩ := inI_get (a := 0) (b := 4) (by omega) (by omega) (of_decide_eq_true hx2).1 (of_decide_eq_true hx2).2
          refine wp_aload_n (n := 30) dX10_reservationValue_29 rfl rfl ?_
          refine wp_iload_n (n := 31) dX10_reservationValue_30 rfl rfl ?_
          refine wp_iload_n (n := 32) dX10_reservationValue_31 rfl rfl ?_
          refine wp_callV2 (n := 35) (rm' := (0, 0, 0, 0)) rfl dX10_reservationValue_32 rfl mlX10_58 (by repeat first | assumption | exact ax_set_self _ _ _ | exact ax_newA_self _ _ _ | refine (ax_set_ne _ _ (by omega)).trans ?_ | refine (ax_newA_ne _ _ _ (by omega)).trans ?_) rfl rfl rfl rfl rfl ?_
          refine s_X10_hold mB hRB (by omega) (by omega) ?_
          show WP Γ _ _ _ _ _ _ _
          rw [rH r r9 i (by omega)]
          exact wp_ireturn dX10_reservationValue_35 rfl rfl (k r r9 rfl i i1 i2 rfl hB fB mB)
        · exact absurd rfl hq
theorem s_X10_largestTransfer (hM : ModC h m a th tl at' bg er ea lr cm) (hR : h.2 a = some (.inl (.int, 5061, .inl R))) (hr : RowR R np qu ra re le ln nb pl tm ne rw bk nh hw nc cw t y) (hI : Inv np qu ra re le ln nb pl tm ne rw bk nh hw nc cw t y) (hA : Γ.2.1 ≤ m) (ham : ¬ a = m) 
    (k1 : (inN x np && inN z np) = false → ∀ h', ax_fr m (m + 1) h h' → ModC h' m a (nI 1) tl at' bg er ea lr cm → Q (.inl (some (.int 0))) h')
    (k2 : (inN x np && inN z np) = true → decide (¬ x = z) = false → ∀ h', ax_fr m (m + 1) h h' → ModC h' m a (nI 2) tl at' bg er ea lr cm → Q (.inl (some (.int 0))) h')
    (k : ∀ i, i < np → x = nI i → ∀ j, j < np → z = nI j → ¬ x = z → ∀ h', ax_fr m (m + 1) h h' → ModC h' m a (0) tl at' bg er ea lr cm → Q (.inl (some (.int (if 0 < (if roo qu pl nb hw nh j < avl pl nb hw nh (nI i) then roo qu pl nb hw nh j else avl pl nb hw nh (nI i)) then (if roo qu pl nb hw nh j < avl pl nb hw nh (nI i) then roo qu pl nb hw nh j else avl pl nb hw nh (nI i)) else 0)))) h') : WP Γ MX10_largestTransfer (3, 67, 0, 0) 0 [some (.ref m), some (.int x), some (.int z)] [] h Q := by
  have hM0 := hM
  unfold ModC at hM
  have hI0 := hI
  have hr0 := hr
  obtain ⟨⟨s1, s2, s3, s4, s5, s6, s7, s8, tn, s9, s10⟩, IM, IP, IJ, IR, IC⟩ := hI
  obtain ⟨⟨r0, r1, r2, r3, r4, r5, r6⟩, rM, rP, rJ, rH, rC⟩ := hr
  have J0 : ∀ c9, c9 = (inN x np && inN z np) → WP Γ MX10_largestTransfer (3, 67, 0, 0) 22 [some (.ref m), some (.int x), some (.int z)] [.int (bI c9), .ref m] h Q := by
    intro c9 hc9
    refine wp_iconst (n := 23) (v := nI 1) dX10_largestTransfer_22 rfl (by decide) ?_
    refine wp_callV2 (n := 26) (rm' := (0, 0, 0, 0)) rfl dX10_largestTransfer_23 rfl mlX10_113 (by repeat first | assumption | exact ax_set_self _ _ _ | exact ax_newA_self _ _ _ | refine (ax_set_ne _ _ (by omega)).trans ?_ | refine (ax_newA_ne _ _ _ (by omega)).trans ?_) rfl rfl rfl rfl rfl ?_
    refine s_X10_isThrown hM0 hA (fun h1 f1 m1 => ?_)
    show WP Γ _ _ _ _ _ _ _
    have fa1 := f1
    have hR1 := fa1.get hR (by omega)
    cases c9 with
    | false =>
      have hx1 := hc9.symm
      refine wp_if_ne (t := 47) (n := 29) dX10_largestTransfer_26 (by decide) rfl (fun hq => ?_) (fun hq => ?_)
      · refine wp_iconst (n := 48) (v := 0) dX10_largestTransfer_47 rfl (by decide) ?_
        exact wp_ireturn dX10_largestTransfer_48 rfl rfl (k1 hx1 h1 fa1 m1)
      · exact absurd hq (by decide)
    | true =>
      have hx1 := hc9.symm
      have m1' := m1
      unfold ModC at m1'
      refine wp_if_ne (t := 47) (n := 29) dX10_largestTransfer_26 (by decide) rfl (fun hq => ?_) (fun hq => ?_)
      · exact absurd rfl hq
      · skip
        have J1 : ∀ c9, c9 = decide (¬ x = z) → WP Γ MX10_largestTransfer (3, 67, 0, 0) 40 [some (.ref m), some (.int x), some (.int z)] [.int (bI c9), .ref m] h1 Q := by
          intro c9 hc9
          refine wp_iconst (n := 41) (v := nI 2) dX10_largestTransfer_40 rfl (by decide) ?_
          refine wp_callV2 (n := 44) (rm' := (0, 0, 0, 0)) rfl dX10_largestTransfer_41 rfl mlX10_113 (by repeat first | assumption | exact ax_set_self _ _ _ | exact ax_newA_self _ _ _ | refine (ax_set_ne _ _ (by omega)).trans ?_ | refine (ax_newA_ne _ _ _ (by omega)).trans ?_) rfl rfl rfl rfl rfl ?_
          refine s_X10_isThrown m1 hA (fun hB f2 mB => ?_)
          show WP Γ _ _ _ _ _ _ _
          have fB := fa1.tr (lo := m) (hi := m + 1) f2 (by omega) (by omega)
          have hRB := fB.get hR (by omega)
          cases c9 with
          | false =>
            have hx2 := hc9.symm
            refine wp_if_eq (t := 49) (n := 47) dX10_largestTransfer_44 (by decide) rfl (fun hq => ?_) (fun hq => ?_)
            · exact absurd hq (by decide)
            · refine wp_iconst (n := 48) (v := 0) dX10_largestTransfer_47 rfl (by decide) ?_
              exact wp_ireturn dX10_largestTransfer_48 rfl rfl (k2 hx1 hx2 hB fB mB)
          | true =>
            have hx2 := hc9.symm
            have mB' := mB
            unfold ModC at mB'
            refine wp_if_eq (t := 49) (n := 47) dX10_largestTransfer_44 (by decide) rfl (fun hq => ?_) (fun hq => ?_)
            · skip
              have hx1a := (Eq.mp (Bool.and_eq_true _ _) hx1).1
              have hx1b := (Eq.mp (Bool.and_eq_true _ _) hx1).2
              obtain ⟨i, i1, rfl⟩ := inN_get (n := np) (by omega) (of_decide_eq_true hx1a).1 (of_decide_eq_true hx1a).2
              obtain ⟨j, j1, rfl⟩ := inN_get (n := np) (by omega) (of_decide_eq_true hx1b).1 (of_decide_eq_true hx1b).2
              have g_ne := of_decide_eq_true hx2
              refine wp_iconst (n := 50) (v := 0) dX10_largestTransfer_49 rfl (by decide) ?_
              refine wp_aload_n (n := 51) dX10_largestTransfer_50 rfl rfl ?_
              refine wp_iload_n (n := 52) dX10_largestTransfer_51 rfl rfl ?_
              refine wp_callV1 (n := 55) (rm' := (2, 46, 0, 0)) rfl dX10_largestTransfer_52 rfl mlX10_92 (by repeat first | assumption | exact ax_set_self _ _ _ | exact ax_newA_self _ _ _ | refine (ax_set_ne _ _ (by omega)).trans ?_ | refine (ax_newA_ne _ _ _ (by omega)).trans ?_) rfl rfl rfl rfl rfl ?_
              refine s_X10_availableOf mB hRB hr0 s4 s6 ?_
              show WP Γ _ _ _ _ _ _ _
              refine wp_aload_n (n := 56) dX10_largestTransfer_55 rfl rfl ?_
              refine wp_iload_n (n := 57) dX10_largestTransfer_56 rfl rfl ?_
              refine wp_callV1 (n := 60) (rm' := (2, 46, 0, 0)) rfl dX10_largestTransfer_57 rfl mlX10_95 (by repeat first | assumption | exact ax_set_self _ _ _ | exact ax_newA_self _ _ _ | refine (ax_set_ne _ _ (by omega)).trans ?_ | refine (ax_newA_ne _ _ _ (by omega)).trans ?_) rfl rfl rfl rfl rfl ?_
              refine s_X10_roomOf mB hRB hr0 s4 s6 s2 j1 ?_
              show WP Γ _ _ _ _ _ _ _
              refine wp_mmin (n := 63) dX10_largestTransfer_60 rfl mnX10_189 ax_mns ax_mi ax_mnc rfl rfl ?_
              refine wp_mmax (n := 66) dX10_largestTransfer_63 rfl mxX10_287 ax_mxs ax_mi ax_mxc rfl rfl ?_
              exact wp_ireturn dX10_largestTransfer_66 rfl rfl (k i i1 rfl j j1 rfl g_ne hB fB mB)
            · exact absurd rfl hq
        refine wp_aload_n (n := 30) dX10_largestTransfer_29 rfl rfl ?_
        refine wp_iload_n (n := 31) dX10_largestTransfer_30 rfl rfl ?_
        refine wp_iload_n (n := 32) dX10_largestTransfer_31 rfl rfl ?_
        refine wp_icmp_eq (t := 39) (n := 35) dX10_largestTransfer_32 (by decide) rfl (fun hc => ?_) (fun hc => ?_)
        · refine wp_iconst (n := 40) (v := 0) dX10_largestTransfer_39 rfl (by decide) ?_
          exact J1 false (decide_eq_false (fun q => q hc)).symm
        · refine wp_iconst (n := 36) (v := nI 1) dX10_largestTransfer_35 rfl (by decide) ?_
          refine wp_goto (t := 40) dX10_largestTransfer_36 (by decide) ?_
          exact J1 true (decide_eq_true (hc)).symm
  refine wp_aload_n (n := 1) dX10_largestTransfer_0 rfl rfl ?_
  refine wp_aload_n (n := 2) dX10_largestTransfer_1 rfl rfl ?_
  refine wp_iload_n (n := 3) dX10_largestTransfer_2 rfl rfl ?_
  refine wp_callV1 (n := 6) (rm' := (1, 22, 0, 0)) rfl dX10_largestTransfer_3 rfl mlX10_109 (by repeat first | assumption | exact ax_set_self _ _ _ | exact ax_newA_self _ _ _ | refine (ax_set_ne _ _ (by omega)).trans ?_ | refine (ax_newA_ne _ _ _ (by omega)).trans ?_) rfl rfl rfl rfl rfl ?_
  refine s_X10_isPool hM0 hR r1 s2 ?_
  show WP Γ _ _ _ _ _ _ _
  refine wp_if_eq (t := 21) (n := 9) dX10_largestTransfer_6 (by decide) rfl (fun hc => ?_) (fun hc => ?_)
  · refine wp_iconst (n := 22) (v := 0) dX10_largestTransfer_21 rfl (by decide) ?_
    exact J0 false (by rw [bI_eq hc, Bool.false_and])
  · have hc := bI_ne hc
    refine wp_aload_n (n := 10) dX10_largestTransfer_9 rfl rfl ?_
    refine wp_iload_n (n := 11) dX10_largestTransfer_10 rfl rfl ?_
    refine wp_callV1 (n := 14) (rm' := (1, 22, 0, 0)) rfl dX10_largestTransfer_11 rfl mlX10_109 (by repeat first | assumption | exact ax_set_self _ _ _ | exact ax_newA_self _ _ _ | refine (ax_set_ne _ _ (by omega)).trans ?_ | refine (ax_newA_ne _ _ _ (by omega)).trans ?_) rfl rfl rfl rfl rfl ?_
    refine s_X10_isPool hM0 hR r1 s2 ?_
    show WP Γ _ _ _ _ _ _ _
    refine wp_if_eq (t := 21) (n := 17) dX10_largestTransfer_14 (by decide) rfl (fun hq => ?_) (fun hq => ?_)
    · refine wp_iconst (n := 22) (v := 0) dX10_largestTransfer_21 rfl (by decide) ?_
      exact J0 false (by rw [bI_eq hq, Bool.and_false])
    · refine wp_iconst (n := 18) (v := nI 1) dX10_largestTransfer_17 rfl (by decide) ?_
      refine wp_goto (t := 22) dX10_largestTransfer_18 (by decide) ?_
      exact J0 true (by rw [hc, bI_ne hq]; rfl)
end
