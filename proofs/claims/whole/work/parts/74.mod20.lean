/-! ===== the reference: sums of entries ===== -/
section
variable {Γ : GE} {h : AH} {Q : PO} {m a np nb ne nh nc y : Nat} {R : FI} {qu ra le ln pl tm rw hw cw pk : FI} {re : Nat → UInt32} {bk : Nat → Int64} {t x z w v th tl at' bg er ea lr cm : Int32}
theorem s_X10_flow (hM : ModC h m a th tl at' bg er ea lr cm) (hR : h.2 a = some (.inl (.int, 5061, .inl R))) (hr : RowR R np qu ra re le ln nb pl tm ne rw bk nh hw nc cw t y) (hI : Inv np qu ra re le ln nb pl tm ne rw bk nh hw nc cw t y) (hA : Γ.2.1 ≤ m) (ham : ¬ a = m) 
    (k1 : (inN x np && inN z np) = false → ∀ h', ax_fr m (m + 1) h h' → ModC h' m a (nI 1) tl at' bg er ea lr cm → Q (.inl (some (.int 0))) h')
    (k2 : (inN x np && inN z np) = true → decide (0 ≤ w ∧ w ≤ v) = false → ∀ h', ax_fr m (m + 1) h h' → ModC h' m a (nI 2) tl at' bg er ea lr cm → Q (.inl (some (.int 0))) h')
    (k : ∀ i, i < np → x = nI i → ∀ j, j < np → z = nI j → 0 ≤ w → w ≤ v → ∀ h', ax_fr m (m + 1) h h' → ModC h' m a (0) tl at' bg er ea lr cm → Q (.inl (some (.int (btwS rw (nI i) (nI j) w v ne)))) h') : WP Γ MX10_flow (3, 65, 0, 0) 0 [some (.ref m), some (.int x), some (.int z), some (.int w), some (.int v), none, none] [] h Q := by
  have hM0 := hM
  unfold ModC at hM
  have hI0 := hI
  have hr0 := hr
  obtain ⟨⟨s1, s2, s3, s4, s5, s6, s7, s8, tn, s9, s10⟩, IM, IP, IJ, IR, IC⟩ := hI
  obtain ⟨⟨r0, r1, r2, r3, r4, r5, r6⟩, rM, rP, rJ, rH, rC⟩ := hr
  have J0 : ∀ c9, c9 = (inN x np && inN z np) → WP Γ MX10_flow (3, 65, 0, 0) 22 [some (.ref m), some (.int x), some (.int z), some (.int w), some (.int v), none, none] [.int (bI c9), .ref m] h Q := by
    intro c9 hc9
    refine wp_iconst (n := 23) (v := nI 1) dX10_flow_22 rfl (by decide) ?_
    refine wp_callV2 (n := 26) (rm' := (0, 0, 0, 0)) rfl dX10_flow_23 rfl mlX10_113 (by repeat first | assumption | exact ax_set_self _ _ _ | exact ax_newA_self _ _ _ | refine (ax_set_ne _ _ (by omega)).trans ?_ | refine (ax_newA_ne _ _ _ (by omega)).trans ?_) rfl rfl rfl rfl rfl ?_
    refine s_X10_isThrown hM0 hA (fun h1 f1 m1 => ?_)
    show WP Γ _ _ _ _ _ _ _
    have fa1 := f1
    have hR1 := fa1.get hR (by omega)
    cases c9 with
    | false =>
      have hx1 := hc9.symm
      refine wp_if_ne (t := 43) (n := 29) dX10_flow_26 (by decide) rfl (fun hq => ?_) (fun hq => ?_)
      · refine wp_iconst (n := 44) (v := 0) dX10_flow_43 rfl (by decide) ?_
        exact wp_ireturn dX10_flow_44 rfl rfl (k1 hx1 h1 fa1 m1)
      · exact absurd hq (by decide)
    | true =>
      have hx1 := hc9.symm
      have m1' := m1
      unfold ModC at m1'
      refine wp_if_ne (t := 43) (n := 29) dX10_flow_26 (by decide) rfl (fun hq => ?_) (fun hq => ?_)
      · exact absurd rfl hq
      · skip
        refine wp_aload_n (n := 30) dX10_flow_29 rfl rfl ?_
        refine wp_iload_n (n := 31) dX10_flow_30 rfl rfl ?_
        refine wp_iload (n := 33) dX10_flow_31 rfl rfl ?_
        refine wp_callS2 (n := 36) (rm' := (0, 0, 0, 0)) rfl dX10_flow_33 rfl mlX10_305 rfl rfl rfl rfl ?_
        refine s_X10_isInterval ?_
        show WP Γ _ _ _ _ _ _ _
        refine wp_iconst (n := 37) (v := nI 2) dX10_flow_36 rfl (by decide) ?_
        refine wp_callV2 (n := 40) (rm' := (0, 0, 0, 0)) rfl dX10_flow_37 rfl mlX10_113 (by repeat first | assumption | exact ax_set_self _ _ _ | exact ax_newA_self _ _ _ | refine (ax_set_ne _ _ (by omega)).trans ?_ | refine (ax_newA_ne _ _ _ (by omega)).trans ?_) rfl rfl rfl rfl rfl ?_
        refine s_X10_isThrown m1 hA (fun hB f2 mB => ?_)
        show WP Γ _ _ _ _ _ _ _
        have fB := fa1.tr (lo := m) (hi := m + 1) f2 (by omega) (by omega)
        have hRB := fB.get hR (by omega)
        cases hx2 : decide (0 ≤ w ∧ w ≤ v) with
        | false =>
          rw [hx2] at mB
          refine wp_if_eq (t := 45) (n := 43) dX10_flow_40 (by decide) rfl (fun hq => ?_) (fun hq => ?_)
          · exact absurd hq (by decide)
          · refine wp_iconst (n := 44) (v := 0) dX10_flow_43 rfl (by decide) ?_
            exact wp_ireturn dX10_flow_44 rfl rfl (k2 hx1 hx2 hB fB mB)
        | true =>
          rw [hx2] at mB
          have mB' := mB
          unfold ModC at mB'
          refine wp_if_eq (t := 45) (n := 43) dX10_flow_40 (by decide) rfl (fun hq => ?_) (fun hq => ?_)
          · skip
            have hx1a := (Eq.mp (Bool.and_eq_true _ _) hx1).1
            have hx1b := (Eq.mp (Bool.and_eq_true _ _) hx1).2
            obtain ⟨i, i1, rfl⟩ := inN_get (n := np) (by omega) (of_decide_eq_true hx1a).1 (of_decide_eq_true hx1a).2
            obtain ⟨j, j1, rfl⟩ := inN_get (n := np) (by omega) (of_decide_eq_true hx1b).1 (of_decide_eq_true hx1b).2
            have g_w1 := (of_decide_eq_true hx2).1
            have g_w2 := (of_decide_eq_true hx2).2
            have kk := k i i1 rfl j j1 rfl g_w1 g_w2 hB fB mB
            refine wp_iconst (n := 46) (v := 0) dX10_flow_45 rfl (by decide) ?_
            refine wp_istore (n := 48) dX10_flow_46 rfl rfl rfl rfl ?_
            refine wp_aload_n (n := 49) dX10_flow_48 rfl rfl ?_
            refine wp_iload_n (n := 50) dX10_flow_49 rfl rfl ?_
            refine wp_callV1 (n := 53) (rm' := (1, 22, 0, 0)) rfl dX10_flow_50 rfl mlX10_299 (by repeat first | assumption | exact ax_set_self _ _ _ | exact ax_newA_self _ _ _ | refine (ax_set_ne _ _ (by omega)).trans ?_ | refine (ax_newA_ne _ _ _ (by omega)).trans ?_) rfl rfl rfl rfl rfl ?_
            refine s_X10_entriesBefore mB hRB r4 rJ s5 IJ.2.1 (fun n1 hn1 => ?_)
            show WP Γ _ _ _ _ _ _ _
            refine wp_istore (n := 55) dX10_flow_53 rfl rfl rfl rfl ?_
            have b1 := hn1.1
            have z0 : ∀ e, e < ne → ¬ (n1 ≤ e ∧ rw (e * 7 + 4) ≤ v) → (if rw (e * 7 + 0) = nI i ∧ rw (e * 7 + 1) = nI j ∧ witJ rw w v e = true then rw (e * 7 + 2) else 0) = 0 := by
              intro e he hno
              refine if_neg (fun q => hno ?_)
              obtain ⟨c1, c2⟩ := of_decide_eq_true q.2.2
              refine ⟨?_, i32_not_lt c2⟩
              by_cases q9 : n1 ≤ e
              · exact q9
              · exact absurd ((hn1.2 e he).mp (by omega)) c1
            have e0 : btwS rw (nI i) (nI j) w v n1 = 0 := sumI_zero (fun e he => z0 e (by omega) (by omega))
            have L : ∀ e, e ≤ ne → n1 ≤ e → (∀ n2, upt rw ne v n2 → e ≤ n2) → WP Γ MX10_flow (3, 65, 0, 0) 55 [some (.ref m), some (.int (nI i)), some (.int (nI j)), some (.int w), some (.int v), some (.int (btwS rw (nI i) (nI j) w v e)), some (.int (nI e))] [] hB Q := by
              refine ax_up ne (fun e he ih => ?_)
              intro h2 h4
              refine wp_iload (n := 57) dX10_flow_55 rfl rfl ?_
              refine wp_aload_n (n := 58) dX10_flow_57 rfl rfl ?_
              refine wp_iload (n := 60) dX10_flow_58 rfl rfl ?_
              refine wp_callV1 (n := 63) (rm' := (2, 44, 0, 0)) rfl dX10_flow_60 rfl mlX10_302 (by repeat first | assumption | exact ax_set_self _ _ _ | exact ax_newA_self _ _ _ | refine (ax_set_ne _ _ (by omega)).trans ?_ | refine (ax_newA_ne _ _ _ (by omega)).trans ?_) rfl rfl rfl rfl rfl ?_
              refine s_X10_entriesUpTo mB hRB r4 rJ s5 IJ.2.1 (fun n2 hn2 => ?_)
              show WP Γ _ _ _ _ _ _ _
              have b2 := hn2.1
              have h4 := h4 n2 hn2
              refine wp_icmp_ge (t := 110) (n := 66) dX10_flow_63 (by decide) rfl (fun hc => ?_) (fun hc => ?_)
              · have hge := (nI_le9 (by omega) (by omega)).mp hc
                obtain rfl : e = n2 := by omega
                rw [show btwS rw (nI i) (nI j) w v ne = btwS rw (nI i) (nI j) w v e from sumI_flat b2 (fun q h5 h6 => z0 q h6 (fun q9 => absurd ((hn2.2 q h6).mpr (Int32.not_lt.mpr q9.2)) (by omega)))] at kk
                refine wp_iload (n := 112) dX10_flow_110 rfl rfl ?_
                exact wp_ireturn dX10_flow_112 rfl rfl (kk)
              · have hlt : ¬ n2 ≤ e := fun q => hc ((nI_le9 (by omega) (by omega)).mpr q)
                have ih := ih (by omega) (by omega) (fun n4 hn4 => by rw [upt_uniq hn4 hn2]; omega)
                have rE := (rJ e (by omega)).1
                have wi : witJ rw w v e = true := decide_eq_true ⟨fun q => absurd ((hn1.2 e (by omega)).mpr q) (by omega), (hn2.2 e (by omega)).mp (by omega)⟩
                have no : ¬ (rw (e * 7 + 0) = nI i ∧ rw (e * 7 + 1) = nI j) → WP Γ MX10_flow (3, 65, 0, 0) 100 [some (.ref m), some (.int (nI i)), some (.int (nI j)), some (.int w), some (.int v), some (.int (btwS rw (nI i) (nI j) w v e)), some (.int (nI e))] [.int (btwS rw (nI i) (nI j) w v e)] hB Q := by
                  intro q
                  have ih := ih
                  simp only [btwS, sumI] at ih
                  rw [if_neg (fun q9 => q ⟨q9.1, q9.2.1⟩)] at ih
                  refine wp_iconst (n := 101) (v := 0) dX10_flow_100 rfl (by decide) ?_
                  refine wp_iadd (n := 102) dX10_flow_101 rfl ?_
                  refine wp_istore (n := 104) dX10_flow_102 rfl rfl rfl rfl ?_
                  refine wp_iinc (n := 107) dX10_flow_104 rfl rfl (nI_inc e) rfl rfl rfl ?_
                  refine wp_goto (t := 55) dX10_flow_107 (by decide) ?_
                  exact ih
                refine wp_iload (n := 68) dX10_flow_66 rfl rfl ?_
                refine wp_aload_n (n := 69) dX10_flow_68 rfl rfl ?_
                refine wp_iload (n := 71) dX10_flow_69 rfl rfl ?_
                refine wp_iconst (n := 72) (v := 0) dX10_flow_71 rfl (by decide) ?_
                refine wp_callV2 (n := 75) (rm' := (0, 0, 0, 0)) rfl dX10_flow_72 rfl mlX10_85 (by repeat first | assumption | exact ax_set_self _ _ _ | exact ax_newA_self _ _ _ | refine (ax_set_ne _ _ (by omega)).trans ?_ | refine (ax_newA_ne _ _ _ (by omega)).trans ?_) rfl rfl rfl rfl rfl ?_
                refine s_X10_entry (q := 0) mB hRB (by omega) (by omega) ?_
                show WP Γ _ _ _ _ _ _ _
                refine wp_iload_n (n := 76) dX10_flow_75 rfl rfl ?_
                rw [rE 0 (by omega)]
                refine wp_icmp_ne (t := 100) (n := 79) dX10_flow_76 (by decide) rfl (fun hq => ?_) (fun hq => ?_)
                · exact no (fun q => hq q.1)
                · refine wp_aload_n (n := 80) dX10_flow_79 rfl rfl ?_
                  refine wp_iload (n := 82) dX10_flow_80 rfl rfl ?_
                  refine wp_iconst (n := 83) (v := nI 1) dX10_flow_82 rfl (by decide) ?_
                  refine wp_callV2 (n := 86) (rm' := (0, 0, 0, 0)) rfl dX10_flow_83 rfl mlX10_85 (by repeat first | assumption | exact ax_set_self _ _ _ | exact ax_newA_self _ _ _ | refine (ax_set_ne _ _ (by omega)).trans ?_ | refine (ax_newA_ne _ _ _ (by omega)).trans ?_) rfl rfl rfl rfl rfl ?_
                  refine s_X10_entry mB hRB (by omega) (by omega) ?_
                  show WP Γ _ _ _ _ _ _ _
                  refine wp_iload_n (n := 87) dX10_flow_86 rfl rfl ?_
                  rw [rE 1 (by omega)]
                  refine wp_icmp_ne (t := 100) (n := 90) dX10_flow_87 (by decide) rfl (fun hu => ?_) (fun hu => ?_)
                  · exact no (fun q => hu q.2)
                  · simp only [btwS, sumI] at ih
                    rw [if_pos ⟨hq, hu, wi⟩] at ih
                    refine wp_aload_n (n := 91) dX10_flow_90 rfl rfl ?_
                    refine wp_iload (n := 93) dX10_flow_91 rfl rfl ?_
                    refine wp_iconst (n := 94) (v := nI 2) dX10_flow_93 rfl (by decide) ?_
                    refine wp_callV2 (n := 97) (rm' := (0, 0, 0, 0)) rfl dX10_flow_94 rfl mlX10_85 (by repeat first | assumption | exact ax_set_self _ _ _ | exact ax_newA_self _ _ _ | refine (ax_set_ne _ _ (by omega)).trans ?_ | refine (ax_newA_ne _ _ _ (by omega)).trans ?_) rfl rfl rfl rfl rfl ?_
                    refine s_X10_entry mB hRB (by omega) (by omega) ?_
                    show WP Γ _ _ _ _ _ _ _
                    rw [rE 2 (by omega)]
                    refine wp_goto (t := 101) dX10_flow_97 (by decide) ?_
                    refine wp_iadd (n := 102) dX10_flow_101 rfl ?_
                    refine wp_istore (n := 104) dX10_flow_102 rfl rfl rfl rfl ?_
                    refine wp_iinc (n := 107) dX10_flow_104 rfl rfl (nI_inc e) rfl rfl rfl ?_
                    refine wp_goto (t := 55) dX10_flow_107 (by decide) ?_
                    exact ih
            have L0 := L n1 b1 (Nat.le_refl _) (fun n2 hn2 => bfr_upt g_w2 hn1 hn2)
            rw [e0] at L0
            exact L0
          · exact absurd rfl hq
  refine wp_aload_n (n := 1) dX10_flow_0 rfl rfl ?_
  refine wp_aload_n (n := 2) dX10_flow_1 rfl rfl ?_
  refine wp_iload_n (n := 3) dX10_flow_2 rfl rfl ?_
  refine wp_callV1 (n := 6) (rm' := (1, 22, 0, 0)) rfl dX10_flow_3 rfl mlX10_109 (by repeat first | assumption | exact ax_set_self _ _ _ | exact ax_newA_self _ _ _ | refine (ax_set_ne _ _ (by omega)).trans ?_ | refine (ax_newA_ne _ _ _ (by omega)).trans ?_) rfl rfl rfl rfl rfl ?_
  refine s_X10_isPool hM0 hR r1 s2 ?_
  show WP Γ _ _ _ _ _ _ _
  refine wp_if_eq (t := 21) (n := 9) dX10_flow_6 (by decide) rfl (fun hc => ?_) (fun hc => ?_)
  · refine wp_iconst (n := 22) (v := 0) dX10_flow_21 rfl (by decide) ?_
    exact J0 false (by rw [bI_eq hc, Bool.false_and])
  · have hc := bI_ne hc
    refine wp_aload_n (n := 10) dX10_flow_9 rfl rfl ?_
    refine wp_iload_n (n := 11) dX10_flow_10 rfl rfl ?_
    refine wp_callV1 (n := 14) (rm' := (1, 22, 0, 0)) rfl dX10_flow_11 rfl mlX10_109 (by repeat first | assumption | exact ax_set_self _ _ _ | exact ax_newA_self _ _ _ | refine (ax_set_ne _ _ (by omega)).trans ?_ | refine (ax_newA_ne _ _ _ (by omega)).trans ?_) rfl rfl rfl rfl rfl ?_
    refine s_X10_isPool hM0 hR r1 s2 ?_
    show WP Γ _ _ _ _ _ _ _
    refine wp_if_eq (t := 21) (n := 17) dX10_flow_14 (by decide) rfl (fun hq => ?_) (fun hq => ?_)
    · refine wp_iconst (n := 22) (v := 0) dX10_flow_21 rfl (by decide) ?_
      exact J0 false (by rw [bI_eq hq, Bool.and_false])
    · refine wp_iconst (n := 18) (v := nI 1) dX10_flow_17 rfl (by decide) ?_
      refine wp_goto (t := 22) dX10_flow_18 (by decide) ?_
      exact J0 true (by rw [hc, bI_ne hq]; rfl)
theorem s_X10_reasonTotal (hM : ModC h m a th tl at' bg er ea lr cm) (hR : h.2 a = some (.inl (.int, 5061, .inl R))) (hr : RowR R np qu ra re le ln nb pl tm ne rw bk nh hw nc cw t y) (hI : Inv np qu ra re le ln nb pl tm ne rw bk nh hw nc cw t y) (hA : Γ.2.1 ≤ m) (ham : ¬ a = m) 
    (k1 : (inI x 0 9 && decide (0 ≤ z ∧ z ≤ w)) = false → ∀ h', ax_fr m (m + 1) h h' → ModC h' m a (nI 1) tl at' bg er ea lr cm → Q (.inl (some (.int 0))) h')
    (k : inI x 0 9 = true → 0 ≤ z → z ≤ w → ∀ h', ax_fr m (m + 1) h h' → ModC h' m a (0) tl at' bg er ea lr cm → Q (.inl (some (.int (rsnS rw x z w ne)))) h') : WP Γ MX10_reasonTotal (3, 65, 0, 0) 0 [some (.ref m), some (.int x), some (.int z), some (.int w), none, none, none] [] h Q := by
  have hM0 := hM
  unfold ModC at hM
  have hI0 := hI
  have hr0 := hr
  obtain ⟨⟨s1, s2, s3, s4, s5, s6, s7, s8, tn, s9, s10⟩, IM, IP, IJ, IR, IC⟩ := hI
  obtain ⟨⟨r0, r1, r2, r3, r4, r5, r6⟩, rM, rP, rJ, rH, rC⟩ := hr
  have J0 : ∀ c9, c9 = (inI x 0 9 && decide (0 ≤ z ∧ z ≤ w)) → WP Γ MX10_reasonTotal (3, 65, 0, 0) 24 [some (.ref m), some (.int x), some (.int z), some (.int w), none, none, none] [.int (bI c9), .ref m] h Q := by
    intro c9 hc9
    refine wp_iconst (n := 25) (v := nI 1) dX10_reasonTotal_24 rfl (by decide) ?_
    refine wp_callV2 (n := 28) (rm' := (0, 0, 0, 0)) rfl dX10_reasonTotal_25 rfl mlX10_113 (by repeat first | assumption | exact ax_set_self _ _ _ | exact ax_newA_self _ _ _ | refine (ax_set_ne _ _ (by omega)).trans ?_ | refine (ax_newA_ne _ _ _ (by omega)).trans ?_) rfl rfl rfl rfl rfl ?_
    refine s_X10_isThrown hM0 hA (fun hB f1 mB => ?_)
    show WP Γ _ _ _ _ _ _ _
    have fB := f1
    have hRB := fB.get hR (by omega)
    cases c9 with
    | false =>
      have hx1 := hc9.symm
      refine wp_if_eq (t := 33) (n := 31) dX10_reasonTotal_28 (by decide) rfl (fun hq => ?_) (fun hq => ?_)
      · exact absurd hq (by decide)
      · refine wp_iconst (n := 32) (v := 0) dX10_reasonTotal_31 rfl (by decide) ?_
        exact wp_ireturn dX10_reasonTotal_32 rfl rfl (k1 hx1 hB fB mB)
    | true =>
      have hx1 := hc9.symm
      have mB' := mB
      unfold ModC at mB'
      refine wp_if_eq (t := 33) (n := 31) dX10_reasonTotal_28 (by decide) rfl (fun hq => ?_) (fun hq => ?_)
      · skip
        have hx1a := (Eq.mp (Bool.and_eq_true _ _) hx1).1
        have hx1b := (Eq.mp (Bool.and_eq_true _ _) hx1).2
        have g_x := hx1a
        have g_z1 := (of_decide_eq_true hx1b).1
        have g_z2 := (of_decide_eq_true hx1b).2
        have kk := k g_x g_z1 g_z2 hB fB mB
        refine wp_iconst (n := 34) (v := 0) dX10_reasonTotal_33 rfl (by decide) ?_
        refine wp_istore (n := 36) dX10_reasonTotal_34 rfl rfl rfl rfl ?_
        refine wp_aload_n (n := 37) dX10_reasonTotal_36 rfl rfl ?_
        refine wp_iload_n (n := 38) dX10_reasonTotal_37 rfl rfl ?_
        refine wp_callV1 (n := 41) (rm' := (1, 22, 0, 0)) rfl dX10_reasonTotal_38 rfl mlX10_299 (by repeat first | assumption | exact ax_set_self _ _ _ | exact ax_newA_self _ _ _ | refine (ax_set_ne _ _ (by omega)).trans ?_ | refine (ax_newA_ne _ _ _ (by omega)).trans ?_) rfl rfl rfl rfl rfl ?_
        refine s_X10_entriesBefore mB hRB r4 rJ s5 IJ.2.1 (fun n1 hn1 => ?_)
        show WP Γ _ _ _ _ _ _ _
        refine wp_istore (n := 43) dX10_reasonTotal_41 rfl rfl rfl rfl ?_
        have b1 := hn1.1
        have z0 : ∀ e, e < ne → ¬ (n1 ≤ e ∧ rw (e * 7 + 4) ≤ w) → (if rw (e * 7 + 3) = x ∧ witJ rw z w e = true then sgnJ rw e else 0) = 0 := by
          intro e he hno
          refine if_neg (fun q => hno ?_)
          obtain ⟨c1, c2⟩ := of_decide_eq_true q.2
          refine ⟨?_, i32_not_lt c2⟩
          by_cases q9 : n1 ≤ e
          · exact q9
          · exact absurd ((hn1.2 e he).mp (by omega)) c1
        have e0 : rsnS rw x z w n1 = 0 := sumI_zero (fun e he => z0 e (by omega) (by omega))
        have L : ∀ e, e ≤ ne → n1 ≤ e → (∀ n2, upt rw ne w n2 → e ≤ n2) → ∀ q6, WP Γ MX10_reasonTotal (3, 65, 0, 0) 43 [some (.ref m), some (.int x), some (.int z), some (.int w), some (.int (rsnS rw x z w e)), some (.int (nI e)), q6] [] hB Q := by
          refine ax_up ne (fun e he ih => ?_)
          intro h2 h4 q6
          refine wp_lo (lo' := [some (.ref m), some (.int x), some (.int z), some (.int w), some (.int (rsnS rw x z w e)), some (.int (nI e)), none]) (fun k v hk => ?_) ?_
          · match k, hk with
            | 0, hk => exact hk
            | 1, hk => exact hk
            | 2, hk => exact hk
            | 3, hk => exact hk
            | 4, hk => exact hk
            | 5, hk => exact hk
            | 6, hk => exact absurd hk (by simp [ax_gl])
            | k + 7, hk => exact absurd hk (by simp [ax_gl])
          refine wp_iload (n := 45) dX10_reasonTotal_43 rfl rfl ?_
          refine wp_aload_n (n := 46) dX10_reasonTotal_45 rfl rfl ?_
          refine wp_iload_n (n := 47) dX10_reasonTotal_46 rfl rfl ?_
          refine wp_callV1 (n := 50) (rm' := (2, 44, 0, 0)) rfl dX10_reasonTotal_47 rfl mlX10_302 (by repeat first | assumption | exact ax_set_self _ _ _ | exact ax_newA_self _ _ _ | refine (ax_set_ne _ _ (by omega)).trans ?_ | refine (ax_newA_ne _ _ _ (by omega)).trans ?_) rfl rfl rfl rfl rfl ?_
          refine s_X10_entriesUpTo mB hRB r4 rJ s5 IJ.2.1 (fun n2 hn2 => ?_)
          show WP Γ _ _ _ _ _ _ _
          have b2 := hn2.1
          have h4 := h4 n2 hn2
          refine wp_icmp_ge (t := 121) (n := 53) dX10_reasonTotal_50 (by decide) rfl (fun hc => ?_) (fun hc => ?_)
          · have hge := (nI_le9 (by omega) (by omega)).mp hc
            obtain rfl : e = n2 := by omega
            rw [show rsnS rw x z w ne = rsnS rw x z w e from sumI_flat b2 (fun q h5 h6 => z0 q h6 (fun q9 => absurd ((hn2.2 q h6).mpr (Int32.not_lt.mpr q9.2)) (by omega)))] at kk
            refine wp_iload (n := 123) dX10_reasonTotal_121 rfl rfl ?_
            exact wp_ireturn dX10_reasonTotal_123 rfl rfl (kk)
          · have hlt : ¬ n2 ≤ e := fun q => hc ((nI_le9 (by omega) (by omega)).mpr q)
            have ih := ih (by omega) (by omega) (fun n4 hn4 => by rw [upt_uniq hn4 hn2]; omega)
            have rE := (rJ e (by omega)).1
            have wi : witJ rw z w e = true := decide_eq_true ⟨fun q => absurd ((hn1.2 e (by omega)).mpr q) (by omega), (hn2.2 e (by omega)).mp (by omega)⟩
            have S : ∀ s : Int32, s * rw (e * 7 + 2) = sgnJ rw e → WP Γ MX10_reasonTotal (3, 65, 0, 0) 83 [some (.ref m), some (.int x), some (.int z), some (.int w), some (.int (rsnS rw x z w e)), some (.int (nI e)), none] [.int s] hB Q := by
              intro s hs
              simp only [rsnS, sumI] at ih
              refine wp_istore (n := 85) dX10_reasonTotal_83 rfl rfl rfl rfl ?_
              refine wp_iload (n := 87) dX10_reasonTotal_85 rfl rfl ?_
              refine wp_aload_n (n := 88) dX10_reasonTotal_87 rfl rfl ?_
              refine wp_iload (n := 90) dX10_reasonTotal_88 rfl rfl ?_
              refine wp_iconst (n := 91) (v := nI 3) dX10_reasonTotal_90 rfl (by decide) ?_
              refine wp_callV2 (n := 94) (rm' := (0, 0, 0, 0)) rfl dX10_reasonTotal_91 rfl mlX10_85 (by repeat first | assumption | exact ax_set_self _ _ _ | exact ax_newA_self _ _ _ | refine (ax_set_ne _ _ (by omega)).trans ?_ | refine (ax_newA_ne _ _ _ (by omega)).trans ?_) rfl rfl rfl rfl rfl ?_
              refine s_X10_entry mB hRB (by omega) (by omega) ?_
              show WP Γ _ _ _ _ _ _ _
              refine wp_iload_n (n := 95) dX10_reasonTotal_94 rfl rfl ?_
              rw [rE 3 (by omega)]
              refine wp_icmp_ne (t := 111) (n := 98) dX10_reasonTotal_95 (by decide) rfl (fun hq => ?_) (fun hq => ?_)
              · rw [if_neg (fun q => hq q.1)] at ih
                refine wp_iconst (n := 112) (v := 0) dX10_reasonTotal_111 rfl (by decide) ?_
                refine wp_iadd (n := 113) dX10_reasonTotal_112 rfl ?_
                refine wp_istore (n := 115) dX10_reasonTotal_113 rfl rfl rfl rfl ?_
                refine wp_iinc (n := 118) dX10_reasonTotal_115 rfl rfl (nI_inc e) rfl rfl rfl ?_
                refine wp_goto (t := 43) dX10_reasonTotal_118 (by decide) ?_
                exact ih _
              · rw [if_pos ⟨hq, wi⟩] at ih
                refine wp_iload (n := 100) dX10_reasonTotal_98 rfl rfl ?_
                refine wp_aload_n (n := 101) dX10_reasonTotal_100 rfl rfl ?_
                refine wp_iload (n := 103) dX10_reasonTotal_101 rfl rfl ?_
                refine wp_iconst (n := 104) (v := nI 2) dX10_reasonTotal_103 rfl (by decide) ?_
                refine wp_callV2 (n := 107) (rm' := (0, 0, 0, 0)) rfl dX10_reasonTotal_104 rfl mlX10_85 (by repeat first | assumption | exact ax_set_self _ _ _ | exact ax_newA_self _ _ _ | refine (ax_set_ne _ _ (by omega)).trans ?_ | refine (ax_newA_ne _ _ _ (by omega)).trans ?_) rfl rfl rfl rfl rfl ?_
                refine s_X10_entry mB hRB (by omega) (by omega) ?_
                show WP Γ _ _ _ _ _ _ _
                rw [rE 2 (by omega)]
                refine wp_imul (n := 108) dX10_reasonTotal_107 rfl ?_
                rw [hs]
                refine wp_goto (t := 112) dX10_reasonTotal_108 (by decide) ?_
                refine wp_iadd (n := 113) dX10_reasonTotal_112 rfl ?_
                refine wp_istore (n := 115) dX10_reasonTotal_113 rfl rfl rfl rfl ?_
                refine wp_iinc (n := 118) dX10_reasonTotal_115 rfl rfl (nI_inc e) rfl rfl rfl ?_
                refine wp_goto (t := 43) dX10_reasonTotal_118 (by decide) ?_
                exact ih _
            refine wp_aload_n (n := 54) dX10_reasonTotal_53 rfl rfl ?_
            refine wp_iload (n := 56) dX10_reasonTotal_54 rfl rfl ?_
            refine wp_iconst (n := 57) (v := nI 5) dX10_reasonTotal_56 rfl (by decide) ?_
            refine wp_callV2 (n := 60) (rm' := (0, 0, 0, 0)) rfl dX10_reasonTotal_57 rfl mlX10_85 (by repeat first | assumption | exact ax_set_self _ _ _ | exact ax_newA_self _ _ _ | refine (ax_set_ne _ _ (by omega)).trans ?_ | refine (ax_newA_ne _ _ _ (by omega)).trans ?_) rfl rfl rfl rfl rfl ?_
            refine s_X10_entry mB hRB (by omega) (by omega) ?_
            show WP Γ _ _ _ _ _ _ _
            rw [rE 5 (by omega)]
            refine wp_if_ne (t := 67) (n := 63) dX10_reasonTotal_60 (by decide) rfl (fun hq => ?_) (fun hq => ?_)
            · refine wp_aload_n (n := 68) dX10_reasonTotal_67 rfl rfl ?_
              refine wp_iload (n := 70) dX10_reasonTotal_68 rfl rfl ?_
              refine wp_iconst (n := 71) (v := nI 5) dX10_reasonTotal_70 rfl (by decide) ?_
              refine wp_callV2 (n := 74) (rm' := (0, 0, 0, 0)) rfl dX10_reasonTotal_71 rfl mlX10_85 (by repeat first | assumption | exact ax_set_self _ _ _ | exact ax_newA_self _ _ _ | refine (ax_set_ne _ _ (by omega)).trans ?_ | refine (ax_newA_ne _ _ _ (by omega)).trans ?_) rfl rfl rfl rfl rfl ?_
              refine s_X10_entry mB hRB (by omega) (by omega) ?_
              show WP Γ _ _ _ _ _ _ _
              refine wp_iconst (n := 75) (v := nI 1) dX10_reasonTotal_74 rfl (by decide) ?_
              rw [rE 5 (by omega)]
              refine wp_icmp_ne (t := 82) (n := 78) dX10_reasonTotal_75 (by decide) rfl (fun hu => ?_) (fun hu => ?_)
              · refine wp_iconst (n := 83) (v := 0) dX10_reasonTotal_82 rfl (by decide) ?_
                exact S 0 (by unfold sgnJ; rw [if_neg hq, if_neg hu, Int32.zero_mul])
              · refine wp_iconst (n := 79) (v := (-1)) dX10_reasonTotal_78 rfl (by decide) ?_
                refine wp_goto (t := 83) dX10_reasonTotal_79 (by decide) ?_
                exact S (-1) (by unfold sgnJ; rw [if_neg hq, if_pos hu, Int32.neg_mul, Int32.one_mul])
            · refine wp_iconst (n := 64) (v := nI 1) dX10_reasonTotal_63 rfl (by decide) ?_
              refine wp_goto (t := 83) dX10_reasonTotal_64 (by decide) ?_
              exact S (nI 1) (by unfold sgnJ; rw [if_pos hq]; exact Int32.one_mul _)
        have L0 := L n1 b1 (Nat.le_refl _) (fun n2 hn2 => bfr_upt g_z2 hn1 hn2) none
        rw [e0] at L0
        exact L0
      · exact absurd rfl hq
  refine wp_aload_n (n := 1) dX10_reasonTotal_0 rfl rfl ?_
  refine wp_iload_n (n := 2) dX10_reasonTotal_1 rfl rfl ?_
  refine wp_iconst (n := 3) (v := 0) dX10_reasonTotal_2 rfl (by decide) ?_
  refine wp_bipush (n := 5) (v := nI 9) dX10_reasonTotal_3 rfl (by decide) ?_
  refine wp_callS3 (n := 8) (rm' := (0, 0, 0, 0)) rfl dX10_reasonTotal_5 rfl mlX10_54 rfl rfl rfl rfl ?_
  refine s_X10_inJ (p := 0) (q := 9) rfl rfl ?_
  show WP Γ _ _ _ _ _ _ _
  refine wp_if_eq (t := 23) (n := 11) dX10_reasonTotal_8 (by decide) rfl (fun hc => ?_) (fun hc => ?_)
  · refine wp_iconst (n := 24) (v := 0) dX10_reasonTotal_23 rfl (by decide) ?_
    exact J0 false (by rw [bI_eq hc, Bool.false_and])
  · have hc := bI_ne hc
    refine wp_iload_n (n := 12) dX10_reasonTotal_11 rfl rfl ?_
    refine wp_iload_n (n := 13) dX10_reasonTotal_12 rfl rfl ?_
    refine wp_callS2 (n := 16) (rm' := (0, 0, 0, 0)) rfl dX10_reasonTotal_13 rfl mlX10_305 rfl rfl rfl rfl ?_
    refine s_X10_isInterval ?_
    show WP Γ _ _ _ _ _ _ _
    refine wp_if_eq (t := 23) (n := 19) dX10_reasonTotal_16 (by decide) rfl (fun hq => ?_) (fun hq => ?_)
    · refine wp_iconst (n := 24) (v := 0) dX10_reasonTotal_23 rfl (by decide) ?_
      exact J0 false (by rw [bI_eq hq, Bool.and_false])
    · refine wp_iconst (n := 20) (v := nI 1) dX10_reasonTotal_19 rfl (by decide) ?_
      refine wp_goto (t := 24) dX10_reasonTotal_20 (by decide) ?_
      exact J0 true (by rw [hc, bI_ne hq]; rfl)
theorem s_X10_busiest (hM : ModC h m a th tl at' bg er ea lr cm) (hR : h.2 a = some (.inl (.int, 5061, .inl R))) (hr : RowR R np qu ra re le ln nb pl tm ne rw bk nh hw nc cw t y) (hI : Inv np qu ra re le ln nb pl tm ne rw bk nh hw nc cw t y) (hA : Γ.2.1 ≤ m) (ham : ¬ a = m) 
    (k1 : decide (0 ≤ x ∧ x ≤ z) = false → ∀ h', ax_fr m (m + 1) h h' → ModC h' m a (nI 1) tl at' bg er ea lr cm → Q (.inl (some (.int 0))) h')
    (k : 0 ≤ x → x ≤ z → ∀ h', ax_fr m (m + 1) h h' → ModC h' m a (0) tl at' bg er ea lr cm → Q (.inl (some (.int (mstB rw x z ne np).2))) h') : WP Γ MX10_busiest (3, 65, 0, 0) 0 [some (.ref m), some (.int x), some (.int z), none, none, none, none, none] [] h Q := by
  have hM0 := hM
  unfold ModC at hM
  have hI0 := hI
  have hr0 := hr
  obtain ⟨⟨s1, s2, s3, s4, s5, s6, s7, s8, tn, s9, s10⟩, IM, IP, IJ, IR, IC⟩ := hI
  obtain ⟨⟨r0, r1, r2, r3, r4, r5, r6⟩, rM, rP, rJ, rH, rC⟩ := hr
  refine wp_aload_n (n := 1) dX10_busiest_0 rfl rfl ?_
  refine wp_iload_n (n := 2) dX10_busiest_1 rfl rfl ?_
  refine wp_iload_n (n := 3) dX10_busiest_2 rfl rfl ?_
  refine wp_callS2 (n := 6) (rm' := (0, 0, 0, 0)) rfl dX10_busiest_3 rfl mlX10_305 rfl rfl rfl rfl ?_
  refine s_X10_isInterval ?_
  show WP Γ _ _ _ _ _ _ _
  refine wp_iconst (n := 7) (v := nI 1) dX10_busiest_6 rfl (by decide) ?_
  refine wp_callV2 (n := 10) (rm' := (0, 0, 0, 0)) rfl dX10_busiest_7 rfl mlX10_113 (by repeat first | assumption | exact ax_set_self _ _ _ | exact ax_newA_self _ _ _ | refine (ax_set_ne _ _ (by omega)).trans ?_ | refine (ax_newA_ne _ _ _ (by omega)).trans ?_) rfl rfl rfl rfl rfl ?_
  refine s_X10_isThrown hM0 hA (fun hB f1 mB => ?_)
  show WP Γ _ _ _ _ _ _ _
  have fB := f1
  have hRB := fB.get hR (by omega)
  cases hx1 : decide (0 ≤ x ∧ x ≤ z) with
  | false =>
    rw [hx1] at mB
    refine wp_if_eq (t := 15) (n := 13) dX10_busiest_10 (by decide) rfl (fun hq => ?_) (fun hq => ?_)
    · exact absurd hq (by decide)
    · refine wp_iconst (n := 14) (v := 0) dX10_busiest_13 rfl (by decide) ?_
      exact wp_ireturn dX10_busiest_14 rfl rfl (k1 hx1 hB fB mB)
  | true =>
    rw [hx1] at mB
    have mB' := mB
    unfold ModC at mB'
    refine wp_if_eq (t := 15) (n := 13) dX10_busiest_10 (by decide) rfl (fun hq => ?_) (fun hq => ?_)
    · skip
      have g_x1 := (of_decide_eq_true hx1).1
      have g_x2 := (of_decide_eq_true hx1).2
      have kk := k g_x1 g_x2 hB fB mB
      refine wp_iconst (n := 16) (v := (-1)) dX10_busiest_15 rfl (by decide) ?_
      refine wp_istore_n (n := 17) dX10_busiest_16 rfl rfl rfl rfl ?_
      refine wp_iconst (n := 18) (v := 0) dX10_busiest_17 rfl (by decide) ?_
      refine wp_istore (n := 20) dX10_busiest_18 rfl rfl rfl rfl ?_
      refine wp_iconst (n := 21) (v := 0) dX10_busiest_20 rfl (by decide) ?_
      refine wp_istore (n := 23) dX10_busiest_21 rfl rfl rfl rfl ?_
      suffices L : ∀ j, j ≤ np → ∀ q6 q7, WP Γ MX10_busiest (3, 65, 0, 0) 23 [some (.ref m), some (.int x), some (.int z), some (.int (mstB rw x z ne j).2), some (.int (mstB rw x z ne j).1), some (.int (nI j)), q6, q7] [] hB Q from L 0 (Nat.zero_le _) none none
      refine ax_up np (fun j hj ih => ?_)
      intro q6 q7
      refine wp_lo (lo' := [some (.ref m), some (.int x), some (.int z), some (.int (mstB rw x z ne j).2), some (.int (mstB rw x z ne j).1), some (.int (nI j)), none, none]) (fun k v hk => ?_) ?_
      · match k, hk with
        | 0, hk => exact hk
        | 1, hk => exact hk
        | 2, hk => exact hk
        | 3, hk => exact hk
        | 4, hk => exact hk
        | 5, hk => exact hk
        | 6, hk => exact absurd hk (by simp [ax_gl])
        | 7, hk => exact absurd hk (by simp [ax_gl])
        | k + 8, hk => exact absurd hk (by simp [ax_gl])
      refine wp_iload (n := 25) dX10_busiest_23 rfl rfl ?_
      refine wp_aload_n (n := 26) dX10_busiest_25 rfl rfl ?_
      refine wp_getf (n := 29) dX10_busiest_26 rfl flX10_9 (by repeat first | assumption | exact ax_set_self _ _ _ | exact ax_newA_self _ _ _ | refine (ax_set_ne _ _ (by omega)).trans ?_ | refine (ax_newA_ne _ _ _ (by omega)).trans ?_) (by rfl) ?_
      refine wp_iconst (n := 30) (v := nI 1) dX10_busiest_29 rfl (by decide) ?_
      refine wp_iald (n := 31) _ dX10_busiest_30 rfl (by repeat first | assumption | exact ax_set_self _ _ _ | exact ax_newA_self _ _ _ | refine (ax_set_ne _ _ (by omega)).trans ?_ | refine (ax_newA_ne _ _ _ (by omega)).trans ?_) rfl (by omega) (by decide) ?_
      rw [r1]
      refine wp_icmp_ge (t := 120) (n := 34) dX10_busiest_31 (by decide) rfl (fun hc => ?_) (fun hc => ?_)
      · rw [nI_le9 (by omega) (by omega)] at hc
        obtain rfl : j = np := by omega
        refine wp_iload_n (n := 121) dX10_busiest_120 rfl rfl ?_
        exact wp_ireturn dX10_busiest_121 rfl rfl (kk)
      · rw [nI_le9 (by omega) (by omega)] at hc
        have hlt : j < np := by omega
        have ih := ih hlt
        refine wp_iconst (n := 35) (v := 0) dX10_busiest_34 rfl (by decide) ?_
        refine wp_istore (n := 37) dX10_busiest_35 rfl rfl rfl rfl ?_
        refine wp_aload_n (n := 38) dX10_busiest_37 rfl rfl ?_
        refine wp_iload_n (n := 39) dX10_busiest_38 rfl rfl ?_
        refine wp_callV1 (n := 42) (rm' := (1, 22, 0, 0)) rfl dX10_busiest_39 rfl mlX10_299 (by repeat first | assumption | exact ax_set_self _ _ _ | exact ax_newA_self _ _ _ | refine (ax_set_ne _ _ (by omega)).trans ?_ | refine (ax_newA_ne _ _ _ (by omega)).trans ?_) rfl rfl rfl rfl rfl ?_
        refine s_X10_entriesBefore mB hRB r4 rJ s5 IJ.2.1 (fun n1 hn1 => ?_)
        show WP Γ _ _ _ _ _ _ _
        refine wp_istore (n := 44) dX10_busiest_42 rfl rfl rfl rfl ?_
        have b1 := hn1.1
        have z0 : ∀ e, e < ne → ¬ (n1 ≤ e ∧ rw (e * 7 + 4) ≤ z) → (if (rw (e * 7 + 0) = nI j ∨ rw (e * 7 + 1) = nI j) ∧ witJ rw x z e = true then rw (e * 7 + 2) else 0) = 0 := by
          intro e he hno
          refine if_neg (fun q => hno ?_)
          obtain ⟨c1, c2⟩ := of_decide_eq_true q.2
          refine ⟨?_, i32_not_lt c2⟩
          by_cases q9 : n1 ≤ e
          · exact q9
          · exact absurd ((hn1.2 e he).mp (by omega)) c1
        have e0 : trnS rw (nI j) x z n1 = 0 := sumI_zero (fun e he => z0 e (by omega) (by omega))
        have L : ∀ e, e ≤ ne → n1 ≤ e → (∀ n2, upt rw ne z n2 → e ≤ n2) → WP Γ MX10_busiest (3, 65, 0, 0) 44 [some (.ref m), some (.int x), some (.int z), some (.int (mstB rw x z ne j).2), some (.int (mstB rw x z ne j).1), some (.int (nI j)), some (.int (trnS rw (nI j) x z e)), some (.int (nI e))] [] hB Q := by
          refine ax_up ne (fun e he ih2 => ?_)
          intro h2 h4
          refine wp_iload (n := 46) dX10_busiest_44 rfl rfl ?_
          refine wp_aload_n (n := 47) dX10_busiest_46 rfl rfl ?_
          refine wp_iload_n (n := 48) dX10_busiest_47 rfl rfl ?_
          refine wp_callV1 (n := 51) (rm' := (2, 44, 0, 0)) rfl dX10_busiest_48 rfl mlX10_302 (by repeat first | assumption | exact ax_set_self _ _ _ | exact ax_newA_self _ _ _ | refine (ax_set_ne _ _ (by omega)).trans ?_ | refine (ax_newA_ne _ _ _ (by omega)).trans ?_) rfl rfl rfl rfl rfl ?_
          refine s_X10_entriesUpTo mB hRB r4 rJ s5 IJ.2.1 (fun n2 hn2 => ?_)
          show WP Γ _ _ _ _ _ _ _
          have b2 := hn2.1
          have h4 := h4 n2 hn2
          refine wp_icmp_ge (t := 100) (n := 54) dX10_busiest_51 (by decide) rfl (fun hc2 => ?_) (fun hc2 => ?_)
          · have hge := (nI_le9 (by omega) (by omega)).mp hc2
            obtain rfl : e = n2 := by omega
            have e9 : trnS rw (nI j) x z e = trnS rw (nI j) x z ne := (sumI_flat b2 (fun q h5 h6 => z0 q h6 (fun q9 => absurd ((hn2.2 q h6).mpr (Int32.not_lt.mpr q9.2)) (by omega)))).symm
            rw [e9]
            refine wp_iload (n := 102) dX10_busiest_100 rfl rfl ?_
            refine wp_iload (n := 104) dX10_busiest_102 rfl rfl ?_
            refine wp_icmp_le (t := 114) (n := 107) dX10_busiest_104 (by decide) rfl (fun hq => ?_) (fun hq => ?_)
            · simp only [mstB, if_neg (Int32.not_lt.mpr hq)] at ih
              refine wp_iinc (n := 117) dX10_busiest_114 rfl rfl (nI_inc j) rfl rfl rfl ?_
              refine wp_goto (t := 23) dX10_busiest_117 (by decide) ?_
              exact ih _ _
            · simp only [mstB, if_pos (i32_not_le hq)] at ih
              refine wp_iload (n := 109) dX10_busiest_107 rfl rfl ?_
              refine wp_istore_n (n := 110) dX10_busiest_109 rfl rfl rfl rfl ?_
              refine wp_iload (n := 112) dX10_busiest_110 rfl rfl ?_
              refine wp_istore (n := 114) dX10_busiest_112 rfl rfl rfl rfl ?_
              refine wp_iinc (n := 117) dX10_busiest_114 rfl rfl (nI_inc j) rfl rfl rfl ?_
              refine wp_goto (t := 23) dX10_busiest_117 (by decide) ?_
              exact ih _ _
          · have hlt2 : ¬ n2 ≤ e := fun q => hc2 ((nI_le9 (by omega) (by omega)).mpr q)
            have ih2 := ih2 (by omega) (by omega) (fun n4 hn4 => by rw [upt_uniq hn4 hn2]; omega)
            simp only [trnS, sumI] at ih2
            have rE := (rJ e (by omega)).1
            have wi : witJ rw x z e = true := decide_eq_true ⟨fun q => absurd ((hn1.2 e (by omega)).mpr q) (by omega), (hn2.2 e (by omega)).mp (by omega)⟩
            have yes : (rw (e * 7 + 0) = nI j ∨ rw (e * 7 + 1) = nI j) → WP Γ MX10_busiest (3, 65, 0, 0) 80 [some (.ref m), some (.int x), some (.int z), some (.int (mstB rw x z ne j).2), some (.int (mstB rw x z ne j).1), some (.int (nI j)), some (.int (trnS rw (nI j) x z e)), some (.int (nI e))] [.int (trnS rw (nI j) x z e)] hB Q := by
              intro q
              rw [if_pos ⟨q, wi⟩] at ih2
              refine wp_aload_n (n := 81) dX10_busiest_80 rfl rfl ?_
              refine wp_iload (n := 83) dX10_busiest_81 rfl rfl ?_
              refine wp_iconst (n := 84) (v := nI 2) dX10_busiest_83 rfl (by decide) ?_
              refine wp_callV2 (n := 87) (rm' := (0, 0, 0, 0)) rfl dX10_busiest_84 rfl mlX10_85 (by repeat first | assumption | exact ax_set_self _ _ _ | exact ax_newA_self _ _ _ | refine (ax_set_ne _ _ (by omega)).trans ?_ | refine (ax_newA_ne _ _ _ (by omega)).trans ?_) rfl rfl rfl rfl rfl ?_
              refine s_X10_entry mB hRB (by omega) (by omega) ?_
              show WP Γ _ _ _ _ _ _ _
              rw [rE 2 (by omega)]
              refine wp_goto (t := 91) dX10_busiest_87 (by decide) ?_
              refine wp_iadd (n := 92) dX10_busiest_91 rfl ?_
              refine wp_istore (n := 94) dX10_busiest_92 rfl rfl rfl rfl ?_
              refine wp_iinc (n := 97) dX10_busiest_94 rfl rfl (nI_inc e) rfl rfl rfl ?_
              refine wp_goto (t := 44) dX10_busiest_97 (by decide) ?_
              exact ih2
            refine wp_iload (n := 56) dX10_busiest_54 rfl rfl ?_
            refine wp_aload_n (n := 57) dX10_busiest_56 rfl rfl ?_
            refine wp_iload (n := 59) dX10_busiest_57 rfl rfl ?_
            refine wp_iconst (n := 60) (v := 0) dX10_busiest_59 rfl (by decide) ?_
            refine wp_callV2 (n := 63) (rm' := (0, 0, 0, 0)) rfl dX10_busiest_60 rfl mlX10_85 (by repeat first | assumption | exact ax_set_self _ _ _ | exact ax_newA_self _ _ _ | refine (ax_set_ne _ _ (by omega)).trans ?_ | refine (ax_newA_ne _ _ _ (by omega)).trans ?_) rfl rfl rfl rfl rfl ?_
            refine s_X10_entry (q := 0) mB hRB (by omega) (by omega) ?_
            show WP Γ _ _ _ _ _ _ _
            refine wp_iload (n := 65) dX10_busiest_63 rfl rfl ?_
            rw [rE 0 (by omega)]
            refine wp_icmp_eq (t := 80) (n := 68) dX10_busiest_65 (by decide) rfl (fun hq => ?_) (fun hq => ?_)
            · exact yes (Or.inl hq)
            · refine wp_aload_n (n := 69) dX10_busiest_68 rfl rfl ?_
              refine wp_iload (n := 71) dX10_busiest_69 rfl rfl ?_
              refine wp_iconst (n := 72) (v := nI 1) dX10_busiest_71 rfl (by decide) ?_
              refine wp_callV2 (n := 75) (rm' := (0, 0, 0, 0)) rfl dX10_busiest_72 rfl mlX10_85 (by repeat first | assumption | exact ax_set_self _ _ _ | exact ax_newA_self _ _ _ | refine (ax_set_ne _ _ (by omega)).trans ?_ | refine (ax_newA_ne _ _ _ (by omega)).trans ?_) rfl rfl rfl rfl rfl ?_
              refine s_X10_entry mB hRB (by omega) (by omega) ?_
              show WP Γ _ _ _ _ _ _ _
              refine wp_iload (n := 77) dX10_busiest_75 rfl rfl ?_
              rw [rE 1 (by omega)]
              refine wp_icmp_ne (t := 90) (n := 80) dX10_busiest_77 (by decide) rfl (fun hu => ?_) (fun hu => ?_)
              · rw [if_neg (fun q => q.1.elim hq hu)] at ih2
                refine wp_iconst (n := 91) (v := 0) dX10_busiest_90 rfl (by decide) ?_
                refine wp_iadd (n := 92) dX10_busiest_91 rfl ?_
                refine wp_istore (n := 94) dX10_busiest_92 rfl rfl rfl rfl ?_
                refine wp_iinc (n := 97) dX10_busiest_94 rfl rfl (nI_inc e) rfl rfl rfl ?_
                refine wp_goto (t := 44) dX10_busiest_97 (by decide) ?_
                exact ih2
              · exact yes (Or.inr hu)
        have L0 := L n1 b1 (Nat.le_refl _) (fun n2 hn2 => bfr_upt g_x2 hn1 hn2)
        rw [e0] at L0
        exact L0
    · exact absurd rfl hq
end
