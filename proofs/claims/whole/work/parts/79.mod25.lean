/-! ===== the reference: transferBlock ===== -/
section
variable {Γ : GE} {h : AH} {Q : PO} {m a np nb ne nh nc y : Nat} {R : FI} {qu ra le ln pl tm rw hw cw pk : FI} {re : Nat → UInt32} {bk : Nat → Int64} {t x z w v th tl at' bg er ea lr cm : Int32}
theorem s_X10_transferBlock (hM : ModC h m a th tl at' bg er ea lr cm) (hR : h.2 a = some (.inl (.int, 5061, .inl R))) (hr : RowR R np qu ra re le ln nb pl tm ne rw bk nh hw nc cw t y) (hI : Inv np qu ra re le ln nb pl tm ne rw bk nh hw nc cw t y) (hA : Γ.2.1 ≤ m) (ham : ¬ a = m) (hP : h.2 (m + 9) = some (.inl (.boolean, 200, .inl pk))) (ham9 : ¬ a = m + 9) (hAa : Γ.2.1 ≤ a)
    (k1 : (inN x nb && inN z np) = false → ∀ h', ax_fr m (m + 1) h h' → ModC h' m a (nI 1) tl at' bg er ea lr cm → Q (.inl (some (.int 0))) h')
    (k2 : (inN x nb && inN z np) = true → inI w 0 9 = false → ∀ h', ax_fr m (m + 1) h h' → ModC h' m a (nI 2) tl at' bg er ea lr cm → Q (.inl (some (.int 0))) h')
    (k0 : ∀ i, i < nb → x = nI i → ∀ j, j < np → z = nI j → inI w 0 9 = true → ∀ r, r = (if 300 ≤ ne then -2 else if pl i = nI j then -5 else obs qu pl nb hw nh (pl i) j (nI 1) 0) → r < 0 → ∀ h', ax_fr m (m + 1) h h' → ModC h' m a (0) tl at' bg er ea lr cm → Q (.inl (some (.int r))) h')
    (k : ∀ i, i < nb → x = nI i → ∀ j, j < np → z = nI j → inI w 0 9 = true → ne < 300 → ¬ pl i = nI j → obs qu pl nb hw nh (pl i) j (nI 1) 0 = 0 → ∀ h' R' pk2, h'.1 = h.1 → (∀ c, ¬ c = m → ¬ c = a → ¬ c = m + 9 → h'.2 c = h.2 c) → ModC h' m a 0 tl at' bg er ea lr cm → h'.2 a = some (.inl (.int, 5061, .inl R')) → h'.2 (m + 9) = some (.inl (.boolean, 200, .inl pk2)) → (∀ bk' pk', (∀ d, d < 200 → pk' d = bI (decide (d = i))) → bokB bk bk' ne pk' → RowR R' np qu ra re le ln nb (putF pl nb pk' (nI j)) (putF tm nb pk' t) (ne + 1) (upd7 rw ne (pl i) (nI j) (nI 1) w t 0 (-1)) bk' nh hw nc cw t y) → Q (.inl (some (.int (nI ne)))) h') : WP Γ MX10_transferBlock (4, 90, 0, 0) 0 [some (.ref m), some (.int x), some (.int z), some (.int w), none, none] [] h Q := by
  have hM0 := hM
  unfold ModC at hM
  have hI0 := hI
  have hr0 := hr
  obtain ⟨⟨s1, s2, s3, s4, s5, s6, s7, s8, tn, s9, s10⟩, IM, IP, IJ, IR, IC⟩ := hI
  obtain ⟨⟨r0, r1, r2, r3, r4, r5, r6⟩, rM, rP, rJ, rH, rC⟩ := hr
  have J0 : ∀ c9, c9 = (inN x nb && inN z np) → WP Γ MX10_transferBlock (4, 90, 0, 0) 22 [some (.ref m), some (.int x), some (.int z), some (.int w), none, none] [.int (bI c9), .ref m] h Q := by
    intro c9 hc9
    refine wp_iconst (n := 23) (v := nI 1) dX10_transferBlock_22 rfl (by decide) ?_
    refine wp_callV2 (n := 26) (rm' := (0, 0, 0, 0)) rfl dX10_transferBlock_23 rfl mlX10_113 (by repeat first | assumption | exact ax_set_self _ _ _ | exact ax_newA_self _ _ _ | refine (ax_set_ne _ _ (by omega)).trans ?_ | refine (ax_newA_ne _ _ _ (by omega)).trans ?_) rfl rfl rfl rfl rfl ?_
    refine s_X10_isThrown hM0 hA (fun h1 f1 m1 => ?_)
    show WP Γ _ _ _ _ _ _ _
    have fa1 := f1
    have hR1 := fa1.get hR (by omega)
    cases c9 with
    | false =>
      have hx1 := hc9.symm
      refine wp_if_ne (t := 44) (n := 29) dX10_transferBlock_26 (by decide) rfl (fun hq => ?_) (fun hq => ?_)
      · refine wp_iconst (n := 45) (v := 0) dX10_transferBlock_44 rfl (by decide) ?_
        exact wp_ireturn dX10_transferBlock_45 rfl rfl (k1 hx1 h1 fa1 m1)
      · exact absurd hq (by decide)
    | true =>
      have hx1 := hc9.symm
      have m1' := m1
      unfold ModC at m1'
      refine wp_if_ne (t := 44) (n := 29) dX10_transferBlock_26 (by decide) rfl (fun hq => ?_) (fun hq => ?_)
      · exact absurd rfl hq
      · skip
        refine wp_aload_n (n := 30) dX10_transferBlock_29 rfl rfl ?_
        refine wp_iload_n (n := 31) dX10_transferBlock_30 rfl rfl ?_
        refine wp_iconst (n := 32) (v := 0) dX10_transferBlock_31 rfl (by decide) ?_
        refine wp_bipush (n := 34) (v := nI 9) dX10_transferBlock_32 rfl (by decide) ?_
        refine wp_callS3 (n := 37) (rm' := (0, 0, 0, 0)) rfl dX10_transferBlock_34 rfl mlX10_54 rfl rfl rfl rfl ?_
        refine s_X10_inJ (p := 0) (q := 9) rfl rfl ?_
        show WP Γ _ _ _ _ _ _ _
        refine wp_iconst (n := 38) (v := nI 2) dX10_transferBlock_37 rfl (by decide) ?_
        refine wp_callV2 (n := 41) (rm' := (0, 0, 0, 0)) rfl dX10_transferBlock_38 rfl mlX10_113 (by repeat first | assumption | exact ax_set_self _ _ _ | exact ax_newA_self _ _ _ | refine (ax_set_ne _ _ (by omega)).trans ?_ | refine (ax_newA_ne _ _ _ (by omega)).trans ?_) rfl rfl rfl rfl rfl ?_
        refine s_X10_isThrown m1 hA (fun hB f2 mB => ?_)
        show WP Γ _ _ _ _ _ _ _
        have fB := fa1.tr (lo := m) (hi := m + 1) f2 (by omega) (by omega)
        have hRB := fB.get hR (by omega)
        cases hx2 : inI w 0 9 with
        | false =>
          rw [hx2] at mB
          refine wp_if_eq (t := 46) (n := 44) dX10_transferBlock_41 (by decide) rfl (fun hq => ?_) (fun hq => ?_)
          · exact absurd hq (by decide)
          · refine wp_iconst (n := 45) (v := 0) dX10_transferBlock_44 rfl (by decide) ?_
            exact wp_ireturn dX10_transferBlock_45 rfl rfl (k2 hx1 hx2 hB fB mB)
        | true =>
          rw [hx2] at mB
          have mB' := mB
          unfold ModC at mB'
          refine wp_if_eq (t := 46) (n := 44) dX10_transferBlock_41 (by decide) rfl (fun hq => ?_) (fun hq => ?_)
          · skip
            have hx1a := (Eq.mp (Bool.and_eq_true _ _) hx1).1
            have hx1b := (Eq.mp (Bool.and_eq_true _ _) hx1).2
            obtain ⟨i, i1, rfl⟩ := inN_get (n := nb) (by omega) (of_decide_eq_true hx1a).1 (of_decide_eq_true hx1a).2
            obtain ⟨j, j1, rfl⟩ := inN_get (n := np) (by omega) (of_decide_eq_true hx1b).1 (of_decide_eq_true hx1b).2
            have g_w := hx2
            obtain ⟨⟨f9, f8, f7⟩, _⟩ := IM i i1
            refine wp_aload_n (n := 47) dX10_transferBlock_46 rfl rfl ?_
            refine wp_getf (n := 50) dX10_transferBlock_47 rfl flX10_9 (by repeat first | assumption | exact ax_set_self _ _ _ | exact ax_newA_self _ _ _ | refine (ax_set_ne _ _ (by omega)).trans ?_ | refine (ax_newA_ne _ _ _ (by omega)).trans ?_) (by rfl) ?_
            refine wp_bipush (n := 52) (v := nI 7) dX10_transferBlock_50 rfl (by decide) ?_
            refine wp_iload_n (n := 53) dX10_transferBlock_52 rfl rfl ?_
            refine wp_iadd (n := 54) dX10_transferBlock_53 rfl ?_
            refine wp_iald (n := 55) (7 + i) dX10_transferBlock_54 rfl (by repeat first | assumption | exact ax_set_self _ _ _ | exact ax_newA_self _ _ _ | refine (ax_set_ne _ _ (by omega)).trans ?_ | refine (ax_newA_ne _ _ _ (by omega)).trans ?_) (by simp only [nI_zero, nI_mul, nI_add]) (by omega) (by omega) ?_
            rw [(rM i i1).1]
            refine wp_istore (n := 57) dX10_transferBlock_55 rfl rfl rfl rfl ?_
            refine wp_aload_n (n := 58) dX10_transferBlock_57 rfl rfl ?_
            refine wp_getf (n := 61) dX10_transferBlock_58 rfl flX10_9 (by repeat first | assumption | exact ax_set_self _ _ _ | exact ax_newA_self _ _ _ | refine (ax_set_ne _ _ (by omega)).trans ?_ | refine (ax_newA_ne _ _ _ (by omega)).trans ?_) (by rfl) ?_
            refine wp_iconst (n := 62) (v := nI 4) dX10_transferBlock_61 rfl (by decide) ?_
            refine wp_iald (n := 63) _ dX10_transferBlock_62 rfl (by repeat first | assumption | exact ax_set_self _ _ _ | exact ax_newA_self _ _ _ | refine (ax_set_ne _ _ (by omega)).trans ?_ | refine (ax_newA_ne _ _ _ (by omega)).trans ?_) rfl (by omega) (by decide) ?_
            rw [r4]
            refine wp_sipush (n := 66) (v := nI 300) dX10_transferBlock_63 rfl (by decide) ?_
            refine wp_icmp_ne (t := 72) (n := 69) dX10_transferBlock_66 (by decide) rfl (fun hc => ?_) (fun hc => ?_)
            · have hne : ne < 300 := by
                by_cases q : ne = 300
                · exact absurd (by rw [q]) hc
                · omega
              have hf : ¬ 300 ≤ ne := by omega
              refine wp_iload (n := 74) dX10_transferBlock_72 rfl rfl ?_
              refine wp_iload_n (n := 75) dX10_transferBlock_74 rfl rfl ?_
              refine wp_icmp_ne (t := 81) (n := 78) dX10_transferBlock_75 (by decide) rfl (fun hq => ?_) (fun hq => ?_)
              · refine wp_aload_n (n := 82) dX10_transferBlock_81 rfl rfl ?_
                refine wp_iload (n := 84) dX10_transferBlock_82 rfl rfl ?_
                refine wp_iload_n (n := 85) dX10_transferBlock_84 rfl rfl ?_
                refine wp_iconst (n := 86) (v := nI 1) dX10_transferBlock_85 rfl (by decide) ?_
                refine wp_callV3 (n := 89) (rm' := (3, 67, 0, 0)) rfl dX10_transferBlock_86 rfl mlX10_98 (by repeat first | assumption | exact ax_set_self _ _ _ | exact ax_newA_self _ _ _ | refine (ax_set_ne _ _ (by omega)).trans ?_ | refine (ax_newA_ne _ _ _ (by omega)).trans ?_) rfl rfl rfl rfl rfl ?_
                refine s_X10_refusal mB hRB hr0 s4 s6 s2 j1 ?_
                show WP Γ _ _ _ _ _ _ _
                refine wp_istore (n := 91) dX10_transferBlock_89 rfl rfl rfl rfl ?_
                refine wp_iload (n := 93) dX10_transferBlock_91 rfl rfl ?_
                refine wp_if_eq (t := 99) (n := 96) dX10_transferBlock_93 (by decide) rfl (fun hs => ?_) (fun hs => ?_)
                · have hPB := fB.get hP (by omega)
                  refine wp_aload_n (n := 100) dX10_transferBlock_99 rfl rfl ?_
                  refine wp_callV0 (n := 103) (rm' := (0, 0, 0, 0)) rfl dX10_transferBlock_100 rfl mlX10_76 (by repeat first | assumption | exact ax_set_self _ _ _ | exact ax_newA_self _ _ _ | refine (ax_set_ne _ _ (by omega)).trans ?_ | refine (ax_newA_ne _ _ _ (by omega)).trans ?_) rfl rfl rfl rfl rfl ?_
                  refine s_X10_picksNone mB hPB hA (fun h3 pk3 f3 hP3 z3 => ?_)
                  show WP Γ _ _ _ _ _ _ _
                  have m3 := mB.fr f3 (by omega)
                  have m3' := m3
                  unfold ModC at m3'
                  have hR3 := f3.get hRB (by omega)
                  refine wp_aload_n (n := 104) dX10_transferBlock_103 rfl rfl ?_
                  refine wp_getf (n := 107) dX10_transferBlock_104 rfl flX10_36 (by repeat first | assumption | exact ax_set_self _ _ _ | exact ax_newA_self _ _ _ | refine (ax_set_ne _ _ (by omega)).trans ?_ | refine (ax_newA_ne _ _ _ (by omega)).trans ?_) (by rfl) ?_
                  refine wp_iload_n (n := 108) dX10_transferBlock_107 rfl rfl ?_
                  refine wp_iconst (n := 109) (v := nI 1) dX10_transferBlock_108 rfl (by decide) ?_
                  refine wp_zast (n := 110) i dX10_transferBlock_109 rfl (by assumption) (by omega) rfl (by omega) (by omega) rfl ?_
                  have f4 := f3.put (a := m + 9) (e := .inl (.boolean, 200, .inl (upd pk3 i (nI 1)))) (by omega)
                  have hP4 : (ax_set h3 (m + 9) (.inl (.boolean, 200, .inl (upd pk3 i (nI 1))))).2 (m + 9) = some (.inl (.boolean, 200, .inl (upd pk3 i (nI 1)))) := ax_set_self _ _ _
                  generalize ax_set h3 (m + 9) (.inl (.boolean, 200, .inl (upd pk3 i (nI 1)))) = h4 at *
                  have m4 := mB.fr f4 (by omega)
                  have m4' := m4
                  unfold ModC at m4'
                  have hR4 := f4.get hRB (by omega)
                  refine wp_aload_n (n := 111) dX10_transferBlock_110 rfl rfl ?_
                  refine wp_iload (n := 113) dX10_transferBlock_111 rfl rfl ?_
                  refine wp_iload_n (n := 114) dX10_transferBlock_113 rfl rfl ?_
                  refine wp_iconst (n := 115) (v := nI 1) dX10_transferBlock_114 rfl (by decide) ?_
                  refine wp_iload_n (n := 116) dX10_transferBlock_115 rfl rfl ?_
                  refine wp_iconst (n := 117) (v := 0) dX10_transferBlock_116 rfl (by decide) ?_
                  refine wp_iconst (n := 118) (v := (-1)) dX10_transferBlock_117 rfl (by decide) ?_
                  refine wp_callV6 (n := 121) (rm' := (1, 28, 0, 0)) rfl dX10_transferBlock_118 rfl mlX10_106 (by repeat first | assumption | exact ax_set_self _ _ _ | exact ax_newA_self _ _ _ | refine (ax_set_ne _ _ (by omega)).trans ?_ | refine (ax_newA_ne _ _ _ (by omega)).trans ?_) rfl rfl rfl rfl rfl ?_
                  refine s_X10_moves m4 hR4 hP4 r4 r2 r0 hAa ham ham9 hne s4 (fun h5 R5 f5 c5 z5 => ?_)
                  show WP Γ _ _ _ _ _ _ _
                  refine wp_ireturn dX10_transferBlock_121 rfl rfl (k i i1 rfl j j1 rfl g_w hne hq hs h5 R5 _ (f5.1.trans (f4.1.trans fB.1)) (fun c c1 c2 c9 => (f5.2 c (by omega)).trans ((f4.2 c (by omega)).trans (fB.2 c (by omega)))) (m4.fr f5 (by omega)) c5 (f5.get hP4 (by omega)) (fun bk' pk' e1 e2 => ?_))
                  refine hr0.book hI0.1 hne z5 e2 (fun d hd => ?_) (fun d hd hp => ?_)
                  · rw [e1 d hd]
                    by_cases q : d = i
                    · rw [show upd pk3 i (nI 1) d = nI 1 from if_pos q, decide_eq_true q]; exact ⟨fun _ => by decide, fun _ => by decide⟩
                    · rw [show upd pk3 i (nI 1) d = pk3 d from if_neg q, z3 d hd, decide_eq_false q]; exact ⟨fun z => absurd rfl z, fun z => absurd rfl z⟩
                  · rw [e1 d hd] at hp
                    have := of_decide_eq_true (bI_ne hp)
                    omega
                · rcases obs_cases qu pl nb hw nh (pl i) j (nI 1) 0 with q | q
                  · refine wp_iload (n := 98) dX10_transferBlock_96 rfl rfl ?_
                    exact wp_ireturn dX10_transferBlock_98 rfl rfl (k0 i i1 rfl j j1 rfl g_w _ (by rw [if_neg hf, if_neg hq]) q.1 hB fB mB)
                  · exact absurd q hs
              · refine wp_bipush (n := 80) (v := (-5)) dX10_transferBlock_78 rfl (by decide) ?_
                exact wp_ireturn dX10_transferBlock_80 rfl rfl (k0 i i1 rfl j j1 rfl g_w (-5) (by rw [if_neg hf, if_pos hq]) (by decide) hB fB mB)
            · have hne : ne = 300 := (nI_eq9 (by omega) (by omega)).mp hc
              refine wp_bipush (n := 71) (v := (-2)) dX10_transferBlock_69 rfl (by decide) ?_
              exact wp_ireturn dX10_transferBlock_71 rfl rfl (k0 i i1 rfl j j1 rfl g_w (-2) (by rw [if_pos (by omega)]) (by decide) hB fB mB)
          · exact absurd rfl hq
  refine wp_aload_n (n := 1) dX10_transferBlock_0 rfl rfl ?_
  refine wp_aload_n (n := 2) dX10_transferBlock_1 rfl rfl ?_
  refine wp_iload_n (n := 3) dX10_transferBlock_2 rfl rfl ?_
  refine wp_callV1 (n := 6) (rm' := (1, 22, 0, 0)) rfl dX10_transferBlock_3 rfl mlX10_121 (by repeat first | assumption | exact ax_set_self _ _ _ | exact ax_newA_self _ _ _ | refine (ax_set_ne _ _ (by omega)).trans ?_ | refine (ax_newA_ne _ _ _ (by omega)).trans ?_) rfl rfl rfl rfl rfl ?_
  refine s_X10_isBlock hM0 hR r0 s4 ?_
  show WP Γ _ _ _ _ _ _ _
  refine wp_if_eq (t := 21) (n := 9) dX10_transferBlock_6 (by decide) rfl (fun hc => ?_) (fun hc => ?_)
  · refine wp_iconst (n := 22) (v := 0) dX10_transferBlock_21 rfl (by decide) ?_
    exact J0 false (by rw [bI_eq hc, Bool.false_and])
  · have hc := bI_ne hc
    refine wp_aload_n (n := 10) dX10_transferBlock_9 rfl rfl ?_
    refine wp_iload_n (n := 11) dX10_transferBlock_10 rfl rfl ?_
    refine wp_callV1 (n := 14) (rm' := (1, 22, 0, 0)) rfl dX10_transferBlock_11 rfl mlX10_109 (by repeat first | assumption | exact ax_set_self _ _ _ | exact ax_newA_self _ _ _ | refine (ax_set_ne _ _ (by omega)).trans ?_ | refine (ax_newA_ne _ _ _ (by omega)).trans ?_) rfl rfl rfl rfl rfl ?_
    refine s_X10_isPool hM0 hR r1 s2 ?_
    show WP Γ _ _ _ _ _ _ _
    refine wp_if_eq (t := 21) (n := 17) dX10_transferBlock_14 (by decide) rfl (fun hq => ?_) (fun hq => ?_)
    · refine wp_iconst (n := 22) (v := 0) dX10_transferBlock_21 rfl (by decide) ?_
      exact J0 false (by rw [bI_eq hq, Bool.and_false])
    · refine wp_iconst (n := 18) (v := nI 1) dX10_transferBlock_17 rfl (by decide) ?_
      refine wp_goto (t := 22) dX10_transferBlock_18 (by decide) ?_
      exact J0 true (by rw [hc, bI_ne hq]; rfl)
end
