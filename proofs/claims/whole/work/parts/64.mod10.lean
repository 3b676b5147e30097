/-! ===== the reference: reverses ===== -/
section
variable {Γ : GE} {h : AH} {Q : PO} {m a np nb ne nh nc y : Nat} {R : FI} {qu ra le ln pl tm rw hw cw pk : FI} {re : Nat → UInt32} {bk : Nat → Int64} {t x z w v th tl at' bg er ea lr cm : Int32}
theorem s_X10_reverses {e j : Nat} (hM : ModC h m a th tl at' bg er ea lr cm) (hR : h.2 a = some (.inl (.int, 5061, .inl R))) (hP : h.2 (m + 9) = some (.inl (.boolean, 200, .inl pk))) (hr : RowR R np qu ra re le ln nb pl tm ne rw bk nh hw nc cw t y) (hI : Inv np qu ra re le ln nb pl tm ne rw bk nh hw nc cw t y) (hA : Γ.2.1 ≤ m) (hAa : Γ.2.1 ≤ a) (ham : ¬ a = m) (ham9 : ¬ a = m + 9) (he : e < ne) (hj0 : rw (e * 7 + 0) = nI j) (hj : j < np)
    (k0 : ∀ r h' pk', RevF qu pl nb ne rw bk nh hw e j r → ax_fr (m + 9) (m + 10) h h' → h'.2 (m + 9) = some (.inl (.boolean, 200, .inl pk')) → Q (.inl (some (.int r))) h')
    (k1 : ∀ h' R' pk', ax_f2 a (m + 9) h h' → h'.2 a = some (.inl (.int, 5061, .inl R')) → h'.2 (m + 9) = some (.inl (.boolean, 200, .inl pk')) → ne < 300 → rw (e * 7 + 5) = 0 → rw (e * 7 + 6) = -1 → inAll pl nb bk e (rw (e * 7 + 1)) → obs qu pl nb hw nh (rw (e * 7 + 1)) j (rw (e * 7 + 2)) 0 = 0 → (∀ K', RevOk np qu ra re le ln nb pl tm ne rw bk nh hw nc cw t y e j K' → RowR R' K'.1.1 K'.1.2.1 K'.1.2.2.1 K'.1.2.2.2.1 K'.1.2.2.2.2.1 K'.1.2.2.2.2.2 K'.2.1.1 K'.2.1.2.1 K'.2.1.2.2 K'.2.2.1.1 K'.2.2.1.2.1 K'.2.2.1.2.2 K'.2.2.2.1.1 K'.2.2.2.1.2 K'.2.2.2.2.1.1 K'.2.2.2.2.1.2 K'.2.2.2.2.2.1 K'.2.2.2.2.2.2) → Q (.inl (some (.int (nI ne)))) h') : WP Γ MX10_reverses (4, 90, 0, 0) 0 [some (.ref m), some (.int (nI e)), none, none, none, none] [] h Q := by
  have hM0 := hM
  unfold ModC at hM
  have hr0 := hr
  have hS := hI.1
  obtain ⟨⟨s1, s2, s3, s4, s5, s6, s7, s8, tn, s9, s10⟩, IM, IP, IJ, IR, IC⟩ := hI
  obtain ⟨⟨r0, r1, r2, r3, r4, r5, r6⟩, rM, rP, rJ, rH, rC⟩ := hr
  have hbn := (IJ.1 e he).2.2.2.2.2
  have rE := (rJ e he).1
  refine wp_aload_n (n := 1) dX10_reverses_0 rfl rfl ?_
  refine wp_getf (n := 4) dX10_reverses_1 rfl flX10_9 (by repeat first | assumption | exact ax_set_self _ _ _ | exact ax_newA_self _ _ _ | refine (ax_set_ne _ _ (by omega)).trans ?_ | refine (ax_newA_ne _ _ _ (by omega)).trans ?_) (by rfl) ?_
  refine wp_iconst (n := 5) (v := nI 4) dX10_reverses_4 rfl (by decide) ?_
  refine wp_iald (n := 6) _ dX10_reverses_5 rfl (by repeat first | assumption | exact ax_set_self _ _ _ | exact ax_newA_self _ _ _ | refine (ax_set_ne _ _ (by omega)).trans ?_ | refine (ax_newA_ne _ _ _ (by omega)).trans ?_) rfl (by omega) (by decide) ?_
  refine wp_sipush (n := 9) (v := nI 300) dX10_reverses_6 rfl (by decide) ?_
  rw [r4]
  refine wp_icmp_ne (t := 15) (n := 12) dX10_reverses_9 (by decide) rfl (fun hc => ?_) (fun hc => ?_)
  · have hne : ne < 300 := by
      by_cases q : ne = 300
      · exact absurd (by rw [q]) hc
      · omega
    have hf : ¬ 300 ≤ ne := by omega
    have F5 : ¬ (rw (e * 7 + 5) = 0 ∧ rw (e * 7 + 6) = -1) → WP Γ MX10_reverses (4, 90, 0, 0) 35 [some (.ref m), some (.int (nI e)), none, none, none, none] [] h Q := by
      intro hno
      refine wp_bipush (n := 37) (v := (-5)) dX10_reverses_35 rfl (by decide) ?_
      exact wp_ireturn dX10_reverses_37 rfl rfl (k0 _ h pk (Or.inr (Or.inl ⟨hf, hno, rfl⟩)) ax_fr.rf hP)
    refine wp_aload_n (n := 16) dX10_reverses_15 rfl rfl ?_
    refine wp_iload_n (n := 17) dX10_reverses_16 rfl rfl ?_
    refine wp_iconst (n := 18) (v := nI 5) dX10_reverses_17 rfl (by decide) ?_
    refine wp_callV2 (n := 21) (rm' := (0, 0, 0, 0)) rfl dX10_reverses_18 rfl mlX10_85 (by repeat first | assumption | exact ax_set_self _ _ _ | exact ax_newA_self _ _ _ | refine (ax_set_ne _ _ (by omega)).trans ?_ | refine (ax_newA_ne _ _ _ (by omega)).trans ?_) rfl rfl rfl rfl rfl ?_
    refine s_X10_entry hM0 hR (by omega) (by omega) ?_
    show WP Γ _ _ _ _ _ _ _
    rw [rE 5 (by omega)]
    refine wp_if_ne (t := 35) (n := 24) dX10_reverses_21 (by decide) rfl (fun hq => ?_) (fun hq => ?_)
    · exact F5 (fun z => hq z.1)
    · refine wp_aload_n (n := 25) dX10_reverses_24 rfl rfl ?_
      refine wp_iload_n (n := 26) dX10_reverses_25 rfl rfl ?_
      refine wp_bipush (n := 28) (v := nI 6) dX10_reverses_26 rfl (by decide) ?_
      refine wp_callV2 (n := 31) (rm' := (0, 0, 0, 0)) rfl dX10_reverses_28 rfl mlX10_85 (by repeat first | assumption | exact ax_set_self _ _ _ | exact ax_newA_self _ _ _ | refine (ax_set_ne _ _ (by omega)).trans ?_ | refine (ax_newA_ne _ _ _ (by omega)).trans ?_) rfl rfl rfl rfl rfl ?_
      refine s_X10_entry hM0 hR (by omega) (by omega) ?_
      show WP Γ _ _ _ _ _ _ _
      refine wp_iconst (n := 32) (v := (-1)) dX10_reverses_31 rfl (by decide) ?_
      rw [rE 6 (by omega)]
      refine wp_icmp_eq (t := 38) (n := 35) dX10_reverses_32 (by decide) rfl (fun hu => ?_) (fun hu => ?_)
      · refine wp_aload_n (n := 39) dX10_reverses_38 rfl rfl ?_
        refine wp_iload_n (n := 40) dX10_reverses_39 rfl rfl ?_
        refine wp_callV1 (n := 43) (rm' := (2, 44, 0, 0)) rfl dX10_reverses_40 rfl mlX10_127 (by repeat first | assumption | exact ax_set_self _ _ _ | exact ax_newA_self _ _ _ | refine (ax_set_ne _ _ (by omega)).trans ?_ | refine (ax_newA_ne _ _ _ (by omega)).trans ?_) rfl rfl rfl rfl rfl ?_
        refine s_X10_picksBack hM0 hR hP hr0 s4 s5 he hA ham9 hbn (fun h1 pk1 v f1 hP1 z1 hv => ?_)
        show WP Γ _ _ _ _ _ _ _
        have m1 := hM0.fr f1 (by omega)
        have m1' := f1.get hM (by omega)
        have hR1 := f1.get hR (by omega)
        refine wp_if_ne (t := 49) (n := 46) dX10_reverses_43 (by decide) rfl (fun hx => ?_) (fun hx => ?_)
        · have hin : inAll pl nb bk e (rw (e * 7 + 1)) := by
            rcases hv with q | q
            · exact q.2
            · exact absurd q.1 hx
          refine wp_aload_n (n := 50) dX10_reverses_49 rfl rfl ?_
          refine wp_iload_n (n := 51) dX10_reverses_50 rfl rfl ?_
          refine wp_iconst (n := 52) (v := nI 1) dX10_reverses_51 rfl (by decide) ?_
          refine wp_callV2 (n := 55) (rm' := (0, 0, 0, 0)) rfl dX10_reverses_52 rfl mlX10_85 (by repeat first | assumption | exact ax_set_self _ _ _ | exact ax_newA_self _ _ _ | refine (ax_set_ne _ _ (by omega)).trans ?_ | refine (ax_newA_ne _ _ _ (by omega)).trans ?_) rfl rfl rfl rfl rfl ?_
          refine s_X10_entry m1 hR1 (by omega) (by omega) ?_
          show WP Γ _ _ _ _ _ _ _
          rw [rE 1 (by omega)]
          refine wp_istore_n (n := 56) dX10_reverses_55 rfl rfl rfl rfl ?_
          refine wp_aload_n (n := 57) dX10_reverses_56 rfl rfl ?_
          refine wp_iload_n (n := 58) dX10_reverses_57 rfl rfl ?_
          refine wp_iconst (n := 59) (v := 0) dX10_reverses_58 rfl (by decide) ?_
          refine wp_callV2 (n := 62) (rm' := (0, 0, 0, 0)) rfl dX10_reverses_59 rfl mlX10_85 (by repeat first | assumption | exact ax_set_self _ _ _ | exact ax_newA_self _ _ _ | refine (ax_set_ne _ _ (by omega)).trans ?_ | refine (ax_newA_ne _ _ _ (by omega)).trans ?_) rfl rfl rfl rfl rfl ?_
          refine s_X10_entry (q := 0) m1 hR1 (by omega) (by omega) ?_
          show WP Γ _ _ _ _ _ _ _
          rw [rE 0 (by omega), hj0]
          refine wp_istore_n (n := 63) dX10_reverses_62 rfl rfl rfl rfl ?_
          refine wp_aload_n (n := 64) dX10_reverses_63 rfl rfl ?_
          refine wp_iload_n (n := 65) dX10_reverses_64 rfl rfl ?_
          refine wp_iload_n (n := 66) dX10_reverses_65 rfl rfl ?_
          refine wp_aload_n (n := 67) dX10_reverses_66 rfl rfl ?_
          refine wp_iload_n (n := 68) dX10_reverses_67 rfl rfl ?_
          refine wp_iconst (n := 69) (v := nI 2) dX10_reverses_68 rfl (by decide) ?_
          refine wp_callV2 (n := 72) (rm' := (0, 0, 0, 0)) rfl dX10_reverses_69 rfl mlX10_85 (by repeat first | assumption | exact ax_set_self _ _ _ | exact ax_newA_self _ _ _ | refine (ax_set_ne _ _ (by omega)).trans ?_ | refine (ax_newA_ne _ _ _ (by omega)).trans ?_) rfl rfl rfl rfl rfl ?_
          refine s_X10_entry m1 hR1 (by omega) (by omega) ?_
          show WP Γ _ _ _ _ _ _ _
          rw [rE 2 (by omega)]
          refine wp_callV3 (n := 75) (rm' := (3, 67, 0, 0)) rfl dX10_reverses_72 rfl mlX10_98 (by repeat first | assumption | exact ax_set_self _ _ _ | exact ax_newA_self _ _ _ | refine (ax_set_ne _ _ (by omega)).trans ?_ | refine (ax_newA_ne _ _ _ (by omega)).trans ?_) rfl rfl rfl rfl rfl ?_
          refine s_X10_refusal m1 hR1 hr0 s4 s6 s2 hj ?_
          show WP Γ _ _ _ _ _ _ _
          refine wp_istore (n := 77) dX10_reverses_75 rfl rfl rfl rfl ?_
          refine wp_iload (n := 79) dX10_reverses_77 rfl rfl ?_
          refine wp_if_eq (t := 85) (n := 82) dX10_reverses_79 (by decide) rfl (fun hy => ?_) (fun hy => ?_)
          · refine wp_aload_n (n := 86) dX10_reverses_85 rfl rfl ?_
            refine wp_iload_n (n := 87) dX10_reverses_86 rfl rfl ?_
            refine wp_iload_n (n := 88) dX10_reverses_87 rfl rfl ?_
            refine wp_aload_n (n := 89) dX10_reverses_88 rfl rfl ?_
            refine wp_iload_n (n := 90) dX10_reverses_89 rfl rfl ?_
            refine wp_iconst (n := 91) (v := nI 2) dX10_reverses_90 rfl (by decide) ?_
            refine wp_callV2 (n := 94) (rm' := (0, 0, 0, 0)) rfl dX10_reverses_91 rfl mlX10_85 (by repeat first | assumption | exact ax_set_self _ _ _ | exact ax_newA_self _ _ _ | refine (ax_set_ne _ _ (by omega)).trans ?_ | refine (ax_newA_ne _ _ _ (by omega)).trans ?_) rfl rfl rfl rfl rfl ?_
            refine s_X10_entry m1 hR1 (by omega) (by omega) ?_
            show WP Γ _ _ _ _ _ _ _
            rw [rE 2 (by omega)]
            refine wp_aload_n (n := 95) dX10_reverses_94 rfl rfl ?_
            refine wp_iload_n (n := 96) dX10_reverses_95 rfl rfl ?_
            refine wp_iconst (n := 97) (v := nI 3) dX10_reverses_96 rfl (by decide) ?_
            refine wp_callV2 (n := 100) (rm' := (0, 0, 0, 0)) rfl dX10_reverses_97 rfl mlX10_85 (by repeat first | assumption | exact ax_set_self _ _ _ | exact ax_newA_self _ _ _ | refine (ax_set_ne _ _ (by omega)).trans ?_ | refine (ax_newA_ne _ _ _ (by omega)).trans ?_) rfl rfl rfl rfl rfl ?_
            refine s_X10_entry m1 hR1 (by omega) (by omega) ?_
            show WP Γ _ _ _ _ _ _ _
            rw [rE 3 (by omega)]
            refine wp_iconst (n := 101) (v := nI 1) dX10_reverses_100 rfl (by decide) ?_
            refine wp_iload_n (n := 102) dX10_reverses_101 rfl rfl ?_
            refine wp_callV6 (n := 105) (rm' := (1, 28, 0, 0)) rfl dX10_reverses_102 rfl mlX10_106 (by repeat first | assumption | exact ax_set_self _ _ _ | exact ax_newA_self _ _ _ | refine (ax_set_ne _ _ (by omega)).trans ?_ | refine (ax_newA_ne _ _ _ (by omega)).trans ?_) rfl rfl rfl rfl rfl ?_
            refine s_X10_moves m1 hR1 hP1 r4 r2 r0 hAa ham ham9 hne s4 (fun h2 R2 f2 hR2 z2 => ?_)
            show WP Γ _ _ _ _ _ _ _
            have m2' := f2.get m1' (by omega)
            refine wp_istore (n := 107) dX10_reverses_105 rfl rfl rfl rfl ?_
            refine wp_aload_n (n := 108) dX10_reverses_107 rfl rfl ?_
            refine wp_getf (n := 111) dX10_reverses_108 rfl flX10_9 (by repeat first | assumption | exact ax_set_self _ _ _ | exact ax_newA_self _ _ _ | refine (ax_set_ne _ _ (by omega)).trans ?_ | refine (ax_newA_ne _ _ _ (by omega)).trans ?_) (by rfl) ?_
            refine wp_sipush (n := 114) (v := nI 471) dX10_reverses_111 rfl (by decide) ?_
            refine wp_bipush (n := 116) (v := nI 14) dX10_reverses_114 rfl (by decide) ?_
            refine wp_iload_n (n := 117) dX10_reverses_116 rfl rfl ?_
            refine wp_imul (n := 118) dX10_reverses_117 rfl ?_
            refine wp_iadd (n := 119) dX10_reverses_118 rfl ?_
            refine wp_bipush (n := 121) (v := nI 6) dX10_reverses_119 rfl (by decide) ?_
            refine wp_iadd (n := 122) dX10_reverses_121 rfl ?_
            refine wp_iload (n := 124) dX10_reverses_122 rfl rfl ?_
            refine wp_iast (n := 125) (471 + 14 * e + 6) dX10_reverses_124 rfl (by repeat first | assumption | exact ax_set_self _ _ _ | exact ax_newA_self _ _ _ | refine (ax_set_ne _ _ (by omega)).trans ?_ | refine (ax_newA_ne _ _ _ (by omega)).trans ?_) (by omega) (by simp only [nI_zero, nI_mul, nI_add]) (by omega) (by omega) ?_
            refine wp_iload (n := 127) dX10_reverses_125 rfl rfl ?_
            refine wp_ireturn dX10_reverses_127 rfl rfl (k1 _ _ pk1 ⟨f2.1.trans f1.1, fun c h1 h2 => (ax_set_ne _ _ h1).trans ((f2.2 c (by omega)).trans (f1.2 c (by omega)))⟩ (ax_set_self _ _ _) ((ax_set_ne _ _ (by omega)).trans (f2.get hP1 (by omega))) hne hq hu hin hy (fun K' hK => ?_))
            obtain ⟨_, _, _, _, _, bk', pk', e1, e2, rfl⟩ := hK
            have hb := hr0.book hS hne z2 e2 (fun d hd => by rw [z1 d hd, e1 d hd]) (fun d hd hp => hbn d hd (bI_ne (fun q => hp ((e1 d hd).trans q))))
            have hb2 := hb.link (e := e) (p := nI ne) (by omega) ⟨s1, s2, s3, s4, by omega, s6, s7, s8, tn, s9, s10⟩
            rw [← upd7_link rw he] at hb2
            exact hb2
          · rcases obs_cases qu pl nb hw nh (rw (e * 7 + 1)) j (rw (e * 7 + 2)) 0 with q | q
            · refine wp_iload (n := 84) dX10_reverses_82 rfl rfl ?_
              exact wp_ireturn dX10_reverses_84 rfl rfl (k0 _ h1 pk1 (Or.inr (Or.inr (Or.inr ⟨hf, hq, hu, hin, rfl, hy, q.1⟩))) f1 hP1)
            · exact absurd q hy
        · have hin : ¬ inAll pl nb bk e (rw (e * 7 + 1)) := by
            rcases hv with q | q
            · rw [q.1] at hx; exact absurd hx (by decide)
            · exact q.2
          refine wp_bipush (n := 48) (v := (-6)) dX10_reverses_46 rfl (by decide) ?_
          exact wp_ireturn dX10_reverses_48 rfl rfl (k0 _ h1 pk1 (Or.inr (Or.inr (Or.inl ⟨hf, hq, hu, hin, rfl⟩))) f1 hP1)
      · exact F5 (fun z => hu z.2)
  · have hne : ne = 300 := (nI_eq9 (by omega) (by omega)).mp hc
    refine wp_bipush (n := 14) (v := (-2)) dX10_reverses_12 rfl (by decide) ?_
    exact wp_ireturn dX10_reverses_14 rfl rfl (k0 _ h pk (Or.inl ⟨by omega, rfl⟩) ax_fr.rf hP)
end
