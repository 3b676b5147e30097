/-! ===== DescriptionReader: pools and grants ===== -/
section
variable {Γ : GE} {h : AH} {Q : PO} {r p len st bh b np nb ne nh nc y : Nat} {bs : FI} {kd : Int32} {qu ra le ln pl tm rw hw cw pk : FI} {re : Nat → UInt32} {bk : Nat → Int64} {t x : Int32}
theorem LedP.led (hL : LedP h b np qu ra re le ln nb pl tm ne rw bk nh hw nc cw t y pk) : LedX h b := ⟨_, _, _, _, _, _, _, _, _, _, _, _, _, _, _, _, _, _, _, hL⟩
theorem s_X3_readPool (hr : h.2 r = some (.inr (3, [.ref p]))) (hT : TextAt h p bs len kd st bh 0 0) (hL : LedP h b np qu ra re le ln nb pl tm ne rw bk nh hw nc cw t y pk) (hA : Γ.2.1 ≤ p) (hAb : Γ.2.1 ≤ b) (hpr : p + 2 ≤ r) (hrb : r + 1 ≤ b) (hl : len ≤ 500) (hb : bh ≤ len) (hn : np ≤ 8) (hln : ∀ j, j < np → ∃ m, ln j = nI m ∧ m ≤ 6)
    (kF : ∀ e pos h', polR np le ln bs len st bh = .inl (e, pos) → ax_fr p (b + 19) h h' → (∀ a, p + 2 ≤ a → a < b → h'.2 a = h.2 a) → TxF h' p bs len e pos → LedX h' b → Q (.inl (some (.int 0))) h')
    (kO : ∀ s l m1 m2 w h', polR np le ln bs len st bh = .inr (s, l, nI m1, nI m2, w) → np < 8 → bh ≤ s → 1 ≤ l → l ≤ 6 → s + l ≤ len → m1 ≤ 200 → m2 ≤ 9999 → (∀ i, s ≤ i → i < s + l → isAl (bs i) = true) → bh < w → w ≤ len → ax_fr p (b + 19) h h' → (∀ a, p + 2 ≤ a → a < b → h'.2 a = h.2 a) → TxG h' p bs len w → LedP h' b (np + 1) (upd qu np (nI m1)) (upd ra np (nI m2)) (vf_upd re np FP.fconst0) (opnL le bs np s l) (upd ln np (nI l)) nb pl tm ne rw bk nh hw nc cw t y pk → Q (.inl (some (.int (nI 1)))) h') : WP Γ MX3_readPool (5, 107, 0, 0) 0 [some (.ref r), some (.ref (b + 1)), none, none, none] [] h Q := by
  have hT0 := hT
  have hO := hT.1
  have hPP := hL.2.1
  have hP1 := hPP.1
  refine wp_aload_n (n := 1) dX3_readPool_0 rfl rfl ?_
  refine wp_getf (n := 4) dX3_readPool_1 rfl flX3_77 (by repeat first | assumption | exact ax_set_self _ _ _ | exact ax_newA_self _ _ _ | refine (ax_set_ne _ _ (by omega)).trans ?_ | refine (ax_newA_ne _ _ _ (by omega)).trans ?_) (by rfl) ?_
  refine wp_bipush (n := 6) (v := nI 8) dX3_readPool_4 rfl (by decide) ?_
  refine wp_icmp_lt (t := 18) (n := 9) dX3_readPool_6 (by decide) rfl (fun hc => ?_) (fun hc => ?_)
  · rw [nI_lt9 (by omega) (by omega)] at hc
    have e0 : polR np le ln bs len st bh = _ := if_neg (show ¬ 8 ≤ np by omega)
    refine wp_aload_n (n := 19) dX3_readPool_18 rfl rfl ?_
    refine wp_getf (n := 22) dX3_readPool_19 rfl flX3_9 (by repeat first | assumption | exact ax_set_self _ _ _ | exact ax_newA_self _ _ _ | refine (ax_set_ne _ _ (by omega)).trans ?_ | refine (ax_newA_ne _ _ _ (by omega)).trans ?_) (by rfl) ?_
    refine wp_callV0 (n := 25) (rm' := (1, 21, 0, 0)) rfl dX3_readPool_22 rfl mlX3_34 (by repeat first | assumption | exact ax_set_self _ _ _ | exact ax_newA_self _ _ _ | refine (ax_set_ne _ _ (by omega)).trans ?_ | refine (ax_newA_ne _ _ _ (by omega)).trans ?_) rfl rfl rfl rfl rfl ?_
    refine s_rdW hT0 hA hl hb (fun e pos h1 q1 f1 t1 => ?_) (fun s w h1 q1 l1 l2 l3 l4 f1 t1 => ?_)
    · show WP Γ _ _ _ _ _ _ _
      refine wp_if_ne (t := 30) (n := 28) dX3_readPool_25 (by decide) rfl (fun hq => ?_) (fun hq => ?_)
      · exact absurd rfl hq
      · refine wp_iconst (n := 29) (v := 0) dX3_readPool_28 rfl (by decide) ?_
        exact wp_ireturn dX3_readPool_29 rfl rfl (kF e pos h1 (e0.trans (mrR_l q1)) (f1.to (by omega)) (fun a h1 h2 => f1.2 a (by omega)) t1 (hL.fr f1 (by omega)).led)
    · show WP Γ _ _ _ _ _ _ _
      have hr1 := f1.get hr (by omega)
      have hO := t1.1
      have hB1 := t1.2
      have hL1 := hL.fr f1 (by omega)
      have hPP := hL1.2.1
      have hP1 := hPP.1
      have eR : polR np le ln bs len st bh = _ := e0.trans (mrR_r q1)
      have F1 : (6 < w - s ∨ wrdB bs s (w - s) w_free = true) → WP Γ MX3_readPool (5, 107, 0, 0) 54 [some (.ref r), some (.ref (b + 1)), none, none, none] [] h1 Q := by
        intro hf
        rw [if_pos hf] at eR
        refine wp_aload_n (n := 55) dX3_readPool_54 rfl rfl ?_
        refine wp_getf (n := 58) dX3_readPool_55 rfl flX3_9 (by repeat first | assumption | exact ax_set_self _ _ _ | exact ax_newA_self _ _ _ | refine (ax_set_ne _ _ (by omega)).trans ?_ | refine (ax_newA_ne _ _ _ (by omega)).trans ?_) (by rfl) ?_
        refine wp_iconst (n := 59) (v := nI 1) dX3_readPool_58 rfl (by decide) ?_
        refine wp_callV1 (n := 62) (rm' := (0, 0, 0, 0)) rfl dX3_readPool_59 rfl mlX3_43 (by repeat first | assumption | exact ax_set_self _ _ _ | exact ax_newA_self _ _ _ | refine (ax_set_ne _ _ (by omega)).trans ?_ | refine (ax_newA_ne _ _ _ (by omega)).trans ?_) rfl rfl rfl rfl rfl ?_
        refine s_X8_fail t1 hA (fun h2 f2 t2 => ?_)
        show WP Γ _ _ _ _ _ _ _
        exact wp_ireturn dX3_readPool_62 rfl rfl (kF _ _ h2 eR ((f1.to (lo := p) (hi := b + 19) (by omega)).tr (lo := p) (hi := b + 19) f2 (by omega) (by omega)) (fun a h1 h2 => (f2.2 a (by omega)).trans (f1.2 a (by omega))) ⟨_, _, _, t2⟩ (hL1.fr f2 (by omega)).led)
      refine wp_if_ne (t := 30) (n := 28) dX3_readPool_25 (by decide) rfl (fun hq => ?_) (fun hq => ?_)
      · refine wp_aload_n (n := 31) dX3_readPool_30 rfl rfl ?_
        refine wp_getf (n := 34) dX3_readPool_31 rfl flX3_9 (by repeat first | assumption | exact ax_set_self _ _ _ | exact ax_newA_self _ _ _ | refine (ax_set_ne _ _ (by omega)).trans ?_ | refine (ax_newA_ne _ _ _ (by omega)).trans ?_) (by rfl) ?_
        refine wp_callV0 (n := 37) (rm' := (0, 0, 0, 0)) rfl dX3_readPool_34 rfl mlX3_83 (by repeat first | assumption | exact ax_set_self _ _ _ | exact ax_newA_self _ _ _ | refine (ax_set_ne _ _ (by omega)).trans ?_ | refine (ax_newA_ne _ _ _ (by omega)).trans ?_) rfl rfl rfl rfl rfl ?_
        refine s_X8_wordLength t1 (by omega) ?_
        show WP Γ _ _ _ _ _ _ _
        refine wp_bipush (n := 39) (v := nI 6) dX3_readPool_37 rfl (by decide) ?_
        refine wp_icmp_gt (t := 54) (n := 42) dX3_readPool_39 (by decide) rfl (fun hg => ?_) (fun hg => ?_)
        · exact F1 (Or.inl ((nI_lt9 (by omega) (by omega)).mp hg))
        · rw [nI_lt9 (by omega) (by omega)] at hg
          refine wp_aload_n (n := 43) dX3_readPool_42 rfl rfl ?_
          refine wp_getf (n := 46) dX3_readPool_43 rfl flX3_9 (by repeat first | assumption | exact ax_set_self _ _ _ | exact ax_newA_self _ _ _ | refine (ax_set_ne _ _ (by omega)).trans ?_ | refine (ax_newA_ne _ _ _ (by omega)).trans ?_) (by rfl) ?_
          refine wp_ldcS (n := 48) 2 dX3_readPool_46 rfl rfl ?_
          refine wp_callV1 (n := 51) (rm' := (4, 85, 0, 0)) rfl dX3_readPool_48 rfl mlX3_39 (by repeat first | assumption | exact ax_set_self _ _ _ | exact ax_newA_self _ _ _ | refine (ax_set_ne _ _ (by omega)).trans ?_ | refine (ax_newA_ne _ _ _ (by omega)).trans ?_) rfl rfl rfl rfl rfl ?_
          refine s_isW 2 w_free rfl rfl rfl (by decide) t1 (by omega) hl l3 ?_
          show WP Γ _ _ _ _ _ _ _
          refine wp_if_eq (t := 63) (n := 54) dX3_readPool_51 (by decide) rfl (fun hw9 => ?_) (fun hw9 => ?_)
          · have hw9 := bI_eq hw9
            rw [if_neg (fun z => z.elim hg (fun z => by rw [hw9] at z; cases z))] at eR
            refine wp_aload_n (n := 64) dX3_readPool_63 rfl rfl ?_
            refine wp_aload_n (n := 65) dX3_readPool_64 rfl rfl ?_
            refine wp_getf (n := 68) dX3_readPool_65 rfl flX3_9 (by repeat first | assumption | exact ax_set_self _ _ _ | exact ax_newA_self _ _ _ | refine (ax_set_ne _ _ (by omega)).trans ?_ | refine (ax_newA_ne _ _ _ (by omega)).trans ?_) (by rfl) ?_
            refine wp_getf (n := 71) dX3_readPool_68 rfl flX3_89 (by repeat first | assumption | exact ax_set_self _ _ _ | exact ax_newA_self _ _ _ | refine (ax_set_ne _ _ (by omega)).trans ?_ | refine (ax_newA_ne _ _ _ (by omega)).trans ?_) (by rfl) ?_
            refine wp_aload_n (n := 72) dX3_readPool_71 rfl rfl ?_
            refine wp_getf (n := 75) dX3_readPool_72 rfl flX3_9 (by repeat first | assumption | exact ax_set_self _ _ _ | exact ax_newA_self _ _ _ | refine (ax_set_ne _ _ (by omega)).trans ?_ | refine (ax_newA_ne _ _ _ (by omega)).trans ?_) (by rfl) ?_
            refine wp_getf (n := 78) dX3_readPool_75 rfl flX3_93 (by repeat first | assumption | exact ax_set_self _ _ _ | exact ax_newA_self _ _ _ | refine (ax_set_ne _ _ (by omega)).trans ?_ | refine (ax_newA_ne _ _ _ (by omega)).trans ?_) (by rfl) ?_
            refine wp_aload_n (n := 79) dX3_readPool_78 rfl rfl ?_
            refine wp_getf (n := 82) dX3_readPool_79 rfl flX3_9 (by repeat first | assumption | exact ax_set_self _ _ _ | exact ax_newA_self _ _ _ | refine (ax_set_ne _ _ (by omega)).trans ?_ | refine (ax_newA_ne _ _ _ (by omega)).trans ?_) (by rfl) ?_
            refine wp_callV0 (n := 85) (rm' := (0, 0, 0, 0)) rfl dX3_readPool_82 rfl mlX3_83 (by repeat first | assumption | exact ax_set_self _ _ _ | exact ax_newA_self _ _ _ | refine (ax_set_ne _ _ (by omega)).trans ?_ | refine (ax_newA_ne _ _ _ (by omega)).trans ?_) rfl rfl rfl rfl rfl ?_
            refine s_X8_wordLength t1 (by omega) ?_
            show WP Γ _ _ _ _ _ _ _
            refine wp_callV3 (n := 88) (rm' := (1, 24, 0, 0)) rfl dX3_readPool_85 rfl mlX3_96 (by repeat first | assumption | exact ax_set_self _ _ _ | exact ax_newA_self _ _ _ | refine (ax_set_ne _ _ (by omega)).trans ?_ | refine (ax_newA_ne _ _ _ (by omega)).trans ?_) rfl rfl rfl rfl rfl ?_
            refine s_X6_find (N := 500) hPP hn hln hB1 (by omega) (by omega) ?_
            show WP Γ _ _ _ _ _ _ _
            refine wp_iconst (n := 89) (v := (-1)) dX3_readPool_88 rfl (by decide) ?_
            cases hf : fstG (nameB le ln bs s (w - s)) np 0 with
            | some i0 =>
              obtain ⟨_, hi2, _⟩ := fstG_some hf
              rw [hf, if_neg (by simp)] at eR
              refine wp_icmp_eq (t := 101) (n := 92) dX3_readPool_89 (by decide) rfl (fun hz => ?_) (fun hz => ?_)
              · exact absurd hz (nI_ne_neg (by omega))
              · refine wp_aload_n (n := 93) dX3_readPool_92 rfl rfl ?_
                refine wp_getf (n := 96) dX3_readPool_93 rfl flX3_9 (by repeat first | assumption | exact ax_set_self _ _ _ | exact ax_newA_self _ _ _ | refine (ax_set_ne _ _ (by omega)).trans ?_ | refine (ax_newA_ne _ _ _ (by omega)).trans ?_) (by rfl) ?_
                refine wp_iconst (n := 97) (v := nI 3) dX3_readPool_96 rfl (by decide) ?_
                refine wp_callV1 (n := 100) (rm' := (0, 0, 0, 0)) rfl dX3_readPool_97 rfl mlX3_43 (by repeat first | assumption | exact ax_set_self _ _ _ | exact ax_newA_self _ _ _ | refine (ax_set_ne _ _ (by omega)).trans ?_ | refine (ax_newA_ne _ _ _ (by omega)).trans ?_) rfl rfl rfl rfl rfl ?_
                refine s_X8_fail t1 hA (fun h2 f2 t2 => ?_)
                show WP Γ _ _ _ _ _ _ _
                exact wp_ireturn dX3_readPool_100 rfl rfl (kF _ _ h2 eR ((f1.to (lo := p) (hi := b + 19) (by omega)).tr (lo := p) (hi := b + 19) f2 (by omega) (by omega)) (fun a h1 h2 => (f2.2 a (by omega)).trans (f1.2 a (by omega))) ⟨_, _, _, t2⟩ (hL1.fr f2 (by omega)).led)
            | none =>
              rw [hf, if_pos rfl] at eR
              refine wp_icmp_eq (t := 101) (n := 92) dX3_readPool_89 (by decide) rfl (fun hz => ?_) (fun hz => ?_)
              · refine wp_aload_n (n := 102) dX3_readPool_101 rfl rfl ?_
                refine wp_aload_n (n := 103) dX3_readPool_102 rfl rfl ?_
                refine wp_getf (n := 106) dX3_readPool_103 rfl flX3_9 (by repeat first | assumption | exact ax_set_self _ _ _ | exact ax_newA_self _ _ _ | refine (ax_set_ne _ _ (by omega)).trans ?_ | refine (ax_newA_ne _ _ _ (by omega)).trans ?_) (by rfl) ?_
                refine wp_getf (n := 109) dX3_readPool_106 rfl flX3_89 (by repeat first | assumption | exact ax_set_self _ _ _ | exact ax_newA_self _ _ _ | refine (ax_set_ne _ _ (by omega)).trans ?_ | refine (ax_newA_ne _ _ _ (by omega)).trans ?_) (by rfl) ?_
                refine wp_aload_n (n := 110) dX3_readPool_109 rfl rfl ?_
                refine wp_getf (n := 113) dX3_readPool_110 rfl flX3_9 (by repeat first | assumption | exact ax_set_self _ _ _ | exact ax_newA_self _ _ _ | refine (ax_set_ne _ _ (by omega)).trans ?_ | refine (ax_newA_ne _ _ _ (by omega)).trans ?_) (by rfl) ?_
                refine wp_getf (n := 116) dX3_readPool_113 rfl flX3_93 (by repeat first | assumption | exact ax_set_self _ _ _ | exact ax_newA_self _ _ _ | refine (ax_set_ne _ _ (by omega)).trans ?_ | refine (ax_newA_ne _ _ _ (by omega)).trans ?_) (by rfl) ?_
                refine wp_aload_n (n := 117) dX3_readPool_116 rfl rfl ?_
                refine wp_getf (n := 120) dX3_readPool_117 rfl flX3_9 (by repeat first | assumption | exact ax_set_self _ _ _ | exact ax_newA_self _ _ _ | refine (ax_set_ne _ _ (by omega)).trans ?_ | refine (ax_newA_ne _ _ _ (by omega)).trans ?_) (by rfl) ?_
                refine wp_callV0 (n := 123) (rm' := (0, 0, 0, 0)) rfl dX3_readPool_120 rfl mlX3_83 (by repeat first | assumption | exact ax_set_self _ _ _ | exact ax_newA_self _ _ _ | refine (ax_set_ne _ _ (by omega)).trans ?_ | refine (ax_newA_ne _ _ _ (by omega)).trans ?_) rfl rfl rfl rfl rfl ?_
                refine s_X8_wordLength t1 (by omega) ?_
                show WP Γ _ _ _ _ _ _ _
                refine wp_callV3 (n := 126) (rm' := (0, 0, 0, 0)) rfl dX3_readPool_123 rfl mlX3_100 (by repeat first | assumption | exact ax_set_self _ _ _ | exact ax_newA_self _ _ _ | refine (ax_set_ne _ _ (by omega)).trans ?_ | refine (ax_newA_ne _ _ _ (by omega)).trans ?_) rfl rfl rfl rfl rfl ?_
                refine s_X6_open (N := 500) hPP (by omega) hc hB1 (by omega) (by omega) (by omega) (fun h2 f2 hP2 => ?_)
                show WP Γ _ _ _ _ _ _ _
                have hL2 := hL1.poo f2 hP2
                have t2 := t1.fr f2 (by omega)
                have hr2 := f2.get hr1 (by omega)
                have hO := t2.1
                refine wp_istore_n (n := 127) dX3_readPool_126 rfl rfl rfl rfl ?_
                refine wp_aload_n (n := 128) dX3_readPool_127 rfl rfl ?_
                refine wp_getf (n := 131) dX3_readPool_128 rfl flX3_9 (by repeat first | assumption | exact ax_set_self _ _ _ | exact ax_newA_self _ _ _ | refine (ax_set_ne _ _ (by omega)).trans ?_ | refine (ax_newA_ne _ _ _ (by omega)).trans ?_) (by rfl) ?_
                refine wp_iconst (n := 132) (v := 0) dX3_readPool_131 rfl (by decide) ?_
                refine wp_sipush (n := 135) (v := nI 200) dX3_readPool_132 rfl (by decide) ?_
                refine wp_callV2 (n := 138) (rm' := (1, 60, 0, 0)) rfl dX3_readPool_135 rfl mlX3_47 (by repeat first | assumption | exact ax_set_self _ _ _ | exact ax_newA_self _ _ _ | refine (ax_set_ne _ _ (by omega)).trans ?_ | refine (ax_newA_ne _ _ _ (by omega)).trans ?_) rfl rfl rfl rfl rfl ?_
                refine s_rdN t2 hA hl l3 (fun e pos h3 q3 f3 t3 => ?_) (fun m1 w3 h3 q3 a1 a2 a3 a4 a5 f3 t3 => ?_)
                · show WP Γ _ _ _ _ _ _ _
                  refine wp_istore_n (n := 139) dX3_readPool_138 rfl rfl rfl rfl ?_
                  refine wp_iload_n (n := 140) dX3_readPool_139 rfl rfl ?_
                  refine wp_iconst (n := 141) (v := (-1)) dX3_readPool_140 rfl (by decide) ?_
                  refine wp_icmp_ne (t := 146) (n := 144) dX3_readPool_141 (by decide) rfl (fun hy => ?_) (fun hy => ?_)
                  · exact absurd rfl hy
                  · refine wp_iconst (n := 145) (v := 0) dX3_readPool_144 rfl (by decide) ?_
                    exact wp_ireturn dX3_readPool_145 rfl rfl (kF e pos h3 (eR.trans (mrR_l q3)) (((f1.to (lo := p) (hi := b + 19) (by omega)).tr (lo := p) (hi := b + 19) f2 (by omega) (by omega)).tr (lo := p) (hi := b + 19) f3 (by omega) (by omega)) (fun a h1 h2 => (f3.2 a (by omega)).trans ((f2.2 a (by omega)).trans (f1.2 a (by omega)))) t3 (hL2.fr f3 (by omega)).led)
                · show WP Γ _ _ _ _ _ _ _
                  obtain ⟨kd3, st3, t3⟩ := t3
                  have hr3 := f3.get hr2 (by omega)
                  have hO := t3.1
                  have hL3 := hL2.fr f3 (by omega)
                  refine wp_istore_n (n := 139) dX3_readPool_138 rfl rfl rfl rfl ?_
                  refine wp_iload_n (n := 140) dX3_readPool_139 rfl rfl ?_
                  refine wp_iconst (n := 141) (v := (-1)) dX3_readPool_140 rfl (by decide) ?_
                  refine wp_icmp_ne (t := 146) (n := 144) dX3_readPool_141 (by decide) rfl (fun hy => ?_) (fun hy => ?_)
                  · refine wp_aload_n (n := 147) dX3_readPool_146 rfl rfl ?_
                    refine wp_getf (n := 150) dX3_readPool_147 rfl flX3_9 (by repeat first | assumption | exact ax_set_self _ _ _ | exact ax_newA_self _ _ _ | refine (ax_set_ne _ _ (by omega)).trans ?_ | refine (ax_newA_ne _ _ _ (by omega)).trans ?_) (by rfl) ?_
                    refine wp_iconst (n := 151) (v := 0) dX3_readPool_150 rfl (by decide) ?_
                    refine wp_sipush (n := 154) (v := nI 9999) dX3_readPool_151 rfl (by decide) ?_
                    refine wp_callV2 (n := 157) (rm' := (1, 60, 0, 0)) rfl dX3_readPool_154 rfl mlX3_47 (by repeat first | assumption | exact ax_set_self _ _ _ | exact ax_newA_self _ _ _ | refine (ax_set_ne _ _ (by omega)).trans ?_ | refine (ax_newA_ne _ _ _ (by omega)).trans ?_) rfl rfl rfl rfl rfl ?_
                    refine s_rdN t3 hA hl a3 (fun e pos h4 q4 f4 t4 => ?_) (fun m2 w4 h4 q4 b1 b2 b3 b4 b5 f4 t4 => ?_)
                    · show WP Γ _ _ _ _ _ _ _
                      refine wp_istore (n := 159) dX3_readPool_157 rfl rfl rfl rfl ?_
                      refine wp_iload (n := 161) dX3_readPool_159 rfl rfl ?_
                      refine wp_iconst (n := 162) (v := (-1)) dX3_readPool_161 rfl (by decide) ?_
                      refine wp_icmp_ne (t := 167) (n := 165) dX3_readPool_162 (by decide) rfl (fun hy2 => ?_) (fun hy2 => ?_)
                      · exact absurd rfl hy2
                      · refine wp_iconst (n := 166) (v := 0) dX3_readPool_165 rfl (by decide) ?_
                        exact wp_ireturn dX3_readPool_166 rfl rfl (kF e pos h4 (eR.trans ((mrR_r q3).trans (mrR_l q4))) ((((f1.to (lo := p) (hi := b + 19) (by omega)).tr (lo := p) (hi := b + 19) f2 (by omega) (by omega)).tr (lo := p) (hi := b + 19) f3 (by omega) (by omega)).tr (lo := p) (hi := b + 19) f4 (by omega) (by omega)) (fun a h1 h2 => (f4.2 a (by omega)).trans ((f3.2 a (by omega)).trans ((f2.2 a (by omega)).trans (f1.2 a (by omega))))) t4 (hL3.fr f4 (by omega)).led)
                    · show WP Γ _ _ _ _ _ _ _
                      have hL4 := hL3.fr f4 (by omega)
                      have hPP := hL4.2.1
                      have hP1 := hPP.1
                      have m1b : m1 ≤ 200 := (nI_le9 (by omega) (by omega)).mp a5
                      have m2b : m2 ≤ 9999 := (nI_le9 (by omega) (by omega)).mp b5
                      refine wp_istore (n := 159) dX3_readPool_157 rfl rfl rfl rfl ?_
                      refine wp_iload (n := 161) dX3_readPool_159 rfl rfl ?_
                      refine wp_iconst (n := 162) (v := (-1)) dX3_readPool_161 rfl (by decide) ?_
                      refine wp_icmp_ne (t := 167) (n := 165) dX3_readPool_162 (by decide) rfl (fun hy2 => ?_) (fun hy2 => ?_)
                      · refine wp_aload_n (n := 168) dX3_readPool_167 rfl rfl ?_
                        refine wp_iload_n (n := 169) dX3_readPool_168 rfl rfl ?_
                        refine wp_iload_n (n := 170) dX3_readPool_169 rfl rfl ?_
                        refine wp_iload (n := 172) dX3_readPool_170 rfl rfl ?_
                        refine wp_callV3 (n := 175) (rm' := (0, 0, 0, 0)) rfl dX3_readPool_172 rfl mlX3_103 (by repeat first | assumption | exact ax_set_self _ _ _ | exact ax_newA_self _ _ _ | refine (ax_set_ne _ _ (by omega)).trans ?_ | refine (ax_newA_ne _ _ _ (by omega)).trans ?_) rfl rfl rfl rfl rfl ?_
                        refine s_X6_setTerms hPP (by omega) (by omega) (fun h5 f5 hP5 => ?_)
                        show WP Γ _ _ _ _ _ _ _
                        refine wp_iconst (n := 176) (v := nI 1) dX3_readPool_175 rfl (by decide) ?_
                        have hL5 := hL4.poo f5 hP5
                        exact wp_ireturn dX3_readPool_176 rfl rfl (kO s (w - s) m1 m2 w4 h5 (eR.trans ((mrR_r q3).trans (mrR_r q4))) hc l1 (by omega) (by omega) (by omega) m1b m2b (fun i h1 h2 => l4 i h1 (by omega)) (by omega) b3 (((((f1.to (lo := p) (hi := b + 19) (by omega)).tr (lo := p) (hi := b + 19) f2 (by omega) (by omega)).tr (lo := p) (hi := b + 19) f3 (by omega) (by omega)).tr (lo := p) (hi := b + 19) f4 (by omega) (by omega)).tr (lo := p) (hi := b + 19) f5 (by omega) (by omega)) (fun a h1 h2 => (f5.2 a (by omega)).trans ((f4.2 a (by omega)).trans ((f3.2 a (by omega)).trans ((f2.2 a (by omega)).trans (f1.2 a (by omega)))))) (t4.fr f5 (by omega)) hL5)
                      · exact absurd hy2 (nI_ne_neg (by omega))
                  · exact absurd hy (nI_ne_neg (by omega))
              · exact absurd rfl hz
          · exact F1 (Or.inr (bI_ne hw9))
      · exact absurd hq (by decide)
  · rw [nI_lt9 (by omega) (by omega)] at hc
    have e0 : polR np le ln bs len st bh = _ := if_pos (show 8 ≤ np by omega)
    refine wp_aload_n (n := 10) dX3_readPool_9 rfl rfl ?_
    refine wp_getf (n := 13) dX3_readPool_10 rfl flX3_9 (by repeat first | assumption | exact ax_set_self _ _ _ | exact ax_newA_self _ _ _ | refine (ax_set_ne _ _ (by omega)).trans ?_ | refine (ax_newA_ne _ _ _ (by omega)).trans ?_) (by rfl) ?_
    refine wp_iconst (n := 14) (v := nI 4) dX3_readPool_13 rfl (by decide) ?_
    refine wp_callV1 (n := 17) (rm' := (0, 0, 0, 0)) rfl dX3_readPool_14 rfl mlX3_43 (by repeat first | assumption | exact ax_set_self _ _ _ | exact ax_newA_self _ _ _ | refine (ax_set_ne _ _ (by omega)).trans ?_ | refine (ax_newA_ne _ _ _ (by omega)).trans ?_) rfl rfl rfl rfl rfl ?_
    refine s_X8_fail hT0 hA (fun h2 f2 t2 => ?_)
    show WP Γ _ _ _ _ _ _ _
    exact wp_ireturn dX3_readPool_17 rfl rfl (kF _ _ h2 e0 (f2.to (by omega)) (fun a h1 h2 => f2.2 a (by omega)) ⟨_, _, _, t2⟩ (hL.fr f2 (by omega)).led)
theorem s_X3_readGrant (hr : h.2 r = some (.inr (3, [.ref p]))) (hT : TextAt h p bs len kd st bh 0 0) (hL : LedP h b np qu ra re le ln nb pl tm ne rw bk 0 hw nc cw t y pk) (hA : Γ.2.1 ≤ p) (hAb : Γ.2.1 ≤ b) (hpr : p + 2 ≤ r) (hrb : r + 1 ≤ b) (hl : len ≤ 500) (hb : bh ≤ len) (hn : np ≤ 8) (hnb : nb ≤ 200) (he : ne < 300) (hln : ∀ j, j < np → ∃ m, ln j = nI m ∧ m ≤ 6)
    (kF : ∀ e pos h', graR np qu le ln pl nb hw 0 bs len bh = .inl (e, pos) → ax_fr p (b + 19) h h' → (∀ a, p + 2 ≤ a → a < b → h'.2 a = h.2 a) → TxF h' p bs len e pos → LedX h' b → Q (.inl (some (.int 0))) h')
    (kO : ∀ j m w h' bk' pk', graR np qu le ln pl nb hw 0 bs len bh = .inr (j, nI m, w) → j < np → 1 ≤ m → m ≤ 200 → bh < w → w ≤ len → ax_fr p (b + 19) h h' → (∀ a, p + 2 ≤ a → a < b → h'.2 a = h.2 a) → TxG h' p bs len w → (∀ d, d < 200 → pk' d = bI (selL pl nb 0 m 0 d)) → LedP h' b np qu ra re le ln nb (putF pl nb pk' (nI j)) (putF tm nb pk' t) (ne + 1) (upd7 rw ne 0 (nI j) (nI m) 0 t 0 (-1)) bk' 0 hw nc cw t y pk' → bokB bk bk' ne pk' → Q (.inl (some (.int (nI 1)))) h') : WP Γ MX3_readGrant (3, 84, 0, 0) 0 [some (.ref r), some (.ref b), none, none, none] [] h Q := by
  have hT0 := hT
  have hO := hT.1
  have hL0 := hL
  have hLO := hL.1
  refine wp_aload_n (n := 1) dX3_readGrant_0 rfl rfl ?_
  refine wp_getf (n := 4) dX3_readGrant_1 rfl flX3_9 (by repeat first | assumption | exact ax_set_self _ _ _ | exact ax_newA_self _ _ _ | refine (ax_set_ne _ _ (by omega)).trans ?_ | refine (ax_newA_ne _ _ _ (by omega)).trans ?_) (by rfl) ?_
  refine wp_callV0 (n := 7) (rm' := (1, 21, 0, 0)) rfl dX3_readGrant_4 rfl mlX3_34 (by repeat first | assumption | exact ax_set_self _ _ _ | exact ax_newA_self _ _ _ | refine (ax_set_ne _ _ (by omega)).trans ?_ | refine (ax_newA_ne _ _ _ (by omega)).trans ?_) rfl rfl rfl rfl rfl ?_
  refine s_rdW hT0 hA hl hb (fun e pos h1 q1 f1 t1 => ?_) (fun s w h1 q1 l1 l2 l3 l4 f1 t1 => ?_)
  · show WP Γ _ _ _ _ _ _ _
    refine wp_if_ne (t := 12) (n := 10) dX3_readGrant_7 (by decide) rfl (fun hq => ?_) (fun hq => ?_)
    · exact absurd rfl hq
    · refine wp_iconst (n := 11) (v := 0) dX3_readGrant_10 rfl (by decide) ?_
      exact wp_ireturn dX3_readGrant_11 rfl rfl (kF e pos h1 (mrR_l q1) (f1.to (by omega)) (fun a h1 h2 => f1.2 a (by omega)) t1 (hL.fr f1 (by omega)).led)
  · show WP Γ _ _ _ _ _ _ _
    have hr1 := f1.get hr (by omega)
    have hO := t1.1
    have hB1 := t1.2
    have hL1 := hL.fr f1 (by omega)
    have hLO := hL1.1
    have hPP := hL1.2.1
    have hP1 := hPP.1
    have eR : graR np qu le ln pl nb hw 0 bs len bh = _ := mrR_r q1
    refine wp_if_ne (t := 12) (n := 10) dX3_readGrant_7 (by decide) rfl (fun hq => ?_) (fun hq => ?_)
    · have F3 : graR np qu le ln pl nb hw 0 bs len bh = .inl (nI 3, s) → ∀ v, WP Γ MX3_readGrant (3, 84, 0, 0) 50 [some (.ref r), some (.ref b), some (.int v), none, none] [] h1 Q := by
        intro eF v
        refine wp_aload_n (n := 51) dX3_readGrant_50 rfl rfl ?_
        refine wp_getf (n := 54) dX3_readGrant_51 rfl flX3_9 (by repeat first | assumption | exact ax_set_self _ _ _ | exact ax_newA_self _ _ _ | refine (ax_set_ne _ _ (by omega)).trans ?_ | refine (ax_newA_ne _ _ _ (by omega)).trans ?_) (by rfl) ?_
        refine wp_iconst (n := 55) (v := nI 3) dX3_readGrant_54 rfl (by decide) ?_
        refine wp_callV1 (n := 58) (rm' := (0, 0, 0, 0)) rfl dX3_readGrant_55 rfl mlX3_43 (by repeat first | assumption | exact ax_set_self _ _ _ | exact ax_newA_self _ _ _ | refine (ax_set_ne _ _ (by omega)).trans ?_ | refine (ax_newA_ne _ _ _ (by omega)).trans ?_) rfl rfl rfl rfl rfl ?_
        refine s_X8_fail t1 hA (fun h2 f2 t2 => ?_)
        show WP Γ _ _ _ _ _ _ _
        exact wp_ireturn dX3_readGrant_58 rfl rfl (kF _ _ h2 eF ((f1.to (lo := p) (hi := b + 19) (by omega)).tr (lo := p) (hi := b + 19) f2 (by omega) (by omega)) (fun a h1 h2 => (f2.2 a (by omega)).trans (f1.2 a (by omega))) ⟨_, _, _, t2⟩ (hL1.fr f2 (by omega)).led)
      refine wp_aload_n (n := 13) dX3_readGrant_12 rfl rfl ?_
      refine wp_getf (n := 16) dX3_readGrant_13 rfl flX3_59 (by repeat first | assumption | exact ax_set_self _ _ _ | exact ax_newA_self _ _ _ | refine (ax_set_ne _ _ (by omega)).trans ?_ | refine (ax_newA_ne _ _ _ (by omega)).trans ?_) (by rfl) ?_
      refine wp_aload_n (n := 17) dX3_readGrant_16 rfl rfl ?_
      refine wp_getf (n := 20) dX3_readGrant_17 rfl flX3_9 (by repeat first | assumption | exact ax_set_self _ _ _ | exact ax_newA_self _ _ _ | refine (ax_set_ne _ _ (by omega)).trans ?_ | refine (ax_newA_ne _ _ _ (by omega)).trans ?_) (by rfl) ?_
      refine wp_getf (n := 23) dX3_readGrant_20 rfl flX3_89 (by repeat first | assumption | exact ax_set_self _ _ _ | exact ax_newA_self _ _ _ | refine (ax_set_ne _ _ (by omega)).trans ?_ | refine (ax_newA_ne _ _ _ (by omega)).trans ?_) (by rfl) ?_
      refine wp_aload_n (n := 24) dX3_readGrant_23 rfl rfl ?_
      refine wp_getf (n := 27) dX3_readGrant_24 rfl flX3_9 (by repeat first | assumption | exact ax_set_self _ _ _ | exact ax_newA_self _ _ _ | refine (ax_set_ne _ _ (by omega)).trans ?_ | refine (ax_newA_ne _ _ _ (by omega)).trans ?_) (by rfl) ?_
      refine wp_getf (n := 30) dX3_readGrant_27 rfl flX3_93 (by repeat first | assumption | exact ax_set_self _ _ _ | exact ax_newA_self _ _ _ | refine (ax_set_ne _ _ (by omega)).trans ?_ | refine (ax_newA_ne _ _ _ (by omega)).trans ?_) (by rfl) ?_
      refine wp_aload_n (n := 31) dX3_readGrant_30 rfl rfl ?_
      refine wp_getf (n := 34) dX3_readGrant_31 rfl flX3_9 (by repeat first | assumption | exact ax_set_self _ _ _ | exact ax_newA_self _ _ _ | refine (ax_set_ne _ _ (by omega)).trans ?_ | refine (ax_newA_ne _ _ _ (by omega)).trans ?_) (by rfl) ?_
      refine wp_callV0 (n := 37) (rm' := (0, 0, 0, 0)) rfl dX3_readGrant_34 rfl mlX3_83 (by repeat first | assumption | exact ax_set_self _ _ _ | exact ax_newA_self _ _ _ | refine (ax_set_ne _ _ (by omega)).trans ?_ | refine (ax_newA_ne _ _ _ (by omega)).trans ?_) rfl rfl rfl rfl rfl ?_
      refine s_X8_wordLength t1 (by omega) ?_
      show WP Γ _ _ _ _ _ _ _
      refine wp_callV3 (n := 40) (rm' := (1, 24, 0, 0)) rfl dX3_readGrant_37 rfl mlX3_96 (by repeat first | assumption | exact ax_set_self _ _ _ | exact ax_newA_self _ _ _ | refine (ax_set_ne _ _ (by omega)).trans ?_ | refine (ax_newA_ne _ _ _ (by omega)).trans ?_) rfl rfl rfl rfl rfl ?_
      refine s_X6_find (N := 500) hPP hn hln hB1 (by omega) (by omega) ?_
      show WP Γ _ _ _ _ _ _ _
      refine wp_istore_n (n := 41) dX3_readGrant_40 rfl rfl rfl rfl ?_
      refine wp_iload_n (n := 42) dX3_readGrant_41 rfl rfl ?_
      refine wp_iconst (n := 43) (v := (-1)) dX3_readGrant_42 rfl (by decide) ?_
      cases hf : fstG (nameB le ln bs s (w - s)) np 0 with
      | none =>
        simp only [hf] at eR
        refine wp_icmp_eq (t := 50) (n := 46) dX3_readGrant_43 (by decide) rfl (fun hz => ?_) (fun hz => ?_)
        · exact F3 eR _
        · exact absurd rfl hz
      | some j0 =>
        obtain ⟨_, hj2, _⟩ := fstG_some hf
        refine wp_icmp_eq (t := 50) (n := 46) dX3_readGrant_43 (by decide) rfl (fun hz => ?_) (fun hz => ?_)
        · exact absurd hz (nI_ne_neg (by omega))
        · refine wp_iload_n (n := 47) dX3_readGrant_46 rfl rfl ?_
          cases j0 with
          | zero =>
            simp only [hf] at eR
            refine wp_if_ne (t := 59) (n := 50) dX3_readGrant_47 (by decide) rfl (fun hy => ?_) (fun hy => ?_)
            · exact absurd rfl hy
            · exact F3 eR _
          | succ j =>
            simp only [hf] at eR
            refine wp_if_ne (t := 59) (n := 50) dX3_readGrant_47 (by decide) rfl (fun hy => ?_) (fun hy => ?_)
            · show WP Γ _ _ _ [some (.ref r), some (.ref b), some (.int (nI (j + 1))), none, none] _ _ _
              refine wp_aload_n (n := 60) dX3_readGrant_59 rfl rfl ?_
              refine wp_iconst (n := 61) (v := 0) dX3_readGrant_60 rfl (by decide) ?_
              refine wp_callV1 (n := 64) (rm' := (1, 25, 0, 0)) rfl dX3_readGrant_61 rfl mlX3_118 (by repeat first | assumption | exact ax_set_self _ _ _ | exact ax_newA_self _ _ _ | refine (ax_set_ne _ _ (by omega)).trans ?_ | refine (ax_newA_ne _ _ _ (by omega)).trans ?_) rfl rfl rfl rfl rfl ?_
              refine s_X5_availableIn hL1 hnb (by omega) ?_
              show WP Γ _ _ _ _ _ _ _
              refine wp_aload_n (n := 65) dX3_readGrant_64 rfl rfl ?_
              refine wp_iload_n (n := 66) dX3_readGrant_65 rfl rfl ?_
              refine wp_callV1 (n := 69) (rm' := (1, 25, 0, 0)) rfl dX3_readGrant_66 rfl mlX3_122 (by repeat first | assumption | exact ax_set_self _ _ _ | exact ax_newA_self _ _ _ | refine (ax_set_ne _ _ (by omega)).trans ?_ | refine (ax_newA_ne _ _ _ (by omega)).trans ?_) rfl rfl rfl rfl rfl ?_
              refine s_X5_roomIn hL1 hnb (by omega) (by omega) ?_
              show WP Γ _ _ _ _ _ _ _
              refine wp_mmin (n := 72) dX3_readGrant_69 rfl mnX3_125 ax_mns ax_mi ax_mnc rfl rfl ?_
              refine wp_istore_n (n := 73) dX3_readGrant_72 rfl rfl rfl rfl ?_
              refine wp_aload_n (n := 74) dX3_readGrant_73 rfl rfl ?_
              refine wp_getf (n := 77) dX3_readGrant_74 rfl flX3_9 (by repeat first | assumption | exact ax_set_self _ _ _ | exact ax_newA_self _ _ _ | refine (ax_set_ne _ _ (by omega)).trans ?_ | refine (ax_newA_ne _ _ _ (by omega)).trans ?_) (by rfl) ?_
              refine wp_iconst (n := 78) (v := nI 1) dX3_readGrant_77 rfl (by decide) ?_
              refine wp_iload_n (n := 79) dX3_readGrant_78 rfl rfl ?_
              refine wp_callV2 (n := 82) (rm' := (1, 60, 0, 0)) rfl dX3_readGrant_79 rfl mlX3_47 (by repeat first | assumption | exact ax_set_self _ _ _ | exact ax_newA_self _ _ _ | refine (ax_set_ne _ _ (by omega)).trans ?_ | refine (ax_newA_ne _ _ _ (by omega)).trans ?_) rfl rfl rfl rfl rfl ?_
              refine s_rdN t1 hA hl l3 (fun e pos h3 q3 f3 t3 => ?_) (fun m w3 h3 q3 a1 a2 a3 a4 a5 f3 t3 => ?_)
              · show WP Γ _ _ _ _ _ _ _
                refine wp_istore (n := 84) dX3_readGrant_82 rfl rfl rfl rfl ?_
                refine wp_iload (n := 86) dX3_readGrant_84 rfl rfl ?_
                refine wp_iconst (n := 87) (v := (-1)) dX3_readGrant_86 rfl (by decide) ?_
                refine wp_icmp_ne (t := 92) (n := 90) dX3_readGrant_87 (by decide) rfl (fun hx => ?_) (fun hx => ?_)
                · exact absurd rfl hx
                · refine wp_iconst (n := 91) (v := 0) dX3_readGrant_90 rfl (by decide) ?_
                  exact wp_ireturn dX3_readGrant_91 rfl rfl (kF e pos h3 (eR.trans (mrR_l q3)) ((f1.to (lo := p) (hi := b + 19) (by omega)).tr (lo := p) (hi := b + 19) f3 (by omega) (by omega)) (fun a h1 h2 => (f3.2 a (by omega)).trans (f1.2 a (by omega))) t3 (hL1.fr f3 (by omega)).led)
              · show WP Γ _ _ _ _ _ _ _
                have hL3 := hL1.fr f3 (by omega)
                have hLO := hL3.1
                have g1 : 1 ≤ m := (nI_le9 (by omega) (by omega)).mp a4
                have g2 : m ≤ 200 := by
                  have c1 := cnt_le pl 0 nb
                  have e1 : avl pl nb hw 0 0 = nI (cnt pl 0 nb) := by unfold avl pSum sumI; rw [Int32.sub_zero]
                  have e2 : nI m ≤ nI (cnt pl 0 nb) := by
                    rw [← e1]
                    split at a5
                    · rename_i z
                      exact Int32.le_of_lt (Int32.lt_of_le_of_lt a5 z)
                    · exact a5
                  have := (nI_le9 (by omega) (by omega)).mp e2
                  omega
                refine wp_istore (n := 84) dX3_readGrant_82 rfl rfl rfl rfl ?_
                refine wp_iload (n := 86) dX3_readGrant_84 rfl rfl ?_
                refine wp_iconst (n := 87) (v := (-1)) dX3_readGrant_86 rfl (by decide) ?_
                refine wp_icmp_ne (t := 92) (n := 90) dX3_readGrant_87 (by decide) rfl (fun hx => ?_) (fun hx => ?_)
                · refine wp_aload_n (n := 93) dX3_readGrant_92 rfl rfl ?_
                  refine wp_iload_n (n := 94) dX3_readGrant_93 rfl rfl ?_
                  refine wp_iload (n := 96) dX3_readGrant_94 rfl rfl ?_
                  refine wp_callV2 (n := 99) (rm' := (2, 55, 0, 0)) rfl dX3_readGrant_96 rfl mlX3_130 (by repeat first | assumption | exact ax_set_self _ _ _ | exact ax_newA_self _ _ _ | refine (ax_set_ne _ _ (by omega)).trans ?_ | refine (ax_newA_ne _ _ _ (by omega)).trans ?_) rfl rfl rfl rfl rfl ?_
                  refine s_X5_grant hL3 hAb hnb he g2 (fun h4 bk4 pk4 f4 z4 hL4 b4 => ?_)
                  show WP Γ _ _ _ _ _ _ _
                  refine wp_iconst (n := 100) (v := nI 1) dX3_readGrant_99 rfl (by decide) ?_
                  exact wp_ireturn dX3_readGrant_100 rfl rfl (kO (j + 1) m w3 h4 bk4 pk4 (eR.trans (mrR_r q3)) (by omega) g1 g2 (by omega) a3 (((f1.to (lo := p) (hi := b + 19) (by omega)).tr (lo := p) (hi := b + 19) f3 (by omega) (by omega)).tr (lo := p) (hi := b + 19) f4 (by omega) (by omega)) (fun a h1 h2 => (f4.2 a (by omega)).trans ((f3.2 a (by omega)).trans (f1.2 a (by omega)))) (t3.fr f4 (by omega)) z4 hL4 b4)
                · exact absurd hx (nI_ne_neg (by omega))
            · exact absurd hy (fun z => by have := (nI_eq9 (a := j + 1) (b := 0) (by omega) (by omega)).mp z; omega)
    · exact absurd hq (by decide)
end
