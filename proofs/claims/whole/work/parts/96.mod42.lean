/-! ===== the reference: commands ===== -/
section
variable {Γ : GE} {h : AH} {Q : PO} {m a len b n np nb ne nh nc y : Nat} {bs B R CM rs qu ra le ln pl tm rw hw cw pk : FI} {RE re : Nat → UInt32} {bk : Nat → Int64} {t x z w v th bg er ea lr cm : Int32}

theorem s_X10_command (hM : ModC h m a th (nI len) (nI b) bg 0 ea lr (nI n)) (hA : Γ.2.1 ≤ m) (hU : h.2 (m + 10) = some (.inl (.byte, 500, .inl B))) (hB : BufR bs B len) (hl : len ≤ 500) (hb : b ≤ len) (hR : h.2 a = some (.inl (.int, 5061, .inl R))) (r1 : R 1 = nI np) (hn8 : np ≤ 8) (rP : RowP R np qu ra le ln) (IP : InvP np qu ra re le ln) (ham : ¬ a = m) (ha11 : ¬ a = m + 11) (hK : h.2 (m + 11) = some (.inl (.int, 1250, .inl CM))) (hn : 2 * n ≤ b)
    (kF : ∀ e pos h', comR np le ln bs len b = .inl (e, pos) → BE h h' m a th (nI len) e pos lr (nI (n + 1)) → Q (.inl none) h')
    (kO : ∀ c v f g l w h' CM', comR np le ln bs len b = .inr (c, v, f, g, l, w) → VC np c v f g l → b < w → w ≤ len → fr2 m h h' → ModG h' m a th (nI len) w lr (nI (n + 1)) → h'.2 (m + 11) = some (.inl (.int, 1250, .inl CM')) → (∀ u, u < 5 * n → CM' u = CM u) → CM' (5 * n + 0) = nI c → CM' (5 * n + 1) = v → (c ≤ 1 → CM' (5 * n + 2) = f ∧ CM' (5 * n + 3) = g ∧ CM' (5 * n + 4) = l) → Q (.inl none) h') : WP Γ MX10_command (5, 108, 0, 0) 0 [some (.ref m), none] [] h Q := by
  have hM0 := hM
  unfold ModC at hM
  obtain ⟨a1, a2⟩ := tS_le (bs := bs) hb
  obtain ⟨b1, b2⟩ := tA_le (bs := bs) a2
  have X : ∀ e pos, comR np le ln bs len b = .inl (e, pos) → ∀ h1 q1, BE h h1 m a th (nI len) e pos lr (nI n) → WP Γ MX10_command (5, 108, 0, 0) 135 [some (.ref m), q1] [] h1 Q := by
    intro e pos hp h1 q1 be
    obtain ⟨f1, ⟨ne0, at1, bg1, m1⟩, C1, k1⟩ := be
    have m1' := m1
    unfold ModC at m1'
    refine wp_aload_n (n := 136) dX10_command_135 rfl rfl ?_
    refine wp_dup (n := 137) dX10_command_136 rfl rfl ?_
    refine wp_getf (n := 140) dX10_command_137 rfl flX10_255 (by repeat first | assumption | exact ax_set_self _ _ _ | exact ax_newA_self _ _ _ | refine (ax_set_ne _ _ (by omega)).trans ?_ | refine (ax_newA_ne _ _ _ (by omega)).trans ?_) (by rfl) ?_
    refine wp_iconst (n := 141) (v := nI 1) dX10_command_140 rfl (by decide) ?_
    refine wp_iadd (n := 142) dX10_command_141 rfl ?_
    rw [nI_add]
    refine wp_putf (n := 145) dX10_command_142 rfl flX10_255 (by repeat first | assumption | exact ax_set_self _ _ _ | exact ax_newA_self _ _ _ | refine (ax_set_ne _ _ (by omega)).trans ?_ | refine (ax_newA_ne _ _ _ (by omega)).trans ?_) (by omega) (by rfl) rfl rfl ?_
    exact wp_return dX10_command_145 rfl (kF e pos _ hp ⟨f1.tr (fr2.of (ax_fr.set (lo := m) (hi := m + 1) (by omega)) (by omega)), ⟨ne0, _, _, ax_set_self _ _ _⟩, _, (ax_set_ne _ _ (by omega)).trans k1⟩)
  have Y : ∀ c v f g l w, comR np le ln bs len b = .inr (c, v, f, g, l, w) → VC np c v f g l → b < w → w ≤ len → ∀ h1 q1 C1, fr2 m h h1 → ModG h1 m a th (nI len) w lr (nI n) → h1.2 (m + 11) = some (.inl (.int, 1250, .inl C1)) → (∀ u, u < 5 * n → C1 u = CM u) → C1 (5 * n + 0) = nI c → C1 (5 * n + 1) = v → (c ≤ 1 → C1 (5 * n + 2) = f ∧ C1 (5 * n + 3) = g ∧ C1 (5 * n + 4) = l) → WP Γ MX10_command (5, 108, 0, 0) 135 [some (.ref m), q1] [] h1 Q := by
    intro c v f g l w hp hv w1 w2 h1 q1 C1 f1 m1 k1 y1 y2 y3 y4
    obtain ⟨bg1, ea1, m1⟩ := m1
    have m1' := m1
    unfold ModC at m1'
    refine wp_aload_n (n := 136) dX10_command_135 rfl rfl ?_
    refine wp_dup (n := 137) dX10_command_136 rfl rfl ?_
    refine wp_getf (n := 140) dX10_command_137 rfl flX10_255 (by repeat first | assumption | exact ax_set_self _ _ _ | exact ax_newA_self _ _ _ | refine (ax_set_ne _ _ (by omega)).trans ?_ | refine (ax_newA_ne _ _ _ (by omega)).trans ?_) (by rfl) ?_
    refine wp_iconst (n := 141) (v := nI 1) dX10_command_140 rfl (by decide) ?_
    refine wp_iadd (n := 142) dX10_command_141 rfl ?_
    rw [nI_add]
    refine wp_putf (n := 145) dX10_command_142 rfl flX10_255 (by repeat first | assumption | exact ax_set_self _ _ _ | exact ax_newA_self _ _ _ | refine (ax_set_ne _ _ (by omega)).trans ?_ | refine (ax_newA_ne _ _ _ (by omega)).trans ?_) (by omega) (by rfl) rfl rfl ?_
    exact wp_return dX10_command_145 rfl (kO c v f g l w _ _ hp hv w1 w2 (f1.tr (fr2.of (ax_fr.set (lo := m) (hi := m + 1) (by omega)) (by omega))) ⟨_, _, ax_set_self _ _ _⟩ ((ax_set_ne _ _ (by omega)).trans k1) y1 y2 y3 y4)
  refine wp_aload_n (n := 1) dX10_command_0 rfl rfl ?_
  refine wp_callV0 (n := 4) (rm' := (2, 40, 0, 0)) rfl dX10_command_1 rfl mlX10_198 (by repeat first | assumption | exact ax_set_self _ _ _ | exact ax_newA_self _ _ _ | refine (ax_set_ne _ _ (by omega)).trans ?_ | refine (ax_newA_ne _ _ _ (by omega)).trans ?_) rfl rfl rfl rfl rfl ?_
  refine s_X10_reads hA hM0 hU hB hl hb (fun h1 f1 m1 => ?_)
  show WP Γ _ _ _ _ _ _ _
  have m1' := m1
  unfold ModC at m1'
  have U1 := f1.get hU (by omega)
  have R1 := f1.get hR (by omega)
  have K1 := f1.get hK (by omega)
  have F1 := fr2.of (m := m) f1 (by omega)
  have W : ∀ (wd : List Int32), wd.length = 4 → wrdB bs (tS bs len b) (tA bs len (tS bs len b) - tS bs len b) wd = true → rdW bs len b = .inr (tS bs len b, tA bs len (tS bs len b)) ∧ tS bs len b < tA bs len (tS bs len b) ∧ n < 250 := by
    intro wd hw h9
    have := (of_decide_eq_true h9).1
    rcases rdW_or (bs := bs) hb with ⟨q1, q2⟩ | ⟨q1, q2⟩
    · omega
    · exact ⟨q1, q2, by omega⟩
  have eC : rdW bs len b = .inr (tS bs len b, tA bs len (tS bs len b)) → comR np le ln bs len b = if wrdB bs (tS bs len b) (tA bs len (tS bs len b) - tS bs len b) w_move = true then mrR (lngR np le ln bs len (tA bs len (tS bs len b)) 0 (nI 9)) fun x => .inr (0, x.1, nI x.2.1, nI x.2.2.1, x.2.2.2.1, x.2.2.2.2) else if wrdB bs (tS bs len b) (tA bs len (tS bs len b) - tS bs len b) w_hold = true then mrR (lngR np le ln bs len (tA bs len (tS bs len b)) (nI 1) (nI 1000)) fun x => .inr (1, x.1, nI x.2.1, nI x.2.2.1, x.2.2.2.1, x.2.2.2.2) else if wrdB bs (tS bs len b) (tA bs len (tS bs len b) - tS bs len b) w_wait = true then mrR (rdN bs len (tA bs len (tS bs len b)) (nI 1) (nI 1000)) fun u => .inr (2, u.1, -1, -1, -1, u.2) else if wrdB bs (tS bs len b) (tA bs len (tS bs len b) - tS bs len b) w_back = true then mrR (rdN bs len (tA bs len (tS bs len b)) 0 (nI 299)) fun u => .inr (3, u.1, -1, -1, -1, u.2) else .inl (nI 1, tS bs len b) := fun q => mrR_r q
  refine wp_iconst (n := 5) (v := nI 5) dX10_command_4 rfl (by decide) ?_
  refine wp_aload_n (n := 6) dX10_command_5 rfl rfl ?_
  refine wp_getf (n := 9) dX10_command_6 rfl flX10_255 (by repeat first | assumption | exact ax_set_self _ _ _ | exact ax_newA_self _ _ _ | refine (ax_set_ne _ _ (by omega)).trans ?_ | refine (ax_newA_ne _ _ _ (by omega)).trans ?_) (by rfl) ?_
  refine wp_imul (n := 10) dX10_command_9 rfl ?_
  rw [nI_mul]
  refine wp_istore_n (n := 11) dX10_command_10 rfl rfl rfl rfl ?_
  refine wp_aload_n (n := 12) dX10_command_11 rfl rfl ?_
  refine wp_ldcSW (n := 15) 38 dX10_command_12 rfl rfl ?_
  refine wp_callV1 (n := 18) (rm' := (4, 85, 0, 0)) rfl dX10_command_15 rfl mlX10_207 (by repeat first | assumption | exact ax_set_self _ _ _ | exact ax_newA_self _ _ _ | refine (ax_set_ne _ _ (by omega)).trans ?_ | refine (ax_newA_ne _ _ _ (by omega)).trans ?_) rfl rfl rfl rfl rfl ?_
  refine s_X10_isW 38 w_move rfl rfl rfl (by decide) m1 U1 hB hl b1 b2 ?_
  show WP Γ _ _ _ _ _ _ _
  refine wp_if_eq (t := 32) (n := 21) dX10_command_18 (by decide) rfl (fun hc => ?_) (fun hc => ?_)
  · have n1 := bI_eq hc
    refine wp_aload_n (n := 33) dX10_command_32 rfl rfl ?_
    refine wp_ldcSW (n := 36) 39 dX10_command_33 rfl rfl ?_
    refine wp_callV1 (n := 39) (rm' := (4, 85, 0, 0)) rfl dX10_command_36 rfl mlX10_207 (by repeat first | assumption | exact ax_set_self _ _ _ | exact ax_newA_self _ _ _ | refine (ax_set_ne _ _ (by omega)).trans ?_ | refine (ax_newA_ne _ _ _ (by omega)).trans ?_) rfl rfl rfl rfl rfl ?_
    refine s_X10_isW 39 w_hold rfl rfl rfl (by decide) m1 U1 hB hl b1 b2 ?_
    show WP Γ _ _ _ _ _ _ _
    refine wp_if_eq (t := 54) (n := 42) dX10_command_39 (by decide) rfl (fun hq => ?_) (fun hq => ?_)
    · have n2 := bI_eq hq
      refine wp_aload_n (n := 55) dX10_command_54 rfl rfl ?_
      refine wp_ldcSW (n := 58) 40 dX10_command_55 rfl rfl ?_
      refine wp_callV1 (n := 61) (rm' := (4, 85, 0, 0)) rfl dX10_command_58 rfl mlX10_207 (by repeat first | assumption | exact ax_set_self _ _ _ | exact ax_newA_self _ _ _ | refine (ax_set_ne _ _ (by omega)).trans ?_ | refine (ax_newA_ne _ _ _ (by omega)).trans ?_) rfl rfl rfl rfl rfl ?_
      refine s_X10_isW 40 w_wait rfl rfl rfl (by decide) m1 U1 hB hl b1 b2 ?_
      show WP Γ _ _ _ _ _ _ _
      refine wp_if_eq (t := 90) (n := 64) dX10_command_61 (by decide) rfl (fun hr => ?_) (fun hr => ?_)
      · have n3 := bI_eq hr
        refine wp_aload_n (n := 91) dX10_command_90 rfl rfl ?_
        refine wp_ldcSW (n := 94) 41 dX10_command_91 rfl rfl ?_
        refine wp_callV1 (n := 97) (rm' := (4, 85, 0, 0)) rfl dX10_command_94 rfl mlX10_207 (by repeat first | assumption | exact ax_set_self _ _ _ | exact ax_newA_self _ _ _ | refine (ax_set_ne _ _ (by omega)).trans ?_ | refine (ax_newA_ne _ _ _ (by omega)).trans ?_) rfl rfl rfl rfl rfl ?_
        refine s_X10_isW 41 w_back rfl rfl rfl (by decide) m1 U1 hB hl b1 b2 ?_
        show WP Γ _ _ _ _ _ _ _
        refine wp_if_eq (t := 126) (n := 100) dX10_command_97 (by decide) rfl (fun hs => ?_) (fun hs => ?_)
        · have n4 := bI_eq hs
          refine wp_aload_n (n := 127) dX10_command_126 rfl rfl ?_
          refine wp_iconst (n := 128) (v := nI 1) dX10_command_127 rfl (by decide) ?_
          refine wp_aload_n (n := 129) dX10_command_128 rfl rfl ?_
          refine wp_getf (n := 132) dX10_command_129 rfl flX10_164 (by repeat first | assumption | exact ax_set_self _ _ _ | exact ax_newA_self _ _ _ | refine (ax_set_ne _ _ (by omega)).trans ?_ | refine (ax_newA_ne _ _ _ (by omega)).trans ?_) (by rfl) ?_
          refine wp_callV2 (n := 135) (rm' := (0, 0, 0, 0)) rfl dX10_command_132 rfl mlX10_184 (by repeat first | assumption | exact ax_set_self _ _ _ | exact ax_newA_self _ _ _ | refine (ax_set_ne _ _ (by omega)).trans ?_ | refine (ax_newA_ne _ _ _ (by omega)).trans ?_) rfl rfl rfl rfl rfl ?_
          refine s_X10_fails0 m1 hA (fun h2 f2 m2 => ?_)
          show WP Γ _ _ _ _ _ _ _
          refine X (nI 1) (tS bs len b) ?_ h2 _ ⟨F1.tr (fr2.of f2 (by omega)), ⟨by decide, _, _, m2⟩, _, f2.get K1 (by omega)⟩
          rcases rdW_or (bs := bs) hb with ⟨q1, q2⟩ | ⟨q1, q2⟩
          · exact mrR_l q1
          · rw [eC q1, n1, n2, n3, n4]; rfl
        · have n4 := bI_ne hs
          obtain ⟨w1, w2, w3⟩ := W _ rfl n4
          have eC := eC w1
          rw [n1, n2, n3, n4, if_neg (by decide), if_neg (by decide), if_neg (by decide), if_pos rfl] at eC
          refine wp_aload_n (n := 101) dX10_command_100 rfl rfl ?_
          refine wp_getf (n := 104) dX10_command_101 rfl flX10_43 (by repeat first | assumption | exact ax_set_self _ _ _ | exact ax_newA_self _ _ _ | refine (ax_set_ne _ _ (by omega)).trans ?_ | refine (ax_newA_ne _ _ _ (by omega)).trans ?_) (by rfl) ?_
          refine wp_iload_n (n := 105) dX10_command_104 rfl rfl ?_
          refine wp_iconst (n := 106) (v := nI 3) dX10_command_105 rfl (by decide) ?_
          refine wp_iast (n := 107) (5 * n) dX10_command_106 rfl K1 (by omega) rfl (by omega) (by omega) ?_
          have f2 : ax_fr (m + 11) (m + 12) h1 (ax_set h1 (m + 11) (.inl (.int, 1250, .inl (upd CM (5 * n) (nI 3))))) := ax_fr.set (by omega)
          have k2 : (ax_set h1 (m + 11) (.inl (.int, 1250, .inl (upd CM (5 * n) (nI 3))))).2 (m + 11) = some (.inl (.int, 1250, .inl (upd CM (5 * n) (nI 3)))) := ax_set_self _ _ _
          generalize ax_set h1 (m + 11) (.inl (.int, 1250, .inl (upd CM (5 * n) (nI 3)))) = h2 at *
          have m2 := m1.fr f2 (by omega)
          have m2' := m2
          unfold ModC at m2'
          have U2 := f2.get U1 (by omega)
          have F2 := F1.tr (fr2.of f2 (by omega))
          refine wp_aload_n (n := 108) dX10_command_107 rfl rfl ?_
          refine wp_getf (n := 111) dX10_command_108 rfl flX10_43 (by repeat first | assumption | exact ax_set_self _ _ _ | exact ax_newA_self _ _ _ | refine (ax_set_ne _ _ (by omega)).trans ?_ | refine (ax_newA_ne _ _ _ (by omega)).trans ?_) (by rfl) ?_
          refine wp_iload_n (n := 112) dX10_command_111 rfl rfl ?_
          refine wp_iconst (n := 113) (v := nI 1) dX10_command_112 rfl (by decide) ?_
          refine wp_iadd (n := 114) dX10_command_113 rfl ?_
          refine wp_aload_n (n := 115) dX10_command_114 rfl rfl ?_
          refine wp_iconst (n := 116) (v := 0) dX10_command_115 rfl (by decide) ?_
          refine wp_sipush (n := 119) (v := nI 299) dX10_command_116 rfl (by decide) ?_
          refine wp_callV2 (n := 122) (rm' := (2, 60, 0, 0)) rfl dX10_command_119 rfl mlX10_211 (by repeat first | assumption | exact ax_set_self _ _ _ | exact ax_newA_self _ _ _ | refine (ax_set_ne _ _ (by omega)).trans ?_ | refine (ax_newA_ne _ _ _ (by omega)).trans ?_) rfl rfl rfl rfl rfl ?_
          refine s_X10_number hA m2 U2 hB hl b2 (by decide) (fun e3 p3 h3 q3 f3 m3 => ?_) (fun u0 w9 h3 q3 g1 g2 g3 g4 f3 m3 => ?_)
          · show WP Γ _ _ _ _ _ _ _
            obtain ⟨ne0, at3, bg3, m3⟩ := m3
            have k3 := f3.get k2 (by omega)
            refine wp_iast (n := 123) (5 * n + 1) dX10_command_122 rfl k3 (by omega) (by rw [nI_add]) (by omega) (by omega) ?_
            refine wp_goto (t := 135) dX10_command_123 (by decide) ?_
            exact X e3 p3 (eC.trans (mrR_l q3)) _ _ ⟨(F2.tr (fr2.of f3 (by omega))).tr (fr2.of (ax_fr.set (lo := m + 11) (hi := m + 12) (by omega)) (by omega)), ⟨ne0, _, _, (ax_set_ne _ _ (by omega)).trans m3⟩, _, ax_set_self _ _ _⟩
          · show WP Γ _ _ _ _ _ _ _
            obtain ⟨u, uu1, uu2, ue⟩ := inI_get (a := 0) (b := 299) (by omega) (by omega) g1 g2
            obtain ⟨bg3, ea3, m3⟩ := m3
            have k3 := f3.get k2 (by omega)
            refine wp_iast (n := 123) (5 * n + 1) dX10_command_122 rfl k3 (by omega) (by rw [nI_add]) (by omega) (by omega) ?_
            refine wp_goto (t := 135) dX10_command_123 (by decide) ?_
            exact Y 3 (nI u0) (-1) (-1) (-1) w9 (eC.trans (mrR_r q3)) (Or.inr (Or.inr (Or.inr ⟨rfl, u, ue, uu2⟩))) (by omega) g4 _ _ _ ((F2.tr (fr2.of f3 (by omega))).tr (fr2.of (ax_fr.set (lo := m + 11) (hi := m + 12) (by omega)) (by omega))) ⟨_, _, (ax_set_ne _ _ (by omega)).trans m3⟩ (ax_set_self _ _ _) (fun v hv => by simp only [upd]; rw [if_neg (by omega), if_neg (by omega)]) (by simp [upd]) (by simp [upd]) (fun z => by omega)
      · have n3 := bI_ne hr
        obtain ⟨w1, w2, w3⟩ := W _ rfl n3
        have eC := eC w1
        rw [n1, n2, n3, if_neg (by decide), if_neg (by decide), if_pos rfl] at eC
        refine wp_aload_n (n := 65) dX10_command_64 rfl rfl ?_
        refine wp_getf (n := 68) dX10_command_65 rfl flX10_43 (by repeat first | assumption | exact ax_set_self _ _ _ | exact ax_newA_self _ _ _ | refine (ax_set_ne _ _ (by omega)).trans ?_ | refine (ax_newA_ne _ _ _ (by omega)).trans ?_) (by rfl) ?_
        refine wp_iload_n (n := 69) dX10_command_68 rfl rfl ?_
        refine wp_iconst (n := 70) (v := nI 2) dX10_command_69 rfl (by decide) ?_
        refine wp_iast (n := 71) (5 * n) dX10_command_70 rfl K1 (by omega) rfl (by omega) (by omega) ?_
        have f2 : ax_fr (m + 11) (m + 12) h1 (ax_set h1 (m + 11) (.inl (.int, 1250, .inl (upd CM (5 * n) (nI 2))))) := ax_fr.set (by omega)
        have k2 : (ax_set h1 (m + 11) (.inl (.int, 1250, .inl (upd CM (5 * n) (nI 2))))).2 (m + 11) = some (.inl (.int, 1250, .inl (upd CM (5 * n) (nI 2)))) := ax_set_self _ _ _
        generalize ax_set h1 (m + 11) (.inl (.int, 1250, .inl (upd CM (5 * n) (nI 2)))) = h2 at *
        have m2 := m1.fr f2 (by omega)
        have m2' := m2
        unfold ModC at m2'
        have U2 := f2.get U1 (by omega)
        have F2 := F1.tr (fr2.of f2 (by omega))
        refine wp_aload_n (n := 72) dX10_command_71 rfl rfl ?_
        refine wp_getf (n := 75) dX10_command_72 rfl flX10_43 (by repeat first | assumption | exact ax_set_self _ _ _ | exact ax_newA_self _ _ _ | refine (ax_set_ne _ _ (by omega)).trans ?_ | refine (ax_newA_ne _ _ _ (by omega)).trans ?_) (by rfl) ?_
        refine wp_iload_n (n := 76) dX10_command_75 rfl rfl ?_
        refine wp_iconst (n := 77) (v := nI 1) dX10_command_76 rfl (by decide) ?_
        refine wp_iadd (n := 78) dX10_command_77 rfl ?_
        refine wp_aload_n (n := 79) dX10_command_78 rfl rfl ?_
        refine wp_iconst (n := 80) (v := nI 1) dX10_command_79 rfl (by decide) ?_
        refine wp_sipush (n := 83) (v := nI 1000) dX10_command_80 rfl (by decide) ?_
        refine wp_callV2 (n := 86) (rm' := (2, 60, 0, 0)) rfl dX10_command_83 rfl mlX10_211 (by repeat first | assumption | exact ax_set_self _ _ _ | exact ax_newA_self _ _ _ | refine (ax_set_ne _ _ (by omega)).trans ?_ | refine (ax_newA_ne _ _ _ (by omega)).trans ?_) rfl rfl rfl rfl rfl ?_
        refine s_X10_number hA m2 U2 hB hl b2 (by decide) (fun e3 p3 h3 q3 f3 m3 => ?_) (fun u0 w9 h3 q3 g1 g2 g3 g4 f3 m3 => ?_)
        · show WP Γ _ _ _ _ _ _ _
          obtain ⟨ne0, at3, bg3, m3⟩ := m3
          have k3 := f3.get k2 (by omega)
          refine wp_iast (n := 87) (5 * n + 1) dX10_command_86 rfl k3 (by omega) (by rw [nI_add]) (by omega) (by omega) ?_
          refine wp_goto (t := 135) dX10_command_87 (by decide) ?_
          exact X e3 p3 (eC.trans (mrR_l q3)) _ _ ⟨(F2.tr (fr2.of f3 (by omega))).tr (fr2.of (ax_fr.set (lo := m + 11) (hi := m + 12) (by omega)) (by omega)), ⟨ne0, _, _, (ax_set_ne _ _ (by omega)).trans m3⟩, _, ax_set_self _ _ _⟩
        · show WP Γ _ _ _ _ _ _ _
          obtain ⟨u, uu1, uu2, ue⟩ := inI_get (a := 1) (b := 1000) (by omega) (by omega) g1 g2
          obtain ⟨bg3, ea3, m3⟩ := m3
          have k3 := f3.get k2 (by omega)
          refine wp_iast (n := 87) (5 * n + 1) dX10_command_86 rfl k3 (by omega) (by rw [nI_add]) (by omega) (by omega) ?_
          refine wp_goto (t := 135) dX10_command_87 (by decide) ?_
          exact Y 2 (nI u0) (-1) (-1) (-1) w9 (eC.trans (mrR_r q3)) (Or.inr (Or.inr (Or.inl ⟨rfl, u, ue, uu1, uu2⟩))) (by omega) g4 _ _ _ ((F2.tr (fr2.of f3 (by omega))).tr (fr2.of (ax_fr.set (lo := m + 11) (hi := m + 12) (by omega)) (by omega))) ⟨_, _, (ax_set_ne _ _ (by omega)).trans m3⟩ (ax_set_self _ _ _) (fun v hv => by simp only [upd]; rw [if_neg (by omega), if_neg (by omega)]) (by simp [upd]) (by simp [upd]) (fun z => by omega)
    · have n2 := bI_ne hq
      obtain ⟨w1, w2, w3⟩ := W _ rfl n2
      have eC := eC w1
      rw [n1, n2, if_neg (by decide), if_pos rfl] at eC
      refine wp_aload_n (n := 43) dX10_command_42 rfl rfl ?_
      refine wp_iconst (n := 44) (v := nI 1) dX10_command_43 rfl (by decide) ?_
      refine wp_sipush (n := 47) (v := nI 1000) dX10_command_44 rfl (by decide) ?_
      refine wp_iconst (n := 48) (v := nI 1) dX10_command_47 rfl (by decide) ?_
      refine wp_callV3 (n := 51) (rm' := (4, 84, 0, 0)) rfl dX10_command_48 rfl mlX10_260 (by repeat first | assumption | exact ax_set_self _ _ _ | exact ax_newA_self _ _ _ | refine (ax_set_ne _ _ (by omega)).trans ?_ | refine (ax_newA_ne _ _ _ (by omega)).trans ?_) rfl rfl rfl rfl rfl ?_
      refine s_X10_pair (c9 := 1) (lo := 1) (hi := 1000) m1 hA U1 hB hl b2 R1 r1 hn8 rP IP ham ha11 K1 w3 (by omega) (fun e pos h2 q2 be => ?_) (fun u i j l w9 h2 C2 q2 g1 g2 g3 g4 g5 g6 g7 g8 f2 m2 k2 y1 y2 y3 y4 y5 y6 => ?_)
      · show WP Γ _ _ _ _ _ _ _
        refine wp_goto (t := 135) dX10_command_51 (by decide) ?_
        exact X e pos (eC.trans (mrR_l q2)) h2 _ ⟨F1.tr be.1, be.2⟩
      · show WP Γ _ _ _ _ _ _ _
        obtain ⟨l1, x1, x2, rfl⟩ := inI_get (a := 1) (b := 1000) (by omega) (by omega) g5 g6
        refine wp_goto (t := 135) dX10_command_51 (by decide) ?_
        exact Y 1 (nI u) (nI i) (nI j) (nI l1) w9 (eC.trans (mrR_r q2)) (Or.inr (Or.inl ⟨rfl, u, i, j, l1, rfl, g1, g2, rfl, rfl, g3, g4, rfl, x1, x2⟩)) (by omega) g8 h2 _ C2 (F1.tr f2) m2 k2 y1 y2 y3 (fun _ => ⟨y4, y5, y6⟩)
  · have n1 := bI_ne hc
    obtain ⟨w1, w2, w3⟩ := W _ rfl n1
    have eC := eC w1
    rw [n1, if_pos rfl] at eC
    refine wp_aload_n (n := 22) dX10_command_21 rfl rfl ?_
    refine wp_iconst (n := 23) (v := 0) dX10_command_22 rfl (by decide) ?_
    refine wp_bipush (n := 25) (v := nI 9) dX10_command_23 rfl (by decide) ?_
    refine wp_iconst (n := 26) (v := 0) dX10_command_25 rfl (by decide) ?_
    refine wp_callV3 (n := 29) (rm' := (4, 84, 0, 0)) rfl dX10_command_26 rfl mlX10_260 (by repeat first | assumption | exact ax_set_self _ _ _ | exact ax_newA_self _ _ _ | refine (ax_set_ne _ _ (by omega)).trans ?_ | refine (ax_newA_ne _ _ _ (by omega)).trans ?_) rfl rfl rfl rfl rfl ?_
    refine s_X10_pair (c9 := 0) (lo := 0) (hi := 9) m1 hA U1 hB hl b2 R1 r1 hn8 rP IP ham ha11 K1 w3 (by omega) (fun e pos h2 q2 be => ?_) (fun u i j l w9 h2 C2 q2 g1 g2 g3 g4 g5 g6 g7 g8 f2 m2 k2 y1 y2 y3 y4 y5 y6 => ?_)
    · show WP Γ _ _ _ _ _ _ _
      refine wp_goto (t := 135) dX10_command_29 (by decide) ?_
      exact X e pos (eC.trans (mrR_l q2)) h2 _ ⟨F1.tr be.1, be.2⟩
    · show WP Γ _ _ _ _ _ _ _
      refine wp_goto (t := 135) dX10_command_29 (by decide) ?_
      exact Y 0 (nI u) (nI i) (nI j) l w9 (eC.trans (mrR_r q2)) (Or.inl ⟨rfl, u, i, j, rfl, g1, g2, rfl, rfl, g3, g4, decide_eq_true ⟨g5, g6⟩⟩) (by omega) g8 h2 _ C2 (F1.tr f2) m2 k2 y1 y2 y3 (fun _ => ⟨y4, y5, y6⟩)

end
