/-! ===== the reference: load ===== -/
section
variable {Γ : GE} {h : AH} {Q : PO} {m a len b s0 np nb ne nh nc y : Nat} {bs B R qu ra le ln pl tm rw hw cw pk : FI} {RE : Nat → UInt32} {R2 : FI} {re : Nat → UInt32} {bk : Nat → Int64} {t x z w th bg er ea lr cm : Int32}

theorem s_X10_load {at' : Int32} {out : (Int32 × Nat) ⊕ KL} (hA : Γ.2.1 ≤ m) (hM : ModC h m (m + 1) th (nI len) at' bg er ea lr cm) (hU : h.2 (m + 10) = some (.inl (.byte, 500, .inl B))) (hB : BufR bs B len) (hl : len ≤ 500) (hR : h.2 (m + 1) = some (.inl (.int, 5061, .inl R))) (hC : h.2 (m + 2) = some (.inl (.int, 5061, .inl R2))) (hE : h.2 (m + 5) = some (.inl (.float, 8, .inr (.inr (.inl RE))))) (hP9 : h.2 (m + 9) = some (.inl (.boolean, 200, .inl pk))) (hD : DesT bs len out)
    (kF : ∀ e pos h', out = .inl (e, pos) → fr3 m h h' → (∃ at'' bg' ea', ModC h' m (m + 1) 0 0 at'' bg' e ea' e cm) → (∃ R', h'.2 (m + 2) = some (.inl (.int, 5061, .inl R'))) → (∃ pk', h'.2 (m + 9) = some (.inl (.boolean, 200, .inl pk'))) → Q (.inl (some (.int (-100 - nI pos)))) h')
    (kO : ∀ K h' R' RE', out = .inr K → InvK K → h'.1 = h.1 → (∀ c, ¬ c = m → ¬ c = m + 1 → ¬ c = m + 2 → ¬ c = m + 5 → ¬ c = m + 9 → h'.2 c = h.2 c) → (∃ at'' bg' ea', ModC h' m (m + 1) 0 0 at'' bg' 0 ea' 0 cm) → h'.2 (m + 1) = some (.inl (.int, 5061, .inl R')) → RowK R' K → h'.2 (m + 5) = some (.inl (.float, 8, .inr (.inr (.inl RE')))) → (∀ j, j < K.1.1 → RE' j = K.1.2.2.2.1 j) → (∃ R', h'.2 (m + 2) = some (.inl (.int, 5061, .inl R'))) → (∃ pk', h'.2 (m + 9) = some (.inl (.boolean, 200, .inl pk'))) → Q (.inl (some (.int (nI K.1.1)))) h') : WP Γ MX10_load (7, 150, 0, 0) 0 [some (.ref m), none] [] h Q := by
  have E66 : ∀ e pos, out = .inl (e, pos) → ∀ h1, fr3 m h h1 → ModE h1 m (m + 1) 0 (nI len) e pos lr cm → (∃ R', h1.2 (m + 2) = some (.inl (.int, 5061, .inl R'))) → (∃ pk', h1.2 (m + 9) = some (.inl (.boolean, 200, .inl pk'))) → WP Γ MX10_load (7, 150, 0, 0) 66 [some (.ref m), none] [] h1 Q := by
    intro e pos ho h1 f1 m1 c1 p1
    obtain ⟨ne0, at1, bg1, m1⟩ := m1
    obtain ⟨R1, c1⟩ := c1
    obtain ⟨pk1, p1⟩ := p1
    have m1' := m1
    unfold ModC at m1'
    refine wp_aload_n (n := 67) dX10_load_66 rfl rfl ?_
    refine wp_iconst (n := 68) (v := 0) dX10_load_67 rfl (by decide) ?_
    refine wp_putf (n := 71) dX10_load_68 rfl flX10_154 (by repeat first | assumption | exact ax_set_self _ _ _ | exact ax_newA_self _ _ _ | refine (ax_set_ne _ _ (by omega)).trans ?_ | refine (ax_newA_ne _ _ _ (by omega)).trans ?_) (by omega) (by rfl) rfl rfl ?_
    refine wp_aload_n (n := 72) dX10_load_71 rfl rfl ?_
    refine wp_aload_n (n := 73) dX10_load_72 rfl rfl ?_
    refine wp_getf (n := 76) dX10_load_73 rfl flX10_167 (by repeat first | assumption | exact ax_set_self _ _ _ | exact ax_newA_self _ _ _ | refine (ax_set_ne _ _ (by omega)).trans ?_ | refine (ax_newA_ne _ _ _ (by omega)).trans ?_) (by rfl) ?_
    refine wp_putf (n := 79) dX10_load_76 rfl flX10_249 (by repeat first | assumption | exact ax_set_self _ _ _ | exact ax_newA_self _ _ _ | refine (ax_set_ne _ _ (by omega)).trans ?_ | refine (ax_newA_ne _ _ _ (by omega)).trans ?_) (by omega) (by rfl) rfl rfl ?_
    refine wp_aload_n (n := 80) dX10_load_79 rfl rfl ?_
    refine wp_getf (n := 83) dX10_load_80 rfl flX10_167 (by repeat first | assumption | exact ax_set_self _ _ _ | exact ax_newA_self _ _ _ | refine (ax_set_ne _ _ (by omega)).trans ?_ | refine (ax_newA_ne _ _ _ (by omega)).trans ?_) (by rfl) ?_
    refine wp_if_eq (t := 94) (n := 86) dX10_load_83 (by decide) rfl (fun hc => ?_) (fun hc => ?_)
    · exact absurd hc ne0
    · refine wp_bipush (n := 88) (v := (-100)) dX10_load_86 rfl (by decide) ?_
      refine wp_aload_n (n := 89) dX10_load_88 rfl rfl ?_
      refine wp_getf (n := 92) dX10_load_89 rfl flX10_170 (by repeat first | assumption | exact ax_set_self _ _ _ | exact ax_newA_self _ _ _ | refine (ax_set_ne _ _ (by omega)).trans ?_ | refine (ax_newA_ne _ _ _ (by omega)).trans ?_) (by rfl) ?_
      refine wp_isub (n := 93) dX10_load_92 rfl ?_
      exact wp_ireturn dX10_load_93 rfl rfl (kF e pos _ ho (f1.tr ((fr3.of (ax_fr.set (lo := m) (hi := m + 1) (by omega)) (by omega)).tr (fr3.of (ax_fr.set (lo := m) (hi := m + 1) (by omega)) (by omega)))) ⟨_, _, _, ax_set_self _ _ _⟩ ⟨_, (ax_set_ne _ _ (by omega)).trans ((ax_set_ne _ _ (by omega)).trans c1)⟩ ⟨_, (ax_set_ne _ _ (by omega)).trans ((ax_set_ne _ _ (by omega)).trans p1)⟩)
  have E52 : ∀ e pos, out = .inl (e, pos) → ∀ h1, fr3 m h h1 → ModE h1 m (m + 1) 0 (nI len) e pos lr cm → (∃ R', h1.2 (m + 2) = some (.inl (.int, 5061, .inl R'))) → (∃ pk', h1.2 (m + 9) = some (.inl (.boolean, 200, .inl pk'))) → WP Γ MX10_load (7, 150, 0, 0) 52 [some (.ref m), none] [] h1 Q := by
    intro e pos ho h1 f1 m1 c1 p1
    have m0 := m1
    obtain ⟨ne0, at1, bg1, m1⟩ := m1
    have m1' := m1
    unfold ModC at m1'
    refine wp_aload_n (n := 53) dX10_load_52 rfl rfl ?_
    refine wp_callV0 (n := 56) (rm' := (2, 40, 0, 0)) rfl dX10_load_53 rfl mlX10_242 (by repeat first | assumption | exact ax_set_self _ _ _ | exact ax_newA_self _ _ _ | refine (ax_set_ne _ _ (by omega)).trans ?_ | refine (ax_newA_ne _ _ _ (by omega)).trans ?_) rfl rfl rfl rfl rfl ?_
    refine s_X10_isMoreE m1 ne0 ?_
    show WP Γ _ _ _ _ _ _ _
    refine wp_if_eq (t := 66) (n := 59) dX10_load_56 (by decide) rfl (fun hc => ?_) (fun hc => ?_)
    · exact E66 e pos ho h1 f1 m0 c1 p1
    · exact absurd rfl hc
  have L : ∀ g b np qu ra re le ln nb pl tm ne rw bk hw cw t y h1 R1, DesR bs len g (mkK np qu ra re le ln nb pl tm ne rw bk 0 hw 0 cw t y) b out → 2 * ne ≤ b → b ≤ len → fr3 m h h1 → ModG h1 m (m + 1) 0 (nI len) b lr cm → h1.2 (m + 2) = some (.inl (.int, 5061, .inl R1)) → (∃ pk', h1.2 (m + 9) = some (.inl (.boolean, 200, .inl pk'))) → RowR R1 np qu ra re le ln nb pl tm ne rw bk 0 hw 0 cw t y → Inv np qu ra re le ln nb pl tm ne rw bk 0 hw 0 cw t y → (∀ j, j < np → re j = FP.fconst0) → WP Γ MX10_load (7, 150, 0, 0) 52 [some (.ref m), none] [] h1 Q := by
    intro g
    induction g with
    | zero => intro b np qu ra re le ln nb pl tm ne rw bk hw cw t y h1 R1 hd; exact absurd hd (by unfold DesR; exact fun z => z)
    | succ g ih =>
      intro b np qu ra re le ln nb pl tm ne rw bk hw cw t y h1 R1 hd hne hb f1 m1 c1 p1 hr hI hre
      obtain ⟨bg1, ea1, m1⟩ := m1
      obtain ⟨pk1, p1⟩ := p1
      have m1' := m1
      unfold ModC at m1'
      have hU1 := (f1.2 (m + 10) (by omega) (by omega) (by omega)).trans hU
      obtain ⟨a1, a2⟩ := tS_le (bs := bs) hb
      obtain ⟨b1, b2⟩ := tB_le (bs := bs) hb
      unfold DesR at hd
      refine wp_aload_n (n := 53) dX10_load_52 rfl rfl ?_
      refine wp_callV0 (n := 56) (rm' := (2, 40, 0, 0)) rfl dX10_load_53 rfl mlX10_242 (by repeat first | assumption | exact ax_set_self _ _ _ | exact ax_newA_self _ _ _ | refine (ax_set_ne _ _ (by omega)).trans ?_ | refine (ax_newA_ne _ _ _ (by omega)).trans ?_) rfl rfl rfl rfl rfl ?_
      refine s_X10_isMore hA hU1 hB hl hb m1 (fun k3 h2 f2 m2 => ?_) (fun k0 h2 f2 m2 => ?_) (fun k1 k2 h2 f2 m2 => ?_)
      · show WP Γ _ _ _ _ _ _ _
        rw [if_pos k3] at hd
        have hb3 := tK3 k3
        obtain ⟨bg2, ea2, m2⟩ := m2
        have m2' := m2
        unfold ModC at m2'
        have F2 := f1.tr (fr3.of f2 (by omega))
        have hU2 := f2.get hU1 (by omega)
        have c2 := f2.get c1 (by omega)
        have p2 := f2.get p1 (by omega)
        refine wp_if_eq (t := 66) (n := 59) dX10_load_56 (by decide) rfl (fun hc => ?_) (fun hc => ?_)
        · exact absurd hc (by decide)
        · refine wp_aload_n (n := 60) dX10_load_59 rfl rfl ?_
          refine wp_callV0 (n := 63) (rm' := (6, 130, 0, 0)) rfl dX10_load_60 rfl mlX10_246 (by repeat first | assumption | exact ax_set_self _ _ _ | exact ax_newA_self _ _ _ | refine (ax_set_ne _ _ (by omega)).trans ?_ | refine (ax_newA_ne _ _ _ (by omega)).trans ?_) rfl rfl rfl rfl rfl ?_
          refine s_X10_statement m2 hA hU2 hB hl b2 c2 p2 hr hI (by omega) (fun e pos h3 q3 pe => ?_) (fun w h3 R3 w1 w2 pg q3 q4 => ?_)
          · show WP Γ _ _ _ _ _ _ _
            rcases hd with ⟨e9, d1, d2⟩ | ⟨K', b', d1, d2⟩
            · have d1 : stmR np qu le ln pl nb hw 0 bs len (tB bs len b) = .inl e9 := d1
              rw [q3] at d1
              cases d1
              refine wp_goto (t := 52) dX10_load_63 (by decide) ?_
              exact E52 e pos d2 h3 (F2.tr pe.1) pe.2.1 pe.2.2.1 pe.2.2.2
            · exfalso
              obtain ⟨_, _, ⟨s2, l2, u1, u2, z, _⟩ | ⟨u1, z, _⟩ | ⟨j2, u2, bk', pk', z, _⟩⟩ := d1
              · rw [q3] at z; cases z
              · rw [q3] at z; cases z
              · rw [q3] at z; cases z
          · show WP Γ _ _ _ _ _ _ _
            rcases hd with ⟨e9, d1, d2⟩ | ⟨K', b', d1, d2⟩
            · exact absurd d1 (q3 e9)
            · obtain ⟨rfl, hrk⟩ := q4 K' b' d1
              refine wp_goto (t := 52) dX10_load_63 (by decide) ?_
              obtain ⟨z1, z2, ⟨s2, l2, u1, u2, z, g1, g2, g3, g4, g5, g6, g7, rfl⟩ | ⟨u1, z, g1, rfl⟩ | ⟨j2, u2, bk', pk', z, g1, g2, g3, g4, g5, rfl⟩⟩ := d1
              · refine ih b' _ _ _ _ _ _ _ _ _ _ _ _ _ _ _ _ h3 R3 d2 (by omega) z2 (F2.tr pg.1) pg.2.1 pg.2.2.1 pg.2.2.2 hrk (hI.pool g1 g2 g3 g5 g6 g7) (fun j hj => ?_)
                by_cases e : j = np
                · exact if_pos e
                · exact (if_neg e).trans (hre j (by omega))
              · exact ih b' _ _ _ _ _ _ _ _ _ _ _ _ _ _ _ _ h3 R3 d2 (by omega) z2 (F2.tr pg.1) pg.2.1 pg.2.2.1 pg.2.2.2 hrk (hI.way g1) hre
              · exact ih b' _ _ _ _ _ _ _ _ _ _ _ _ _ _ _ _ h3 R3 d2 (by omega) z2 (F2.tr pg.1) pg.2.1 pg.2.2.1 pg.2.2.2 hrk (hI.book (i := 0) (by have := hI.1.1; omega) g1 g3 (by omega) g5 (fun d hd hq => (of_decide_eq_true (bI_ne (fun w => hq ((g4 d hd).trans w)))).2.1)) hre
      · show WP Γ _ _ _ _ _ _ _
        rw [if_neg (by omega), if_pos k0] at hd
        obtain ⟨b3, bg2, ea2, m2⟩ := m2
        have m2' := m2
        unfold ModC at m2'
        have c2 := f2.get c1 (by omega)
        have p2 := f2.get p1 (by omega)
        have R02 := f2.get ((f1.2 (m + 1) (by omega) (by omega) (by omega)).trans hR) (by omega)
        have E02 := f2.get ((f1.2 (m + 5) (by omega) (by omega) (by omega)).trans hE) (by omega)
        refine wp_if_eq (t := 66) (n := 59) dX10_load_56 (by decide) rfl (fun hc => ?_) (fun hc => ?_)
        · refine wp_aload_n (n := 67) dX10_load_66 rfl rfl ?_
          refine wp_iconst (n := 68) (v := 0) dX10_load_67 rfl (by decide) ?_
          refine wp_putf (n := 71) dX10_load_68 rfl flX10_154 (by repeat first | assumption | exact ax_set_self _ _ _ | exact ax_newA_self _ _ _ | refine (ax_set_ne _ _ (by omega)).trans ?_ | refine (ax_newA_ne _ _ _ (by omega)).trans ?_) (by omega) (by rfl) rfl rfl ?_
          refine wp_aload_n (n := 72) dX10_load_71 rfl rfl ?_
          refine wp_aload_n (n := 73) dX10_load_72 rfl rfl ?_
          refine wp_getf (n := 76) dX10_load_73 rfl flX10_167 (by repeat first | assumption | exact ax_set_self _ _ _ | exact ax_newA_self _ _ _ | refine (ax_set_ne _ _ (by omega)).trans ?_ | refine (ax_newA_ne _ _ _ (by omega)).trans ?_) (by rfl) ?_
          refine wp_putf (n := 79) dX10_load_76 rfl flX10_249 (by repeat first | assumption | exact ax_set_self _ _ _ | exact ax_newA_self _ _ _ | refine (ax_set_ne _ _ (by omega)).trans ?_ | refine (ax_newA_ne _ _ _ (by omega)).trans ?_) (by omega) (by rfl) rfl rfl ?_
          refine wp_aload_n (n := 80) dX10_load_79 rfl rfl ?_
          refine wp_getf (n := 83) dX10_load_80 rfl flX10_167 (by repeat first | assumption | exact ax_set_self _ _ _ | exact ax_newA_self _ _ _ | refine (ax_set_ne _ _ (by omega)).trans ?_ | refine (ax_newA_ne _ _ _ (by omega)).trans ?_) (by rfl) ?_
          refine wp_if_eq (t := 94) (n := 86) dX10_load_83 (by decide) rfl (fun hq => ?_) (fun hq => ?_)
          · have f3 := ((f2.put (a := m) (e := .inr (10, [.ref (m + 1), .ref (m + 2), .ref (m + 3), .ref (m + 4), .ref (m + 5), .ref (m + 6), .ref (m + 7), .ref (m + 8), .int 0, .ref (m + 9), .ref (m + 10), .int 0, .int (nI b3), .int bg2, .int 0, .int ea2, .int lr, .ref (m + 11), .int cm])) (by omega)).put (a := m) (e := .inr (10, [.ref (m + 1), .ref (m + 2), .ref (m + 3), .ref (m + 4), .ref (m + 5), .ref (m + 6), .ref (m + 7), .ref (m + 8), .int 0, .ref (m + 9), .ref (m + 10), .int 0, .int (nI b3), .int bg2, .int 0, .int ea2, .int 0, .ref (m + 11), .int cm])) (by omega))
            have m3 : ModC (ax_set (ax_set h2 m (.inr (10, [.ref (m + 1), .ref (m + 2), .ref (m + 3), .ref (m + 4), .ref (m + 5), .ref (m + 6), .ref (m + 7), .ref (m + 8), .int 0, .ref (m + 9), .ref (m + 10), .int 0, .int (nI b3), .int bg2, .int 0, .int ea2, .int lr, .ref (m + 11), .int cm]))) m (.inr (10, [.ref (m + 1), .ref (m + 2), .ref (m + 3), .ref (m + 4), .ref (m + 5), .ref (m + 6), .ref (m + 7), .ref (m + 8), .int 0, .ref (m + 9), .ref (m + 10), .int 0, .int (nI b3), .int bg2, .int 0, .int ea2, .int 0, .ref (m + 11), .int cm]))) m (m + 1) 0 0 (nI b3) bg2 0 ea2 0 cm := ax_set_self _ _ _
            generalize ax_set (ax_set h2 m (.inr (10, [.ref (m + 1), .ref (m + 2), .ref (m + 3), .ref (m + 4), .ref (m + 5), .ref (m + 6), .ref (m + 7), .ref (m + 8), .int 0, .ref (m + 9), .ref (m + 10), .int 0, .int (nI b3), .int bg2, .int 0, .int ea2, .int lr, .ref (m + 11), .int cm]))) m (.inr (10, [.ref (m + 1), .ref (m + 2), .ref (m + 3), .ref (m + 4), .ref (m + 5), .ref (m + 6), .ref (m + 7), .ref (m + 8), .int 0, .ref (m + 9), .ref (m + 10), .int 0, .int (nI b3), .int bg2, .int 0, .int ea2, .int 0, .ref (m + 11), .int cm])) = h3 at *
            have m3' := m3
            unfold ModC at m3'
            have c3 := f3.get c1 (by omega)
            have p3 := f3.get p1 (by omega)
            have R03 := f3.get ((f1.2 (m + 1) (by omega) (by omega) (by omega)).trans hR) (by omega)
            have E03 := f3.get ((f1.2 (m + 5) (by omega) (by omega) (by omega)).trans hE) (by omega)
            refine wp_aload_n (n := 95) dX10_load_94 rfl rfl ?_
            refine wp_getf (n := 98) dX10_load_95 rfl flX10_13 (by repeat first | assumption | exact ax_set_self _ _ _ | exact ax_newA_self _ _ _ | refine (ax_set_ne _ _ (by omega)).trans ?_ | refine (ax_newA_ne _ _ _ (by omega)).trans ?_) (by rfl) ?_
            refine wp_iconst (n := 99) (v := 0) dX10_load_98 rfl (by decide) ?_
            refine wp_aload_n (n := 100) dX10_load_99 rfl rfl ?_
            refine wp_getf (n := 103) dX10_load_100 rfl flX10_9 (by repeat first | assumption | exact ax_set_self _ _ _ | exact ax_newA_self _ _ _ | refine (ax_set_ne _ _ (by omega)).trans ?_ | refine (ax_newA_ne _ _ _ (by omega)).trans ?_) (by rfl) ?_
            refine wp_iconst (n := 104) (v := 0) dX10_load_103 rfl (by decide) ?_
            refine wp_callS4 (n := 107) (rm' := (0, 0, 0, 0)) rfl dX10_load_104 rfl mlX10_252 rfl rfl rfl rfl ?_
            refine s_X10_copies (i := 0) (j := 0) c3 R03 (by omega) (by omega) (by omega) (by omega) (by omega) (by omega) (fun h4 R4 f4 c4 z4 o4 => ?_)
            show WP Γ _ _ _ _ _ _ _
            have m4 := m3.fr f4 (by omega)
            have e4 : ∀ u, u < 5061 → R4 u = R1 u := fun u hu => by have := z4 u hu; rw [show 5061 * 0 + u = u by omega] at this; exact this
            have E04 := f4.get E03 (by omega)
            refine wp_iconst (n := 108) (v := 0) dX10_load_107 rfl (by decide) ?_
            refine wp_istore_n (n := 109) dX10_load_108 rfl rfl rfl rfl ?_
            have LR : ∀ q, q ≤ 8 → ∀ h5 E5, ax_fr (m + 5) (m + 6) h4 h5 → h5.2 (m + 5) = some (.inl (.float, 8, .inr (.inr (.inl E5)))) → (∀ i, i < q → E5 i = FP.fconst0) → WP Γ MX10_load (7, 150, 0, 0) 109 [some (.ref m), some (.int (nI q))] [] h5 Q := by
              refine ax_up 8 (fun q hq9 ih9 => ?_)
              intro h5 E5 f5 c5 z5
              have m5 := m4.fr f5 (by omega)
              have m5' := m5
              unfold ModC at m5'
              refine wp_iload_n (n := 110) dX10_load_109 rfl rfl ?_
              refine wp_bipush (n := 112) (v := nI 8) dX10_load_110 rfl (by decide) ?_
              refine wp_icmp_ge (t := 128) (n := 115) dX10_load_112 (by decide) rfl (fun hr9 => ?_) (fun hr9 => ?_)
              · rw [nI_le9 (by omega) (by omega)] at hr9
                obtain rfl : q = 8 := by omega
                have R05 := f5.get c4 (by omega)
                refine wp_aload_n (n := 129) dX10_load_128 rfl rfl ?_
                refine wp_getf (n := 132) dX10_load_129 rfl flX10_9 (by repeat first | assumption | exact ax_set_self _ _ _ | exact ax_newA_self _ _ _ | refine (ax_set_ne _ _ (by omega)).trans ?_ | refine (ax_newA_ne _ _ _ (by omega)).trans ?_) (by rfl) ?_
                refine wp_iconst (n := 133) (v := nI 1) dX10_load_132 rfl (by decide) ?_
                refine wp_iald (n := 134) _ dX10_load_133 rfl (by repeat first | assumption | exact ax_set_self _ _ _ | exact ax_newA_self _ _ _ | refine (ax_set_ne _ _ (by omega)).trans ?_ | refine (ax_newA_ne _ _ _ (by omega)).trans ?_) rfl (by omega) (by decide) ?_
                rw [show R4 1 = nI np from (e4 1 (by omega)).trans hr.1.2.1]
                refine wp_ireturn dX10_load_134 rfl rfl (kO (mkK np qu ra re le ln nb pl tm ne rw bk 0 hw 0 cw t y) h5 R4 E5 hd hI (f5.1.trans (f4.1.trans (f3.1.trans f1.1))) (fun c n1 n2 n3 n4 n5 => (f5.2 c (by omega)).trans ((f4.2 c (by omega)).trans ((f3.2 c (by omega)).trans (f1.2 c n1 n3 n5)))) ⟨_, _, _, m5⟩ R05 (hr.same hI.1 e4) c5 (fun j hj => ?_) ⟨_, f5.get (f4.get c3 (by omega)) (by omega)⟩ ⟨_, f5.get (f4.get p3 (by omega)) (by omega)⟩)
                have hj : j < np := hj
                have hn8 := hI.1.2.1
                exact (z5 j (by omega)).trans (hre j hj).symm
              · rw [nI_le9 (by omega) (by omega)] at hr9
                refine wp_aload_n (n := 116) dX10_load_115 rfl rfl ?_
                refine wp_getf (n := 119) dX10_load_116 rfl flX10_22 (by repeat first | assumption | exact ax_set_self _ _ _ | exact ax_newA_self _ _ _ | refine (ax_set_ne _ _ (by omega)).trans ?_ | refine (ax_newA_ne _ _ _ (by omega)).trans ?_) (by rfl) ?_
                refine wp_iload_n (n := 120) dX10_load_119 rfl rfl ?_
                refine wp_fconst0 (n := 121) dX10_load_120 rfl ?_
                refine wp_fast (n := 122) q dX10_load_121 rfl c5 (by omega) rfl (by omega) (by omega) ?_
                refine wp_iinc (n := 125) dX10_load_122 rfl rfl (nI_inc q) rfl rfl rfl ?_
                refine wp_goto (t := 109) dX10_load_125 (by decide) ?_
                refine ih9 (by omega) _ _ (f5.put (by omega)) (ax_set_self _ _ _) (fun i hi => ?_)
                by_cases e : i = q
                · exact if_pos e
                · exact (if_neg e).trans (z5 i (by omega))
            exact LR 0 (Nat.zero_le _) h4 RE ax_fr.rf E04 (fun i hi => absurd hi (Nat.not_lt_zero _))
          · exact absurd rfl hq
        · exact absurd rfl hc
      · show WP Γ _ _ _ _ _ _ _
        rw [if_neg k1, if_neg k2] at hd
        refine wp_if_eq (t := 66) (n := 59) dX10_load_56 (by decide) rfl (fun hc => ?_) (fun hc => ?_)
        · exact E66 _ _ hd h2 (f1.tr (fr3.of f2 (by omega))) m2 ⟨_, f2.get c1 (by omega)⟩ ⟨_, f2.get p1 (by omega)⟩
        · exact absurd rfl hc
  unfold ModC at hM
  refine wp_aload_n (n := 1) dX10_load_0 rfl rfl ?_
  refine wp_iconst (n := 2) (v := 0) dX10_load_1 rfl (by decide) ?_
  refine wp_putf (n := 5) dX10_load_2 rfl flX10_50 (by repeat first | assumption | exact ax_set_self _ _ _ | exact ax_newA_self _ _ _ | refine (ax_set_ne _ _ (by omega)).trans ?_ | refine (ax_newA_ne _ _ _ (by omega)).trans ?_) (by omega) (by rfl) rfl rfl ?_
  refine wp_aload_n (n := 6) dX10_load_5 rfl rfl ?_
  refine wp_iconst (n := 7) (v := 0) dX10_load_6 rfl (by decide) ?_
  refine wp_putf (n := 10) dX10_load_7 rfl flX10_157 (by repeat first | assumption | exact ax_set_self _ _ _ | exact ax_newA_self _ _ _ | refine (ax_set_ne _ _ (by omega)).trans ?_ | refine (ax_newA_ne _ _ _ (by omega)).trans ?_) (by omega) (by rfl) rfl rfl ?_
  refine wp_aload_n (n := 11) dX10_load_10 rfl rfl ?_
  refine wp_iconst (n := 12) (v := 0) dX10_load_11 rfl (by decide) ?_
  refine wp_putf (n := 15) dX10_load_12 rfl flX10_167 (by repeat first | assumption | exact ax_set_self _ _ _ | exact ax_newA_self _ _ _ | refine (ax_set_ne _ _ (by omega)).trans ?_ | refine (ax_newA_ne _ _ _ (by omega)).trans ?_) (by omega) (by rfl) rfl rfl ?_
  have f0 : ax_fr m (m + 1) h (ax_set (ax_set (ax_set h m (.inr (10, [.ref (m + 1), .ref (m + 2), .ref (m + 3), .ref (m + 4), .ref (m + 5), .ref (m + 6), .ref (m + 7), .ref (m + 8), .int 0, .ref (m + 9), .ref (m + 10), .int (nI len), .int at', .int bg, .int er, .int ea, .int lr, .ref (m + 11), .int cm]))) m (.inr (10, [.ref (m + 1), .ref (m + 2), .ref (m + 3), .ref (m + 4), .ref (m + 5), .ref (m + 6), .ref (m + 7), .ref (m + 8), .int 0, .ref (m + 9), .ref (m + 10), .int (nI len), .int 0, .int bg, .int er, .int ea, .int lr, .ref (m + 11), .int cm]))) m (.inr (10, [.ref (m + 1), .ref (m + 2), .ref (m + 3), .ref (m + 4), .ref (m + 5), .ref (m + 6), .ref (m + 7), .ref (m + 8), .int 0, .ref (m + 9), .ref (m + 10), .int (nI len), .int 0, .int bg, .int 0, .int ea, .int lr, .ref (m + 11), .int cm]))) := ((ax_fr.set (lo := m) (hi := m + 1) (by omega)).put (by omega)).put (by omega)
  have m0 : ModC (ax_set (ax_set (ax_set h m (.inr (10, [.ref (m + 1), .ref (m + 2), .ref (m + 3), .ref (m + 4), .ref (m + 5), .ref (m + 6), .ref (m + 7), .ref (m + 8), .int 0, .ref (m + 9), .ref (m + 10), .int (nI len), .int at', .int bg, .int er, .int ea, .int lr, .ref (m + 11), .int cm]))) m (.inr (10, [.ref (m + 1), .ref (m + 2), .ref (m + 3), .ref (m + 4), .ref (m + 5), .ref (m + 6), .ref (m + 7), .ref (m + 8), .int 0, .ref (m + 9), .ref (m + 10), .int (nI len), .int 0, .int bg, .int er, .int ea, .int lr, .ref (m + 11), .int cm]))) m (.inr (10, [.ref (m + 1), .ref (m + 2), .ref (m + 3), .ref (m + 4), .ref (m + 5), .ref (m + 6), .ref (m + 7), .ref (m + 8), .int 0, .ref (m + 9), .ref (m + 10), .int (nI len), .int 0, .int bg, .int 0, .int ea, .int lr, .ref (m + 11), .int cm]))) m (m + 1) 0 (nI len) (nI 0) bg 0 ea lr cm := ax_set_self _ _ _
  generalize ax_set (ax_set (ax_set h m (.inr (10, [.ref (m + 1), .ref (m + 2), .ref (m + 3), .ref (m + 4), .ref (m + 5), .ref (m + 6), .ref (m + 7), .ref (m + 8), .int 0, .ref (m + 9), .ref (m + 10), .int (nI len), .int at', .int bg, .int er, .int ea, .int lr, .ref (m + 11), .int cm]))) m (.inr (10, [.ref (m + 1), .ref (m + 2), .ref (m + 3), .ref (m + 4), .ref (m + 5), .ref (m + 6), .ref (m + 7), .ref (m + 8), .int 0, .ref (m + 9), .ref (m + 10), .int (nI len), .int 0, .int bg, .int er, .int ea, .int lr, .ref (m + 11), .int cm]))) m (.inr (10, [.ref (m + 1), .ref (m + 2), .ref (m + 3), .ref (m + 4), .ref (m + 5), .ref (m + 6), .ref (m + 7), .ref (m + 8), .int 0, .ref (m + 9), .ref (m + 10), .int (nI len), .int 0, .int bg, .int 0, .int ea, .int lr, .ref (m + 11), .int cm])) = h0 at *
  have m0' := m0
  unfold ModC at m0'
  have hU0 := f0.get hU (by omega)
  have hC0 := f0.get hC (by omega)
  have hP0 := f0.get hP9 (by omega)
  obtain ⟨a1, a2⟩ := tS_le (bs := bs) (len := len) (b := 0) (Nat.zero_le _)
  obtain ⟨b1, b2⟩ := tA_le (bs := bs) a2
  refine wp_aload_n (n := 16) dX10_load_15 rfl rfl ?_
  refine wp_callV0 (n := 19) (rm' := (2, 40, 0, 0)) rfl dX10_load_16 rfl mlX10_198 (by repeat first | assumption | exact ax_set_self _ _ _ | exact ax_newA_self _ _ _ | refine (ax_set_ne _ _ (by omega)).trans ?_ | refine (ax_newA_ne _ _ _ (by omega)).trans ?_) rfl rfl rfl rfl rfl ?_
  refine s_X10_reads hA m0 hU0 hB hl (Nat.zero_le _) (fun h1 f1 m1 => ?_)
  show WP Γ _ _ _ _ _ _ _
  have m1' := m1
  unfold ModC at m1'
  have hU1 := f1.get hU0 (by omega)
  have hC1 := f1.get hC0 (by omega)
  have hP1 := f1.get hP0 (by omega)
  have F1 := (fr3.of (m := m) f0 (by omega)).tr (fr3.of f1 (by omega))
  refine wp_aload_n (n := 20) dX10_load_19 rfl rfl ?_
  refine wp_ldcS (n := 22) 29 dX10_load_20 rfl rfl ?_
  refine wp_callV1 (n := 25) (rm' := (4, 85, 0, 0)) rfl dX10_load_22 rfl mlX10_207 (by repeat first | assumption | exact ax_set_self _ _ _ | exact ax_newA_self _ _ _ | refine (ax_set_ne _ _ (by omega)).trans ?_ | refine (ax_newA_ne _ _ _ (by omega)).trans ?_) rfl rfl rfl rfl rfl ?_
  refine s_X10_isW 29 w_blocks rfl rfl rfl (by decide) m1 hU1 hB hl b1 b2 ?_
  show WP Γ _ _ _ _ _ _ _
  refine wp_if_ne (t := 37) (n := 28) dX10_load_25 (by decide) rfl (fun hc => ?_) (fun hc => ?_)
  · have n1 := bI_ne hc
    have hlt : tS bs len 0 < tA bs len (tS bs len 0) := by
      have h9 : tA bs len (tS bs len 0) - tS bs len 0 = 6 := (of_decide_eq_true n1).1
      omega
    rcases rdW_or (bs := bs) (len := len) (b := 0) (Nat.zero_le _) with ⟨q1, q2⟩ | ⟨q1, q2⟩
    · omega
    · have eB : blkR bs len 0 = rdN bs len (tA bs len (tS bs len 0)) (nI 1) (nI 200) := (mrR_r q1).trans (by simp only [n1, if_true])
      refine wp_aload_n (n := 38) dX10_load_37 rfl rfl ?_
      refine wp_getf (n := 41) dX10_load_38 rfl flX10_13 (by repeat first | assumption | exact ax_set_self _ _ _ | exact ax_newA_self _ _ _ | refine (ax_set_ne _ _ (by omega)).trans ?_ | refine (ax_newA_ne _ _ _ (by omega)).trans ?_) (by rfl) ?_
      refine wp_aload_n (n := 42) dX10_load_41 rfl rfl ?_
      refine wp_iconst (n := 43) (v := nI 1) dX10_load_42 rfl (by decide) ?_
      refine wp_sipush (n := 46) (v := nI 200) dX10_load_43 rfl (by decide) ?_
      refine wp_callV2 (n := 49) (rm' := (2, 60, 0, 0)) rfl dX10_load_46 rfl mlX10_211 (by repeat first | assumption | exact ax_set_self _ _ _ | exact ax_newA_self _ _ _ | refine (ax_set_ne _ _ (by omega)).trans ?_ | refine (ax_newA_ne _ _ _ (by omega)).trans ?_) rfl rfl rfl rfl rfl ?_
      refine s_X10_number hA m1 hU1 hB hl b2 (by decide) (fun e pos h2 q3 f2 m2 => ?_) (fun u w h2 q3 g1 g2 g3 g4 f2 m2 => ?_)
      · show WP Γ _ _ _ _ _ _ _
        obtain ⟨ne0, at2, bg2, m2⟩ := m2
        have eB := eB.trans q3
        have ho : out = .inl (e, pos) := by
          rcases hD with ⟨e9, d1, d2⟩ | ⟨v, w, K, d1, _⟩
          · rw [eB] at d1; cases d1; exact d2
          · rw [eB] at d1; cases d1
        refine wp_callS2 (n := 52) (rm' := (0, 0, 0, 0)) rfl dX10_load_49 rfl mlX10_46 rfl rfl rfl rfl ?_
        refine s_X10_begins (f2.get hC1 (by omega)) (by omega) (fun h3 R3 f3 c3 z3 => ?_)
        show WP Γ _ _ _ _ _ _ _
        exact E52 e pos ho h3 ((F1.tr (fr3.of f2 (by omega))).tr (fr3.of f3 (by omega))) ⟨ne0, _, _, m2.fr f3 (by omega)⟩ ⟨_, c3⟩ ⟨_, f3.get (f2.get hP1 (by omega)) (by omega)⟩
      · show WP Γ _ _ _ _ _ _ _
        have eB := eB.trans q3
        obtain ⟨bg2, ea2, m2⟩ := m2
        rcases hD with ⟨e9, d1, d2⟩ | ⟨v, w9, K, d1, d2, d3, d4, d5, d6, d7⟩
        · rw [eB] at d1; cases d1
        · rw [eB] at d1
          simp only [Sum.inr.injEq, Prod.mk.injEq] at d1
          obtain ⟨e1, rfl⟩ := d1
          rw [e1]
          refine wp_callS2 (n := 52) (rm' := (0, 0, 0, 0)) rfl dX10_load_49 rfl mlX10_46 rfl rfl rfl rfl ?_
          refine s_X10_begins (f2.get hC1 (by omega)) (by omega) (fun h3 R3 f3 c3 z3 => ?_)
          show WP Γ _ _ _ _ _ _ _
          obtain ⟨k1, k2, k3, k4⟩ := beg_row z3 d2 d3 d6
          obtain ⟨qu, ra, re, le, ln, rw, bk, hw, cw, fn, pl, tm, n0, n1, n2, n3, hp, rfl⟩ := d6
          refine L (len + 1) w _ _ _ _ _ _ _ _ _ _ _ _ _ _ _ _ h3 R3 d7 (by omega) d5 ((F1.tr (fr3.of f2 (by omega))).tr (fr3.of f3 (by omega))) ⟨_, _, m2.fr f3 (by omega)⟩ c3 ⟨_, f3.get (f2.get hP1 (by omega)) (by omega)⟩ k1 k2 (fun j hj => ?_)
          obtain rfl : j = 0 := by omega
          exact k3
  · have n1 := bI_eq hc
    have eB : blkR bs len 0 = .inl (nI 1, tS bs len 0) := by
      rcases rdW_or (bs := bs) (len := len) (b := 0) (Nat.zero_le _) with ⟨q1, q2⟩ | ⟨q1, q2⟩
      · exact mrR_l q1
      · exact (mrR_r q1).trans (by simp only [n1]; rfl)
    have ho : out = .inl (nI 1, tS bs len 0) := by
      rcases hD with ⟨e9, d1, d2⟩ | ⟨v, w, K, d1, _⟩
      · rw [eB] at d1; cases d1; exact d2
      · rw [eB] at d1; cases d1
    refine wp_aload_n (n := 29) dX10_load_28 rfl rfl ?_
    refine wp_iconst (n := 30) (v := nI 1) dX10_load_29 rfl (by decide) ?_
    refine wp_aload_n (n := 31) dX10_load_30 rfl rfl ?_
    refine wp_getf (n := 34) dX10_load_31 rfl flX10_164 (by repeat first | assumption | exact ax_set_self _ _ _ | exact ax_newA_self _ _ _ | refine (ax_set_ne _ _ (by omega)).trans ?_ | refine (ax_newA_ne _ _ _ (by omega)).trans ?_) (by rfl) ?_
    refine wp_callV2 (n := 37) (rm' := (0, 0, 0, 0)) rfl dX10_load_34 rfl mlX10_184 (by repeat first | assumption | exact ax_set_self _ _ _ | exact ax_newA_self _ _ _ | refine (ax_set_ne _ _ (by omega)).trans ?_ | refine (ax_newA_ne _ _ _ (by omega)).trans ?_) rfl rfl rfl rfl rfl ?_
    refine s_X10_fails0 m1 hA (fun h2 f2 m2 => ?_)
    show WP Γ _ _ _ _ _ _ _
    have m2' := m2
    unfold ModC at m2'
    refine wp_aload_n (n := 38) dX10_load_37 rfl rfl ?_
    refine wp_getf (n := 41) dX10_load_38 rfl flX10_13 (by repeat first | assumption | exact ax_set_self _ _ _ | exact ax_newA_self _ _ _ | refine (ax_set_ne _ _ (by omega)).trans ?_ | refine (ax_newA_ne _ _ _ (by omega)).trans ?_) (by rfl) ?_
    refine wp_aload_n (n := 42) dX10_load_41 rfl rfl ?_
    refine wp_iconst (n := 43) (v := nI 1) dX10_load_42 rfl (by decide) ?_
    refine wp_sipush (n := 46) (v := nI 200) dX10_load_43 rfl (by decide) ?_
    refine wp_callV2 (n := 49) (rm' := (2, 60, 0, 0)) rfl dX10_load_46 rfl mlX10_211 (by repeat first | assumption | exact ax_set_self _ _ _ | exact ax_newA_self _ _ _ | refine (ax_set_ne _ _ (by omega)).trans ?_ | refine (ax_newA_ne _ _ _ (by omega)).trans ?_) rfl rfl rfl rfl rfl ?_
    refine s_X10_numberE m2 (by decide) ?_
    show WP Γ _ _ _ _ _ _ _
    refine wp_callS2 (n := 52) (rm' := (0, 0, 0, 0)) rfl dX10_load_49 rfl mlX10_46 rfl rfl rfl rfl ?_
    refine s_X10_begins (f2.get hC1 (by omega)) (by omega) (fun h3 R3 f3 c3 z3 => ?_)
    show WP Γ _ _ _ _ _ _ _
    exact E52 _ _ ho h3 ((F1.tr (fr3.of f2 (by omega))).tr (fr3.of f3 (by omega))) ⟨by decide, _, _, m2.fr f3 (by omega)⟩ ⟨_, c3⟩ ⟨_, f3.get (f2.get hP1 (by omega)) (by omega)⟩

end
