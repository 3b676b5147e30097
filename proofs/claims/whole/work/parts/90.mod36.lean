/-! ===== the reference: pool ===== -/
section
variable {Γ : GE} {h : AH} {Q : PO} {m a len b s0 np nb ne nh nc y : Nat} {bs B R qu ra le ln pl tm rw hw cw pk : FI} {re : Nat → UInt32} {bk : Nat → Int64} {t x z w th bg er ea lr cm : Int32}

theorem RowR.pool {R' : FI} {s l u v : Nat} (h : RowR R np qu ra re le ln nb pl tm ne rw bk 0 hw 0 cw t y) (hS : InvS np nb ne 0 0 y t) (hn : np < 8) (h1 : 1 ≤ l) (h6 : l ≤ 6) (e1 : R' 1 = nI (np + 1)) (eq : R' (407 + 8 * np + 0) = nI u) (er : R' (407 + 8 * np + 1) = nI v) (el : ∀ i, i < 6 → R' (407 + 8 * np + 2 + i) = if i < l then bs (s + i) else 0) (eo : ∀ u, ¬ u = 1 → (u < 407 + 8 * np ∨ 407 + 8 * np + 8 ≤ u) → R' u = R u) : RowR R' (np + 1) (upd qu np (nI u)) (upd ra np (nI v)) (vf_upd re np FP.fconst0) (opnL le bs np s l) (upd ln np (nI l)) nb pl tm ne rw bk 0 hw 0 cw t y := by
  obtain ⟨i1, i2, i3, i4, i5, i6, i7, i8, i9⟩ := hS
  obtain ⟨⟨r0, r1, r2, r3, r4, r5, r6⟩, rM, rP, rJ, rH, rC⟩ := h
  refine ⟨⟨(eo 0 (by omega) (by omega)).trans r0, e1, (eo 2 (by omega) (by omega)).trans r2, (eo 3 (by omega) (by omega)).trans r3, (eo 4 (by omega) (by omega)).trans r4, (eo 5 (by omega) (by omega)).trans r5, (eo 6 (by omega) (by omega)).trans r6⟩, fun d hd => ⟨(eo _ (by omega) (by omega)).trans (rM d hd).1, (eo _ (by omega) (by omega)).trans (rM d hd).2⟩, fun j hj => ?_, fun e he => ⟨fun q hq => (eo _ (by omega) (by omega)).trans ((rJ e he).1 q hq), fun d hd => by rw [eo _ (by omega) (by omega)]; exact (rJ e he).2 d hd⟩, fun r hr => absurd hr (Nat.not_lt_zero _), fun c hc => absurd hc (Nat.not_lt_zero _)⟩
  by_cases q : j = np
  · subst q
    refine ⟨eq.trans (if_pos rfl).symm, er.trans (if_pos rfl).symm, fun i hi => ?_⟩
    rw [el i hi, show upd ln j (nI l) j = nI l from if_pos rfl]
    by_cases q2 : i < l
    · rw [if_pos q2, if_pos ((nI_lt9 (by omega) (by omega)).mpr q2)]
      unfold opnL
      rw [if_pos (by omega)]
      congr 1
      omega
    · rw [if_neg q2, if_neg (fun z => q2 ((nI_lt9 (by omega) (by omega)).mp z))]
  · refine ⟨?_, ?_, fun i hi => ?_⟩
    · rw [eo _ (by omega) (by omega), show upd qu np (nI u) j = qu j from if_neg q]; exact (rP j (by omega)).1
    · rw [eo _ (by omega) (by omega), show upd ra np (nI v) j = ra j from if_neg q]; exact (rP j (by omega)).2.1
    · rw [eo _ (by omega) (by omega), show upd ln np (nI l) j = ln j from if_neg q, (rP j (by omega)).2.2 i hi]
      unfold opnL
      rw [if_neg (show ¬ (np * 6 ≤ j * 6 + i ∧ j * 6 + i < np * 6 + min l 6) by omega)]
theorem s_X10_poolPart (hM : ModC h m a th (nI len) (nI b) (nI s0) 0 ea lr cm) (hA : Γ.2.1 ≤ m) (hU : h.2 (m + 10) = some (.inl (.byte, 500, .inl B))) (hB : BufR bs B len) (hl : len ≤ 500) (hb : b ≤ len) (hC : h.2 (m + 2) = some (.inl (.int, 5061, .inl R))) (hP9 : h.2 (m + 9) = some (.inl (.boolean, 200, .inl pk))) (hr : RowR R np qu ra re le ln nb pl tm ne rw bk 0 hw 0 cw t y) (hI : InvP np qu ra re le ln) (hS : InvS np nb ne 0 0 y t)
    (kF : ∀ e pos h', polR np le ln bs len s0 b = .inl (e, pos) → PE h h' m a th (nI len) e pos lr cm → Q (.inl none) h')
    (kO : ∀ s l u v w h' R', polR np le ln bs len s0 b = .inr (s, l, nI u, nI v, w) → b < w → w ≤ len → PG h h' m a th (nI len) w lr cm R' → RowR R' (np + 1) (upd qu np (nI u)) (upd ra np (nI v)) (vf_upd re np FP.fconst0) (opnL le bs np s l) (upd ln np (nI l)) nb pl tm ne rw bk 0 hw 0 cw t y → Q (.inl none) h') : WP Γ MX10_poolPart (5, 108, 0, 0) 0 [some (.ref m), none, none] [] h Q := by
  have hM0 := hM
  unfold ModC at hM
  have hr0 := hr
  obtain ⟨⟨r0, r1, r2, r3, r4, r5, r6⟩, rM, rP, rJ, rH, rC⟩ := hr
  have hn8 := hS.2.1
  obtain ⟨a1, a2⟩ := tS_le (bs := bs) hb
  obtain ⟨b1, b2⟩ := tA_le (bs := bs) a2
  have E190 : ∀ e pos, polR np le ln bs len s0 b = .inl (e, pos) → ∀ h1 R1 q2, fr3 m h h1 → ModE h1 m a th (nI len) e pos lr cm → h1.2 (m + 2) = some (.inl (.int, 5061, .inl R1)) → (∃ pk', h1.2 (m + 9) = some (.inl (.boolean, 200, .inl pk'))) → WP Γ MX10_poolPart (5, 108, 0, 0) 190 [some (.ref m), some (.int (nI (407 + 8 * np))), q2] [] h1 Q := by
    intro e pos hp h1 R1 q2 f1 m1 c1 p1
    obtain ⟨ne0, at1, bg1, m1⟩ := m1
    obtain ⟨pk1, p1⟩ := p1
    have m1' := m1
    unfold ModC at m1'
    refine wp_aload_n (n := 191) dX10_poolPart_190 rfl rfl ?_
    refine wp_getf (n := 194) dX10_poolPart_191 rfl flX10_13 (by repeat first | assumption | exact ax_set_self _ _ _ | exact ax_newA_self _ _ _ | refine (ax_set_ne _ _ (by omega)).trans ?_ | refine (ax_newA_ne _ _ _ (by omega)).trans ?_) (by rfl) ?_
    refine wp_iconst (n := 195) (v := nI 1) dX10_poolPart_194 rfl (by decide) ?_
    refine wp_dup2 (n := 196) dX10_poolPart_195 rfl rfl rfl ?_
    refine wp_iald (n := 197) _ dX10_poolPart_196 rfl (by repeat first | assumption | exact ax_set_self _ _ _ | exact ax_newA_self _ _ _ | refine (ax_set_ne _ _ (by omega)).trans ?_ | refine (ax_newA_ne _ _ _ (by omega)).trans ?_) rfl (by omega) (by decide) ?_
    refine wp_iconst (n := 198) (v := nI 1) dX10_poolPart_197 rfl (by decide) ?_
    refine wp_iadd (n := 199) dX10_poolPart_198 rfl ?_
    refine wp_iast (n := 200) _ dX10_poolPart_199 rfl (by repeat first | assumption | exact ax_set_self _ _ _ | exact ax_newA_self _ _ _ | refine (ax_set_ne _ _ (by omega)).trans ?_ | refine (ax_newA_ne _ _ _ (by omega)).trans ?_) (by omega) rfl (by omega) (by decide) ?_
    exact wp_return dX10_poolPart_200 rfl (kF e pos _ hp ⟨f1.tr (fr3.of (ax_fr.set (lo := m + 2) (hi := m + 3) (by omega)) (by omega)), ⟨ne0, _, _, (ax_set_ne _ _ (by omega)).trans m1⟩, ⟨_, ax_set_self _ _ _⟩, _, (ax_set_ne _ _ (by omega)).trans p1⟩)
  have E174 : ∀ e pos, polR np le ln bs len s0 b = .inl (e, pos) → np < 8 → ∀ h1 R1 q2, fr3 m h h1 → ModE h1 m a th (nI len) e pos lr cm → h1.2 (m + 2) = some (.inl (.int, 5061, .inl R1)) → (∃ pk', h1.2 (m + 9) = some (.inl (.boolean, 200, .inl pk'))) → WP Γ MX10_poolPart (5, 108, 0, 0) 174 [some (.ref m), some (.int (nI (407 + 8 * np))), q2] [] h1 Q := by
    intro e pos hp hn h1 R1 q2 f1 m1 c1 p1
    obtain ⟨ne0, at1, bg1, m1⟩ := m1
    obtain ⟨pk1, p1⟩ := p1
    have m1' := m1
    unfold ModC at m1'
    refine wp_aload_n (n := 175) dX10_poolPart_174 rfl rfl ?_
    refine wp_getf (n := 178) dX10_poolPart_175 rfl flX10_13 (by repeat first | assumption | exact ax_set_self _ _ _ | exact ax_newA_self _ _ _ | refine (ax_set_ne _ _ (by omega)).trans ?_ | refine (ax_newA_ne _ _ _ (by omega)).trans ?_) (by rfl) ?_
    refine wp_iload_n (n := 179) dX10_poolPart_178 rfl rfl ?_
    refine wp_iconst (n := 180) (v := nI 1) dX10_poolPart_179 rfl (by decide) ?_
    refine wp_iadd (n := 181) dX10_poolPart_180 rfl ?_
    refine wp_aload_n (n := 182) dX10_poolPart_181 rfl rfl ?_
    refine wp_iconst (n := 183) (v := 0) dX10_poolPart_182 rfl (by decide) ?_
    refine wp_sipush (n := 186) (v := nI 9999) dX10_poolPart_183 rfl (by decide) ?_
    refine wp_callV2 (n := 189) (rm' := (2, 60, 0, 0)) rfl dX10_poolPart_186 rfl mlX10_211 (by repeat first | assumption | exact ax_set_self _ _ _ | exact ax_newA_self _ _ _ | refine (ax_set_ne _ _ (by omega)).trans ?_ | refine (ax_newA_ne _ _ _ (by omega)).trans ?_) rfl rfl rfl rfl rfl ?_
    refine s_X10_numberE m1 ne0 ?_
    show WP Γ _ _ _ _ _ _ _
    refine wp_iast (n := 190) (407 + 8 * np + 1) dX10_poolPart_189 rfl (by repeat first | assumption | exact ax_set_self _ _ _ | exact ax_newA_self _ _ _ | refine (ax_set_ne _ _ (by omega)).trans ?_ | refine (ax_newA_ne _ _ _ (by omega)).trans ?_) (by omega) (by simp only [nI_zero, nI_mul, nI_add]) (by omega) (by omega) ?_
    exact E190 e pos hp _ _ _ (f1.tr (fr3.of (ax_fr.set (lo := m + 2) (hi := m + 3) (by omega)) (by omega))) ⟨ne0, _, _, (ax_set_ne _ _ (by omega)).trans m1⟩ (ax_set_self _ _ _) ⟨_, (ax_set_ne _ _ (by omega)).trans p1⟩
  have E85 : ∀ e pos, polR np le ln bs len s0 b = .inl (e, pos) → np < 8 → ∀ h1, fr3 m h h1 → ModE h1 m a th (nI len) e pos lr cm → h1.2 (m + 2) = some (.inl (.int, 5061, .inl R)) → (∃ pk', h1.2 (m + 9) = some (.inl (.boolean, 200, .inl pk'))) → WP Γ MX10_poolPart (5, 108, 0, 0) 85 [some (.ref m), none, none] [] h1 Q := by
    intro e pos hp hn h1 f1 m1 c1 p1
    obtain ⟨ne0, at1, bg1, m1⟩ := m1
    obtain ⟨pk1, p1⟩ := p1
    have m1' := m1
    unfold ModC at m1'
    refine wp_sipush (n := 88) (v := nI 407) dX10_poolPart_85 rfl (by decide) ?_
    refine wp_bipush (n := 90) (v := nI 8) dX10_poolPart_88 rfl (by decide) ?_
    refine wp_aload_n (n := 91) dX10_poolPart_90 rfl rfl ?_
    refine wp_getf (n := 94) dX10_poolPart_91 rfl flX10_13 (by repeat first | assumption | exact ax_set_self _ _ _ | exact ax_newA_self _ _ _ | refine (ax_set_ne _ _ (by omega)).trans ?_ | refine (ax_newA_ne _ _ _ (by omega)).trans ?_) (by rfl) ?_
    refine wp_iconst (n := 95) (v := nI 1) dX10_poolPart_94 rfl (by decide) ?_
    refine wp_iald (n := 96) _ dX10_poolPart_95 rfl (by repeat first | assumption | exact ax_set_self _ _ _ | exact ax_newA_self _ _ _ | refine (ax_set_ne _ _ (by omega)).trans ?_ | refine (ax_newA_ne _ _ _ (by omega)).trans ?_) rfl (by omega) (by decide) ?_
    rw [r1]
    refine wp_imul (n := 97) dX10_poolPart_96 rfl ?_
    refine wp_iadd (n := 98) dX10_poolPart_97 rfl ?_
    rw [nI_mul, nI_add]
    refine wp_istore_n (n := 99) dX10_poolPart_98 rfl rfl rfl rfl ?_
    refine wp_iconst (n := 100) (v := 0) dX10_poolPart_99 rfl (by decide) ?_
    refine wp_istore_n (n := 101) dX10_poolPart_100 rfl rfl rfl rfl ?_
    refine wp_aload_n (n := 102) dX10_poolPart_101 rfl rfl ?_
    refine wp_getf (n := 105) dX10_poolPart_102 rfl flX10_167 (by repeat first | assumption | exact ax_set_self _ _ _ | exact ax_newA_self _ _ _ | refine (ax_set_ne _ _ (by omega)).trans ?_ | refine (ax_newA_ne _ _ _ (by omega)).trans ?_) (by rfl) ?_
    refine wp_if_ne (t := 158) (n := 108) dX10_poolPart_105 (by decide) rfl (fun hc => ?_) (fun hc => ?_)
    · refine wp_aload_n (n := 159) dX10_poolPart_158 rfl rfl ?_
      refine wp_getf (n := 162) dX10_poolPart_159 rfl flX10_13 (by repeat first | assumption | exact ax_set_self _ _ _ | exact ax_newA_self _ _ _ | refine (ax_set_ne _ _ (by omega)).trans ?_ | refine (ax_newA_ne _ _ _ (by omega)).trans ?_) (by rfl) ?_
      refine wp_iload_n (n := 163) dX10_poolPart_162 rfl rfl ?_
      refine wp_iconst (n := 164) (v := 0) dX10_poolPart_163 rfl (by decide) ?_
      refine wp_iadd (n := 165) dX10_poolPart_164 rfl ?_
      refine wp_aload_n (n := 166) dX10_poolPart_165 rfl rfl ?_
      refine wp_iconst (n := 167) (v := 0) dX10_poolPart_166 rfl (by decide) ?_
      refine wp_sipush (n := 170) (v := nI 200) dX10_poolPart_167 rfl (by decide) ?_
      refine wp_callV2 (n := 173) (rm' := (2, 60, 0, 0)) rfl dX10_poolPart_170 rfl mlX10_211 (by repeat first | assumption | exact ax_set_self _ _ _ | exact ax_newA_self _ _ _ | refine (ax_set_ne _ _ (by omega)).trans ?_ | refine (ax_newA_ne _ _ _ (by omega)).trans ?_) rfl rfl rfl rfl rfl ?_
      refine s_X10_numberE m1 ne0 ?_
      show WP Γ _ _ _ _ _ _ _
      refine wp_iast (n := 174) (407 + 8 * np) dX10_poolPart_173 rfl c1 (by omega) (by rw [nI_zero, nI_add, Nat.add_zero]) (by omega) (by omega) ?_
      exact E174 e pos hp hn _ _ _ (f1.tr (fr3.of (ax_fr.set (lo := m + 2) (hi := m + 3) (by omega)) (by omega))) ⟨ne0, _, _, (ax_set_ne _ _ (by omega)).trans m1⟩ (ax_set_self _ _ _) ⟨_, (ax_set_ne _ _ (by omega)).trans p1⟩
    · exact absurd hc ne0
  refine wp_aload_n (n := 1) dX10_poolPart_0 rfl rfl ?_
  refine wp_getf (n := 4) dX10_poolPart_1 rfl flX10_13 (by repeat first | assumption | exact ax_set_self _ _ _ | exact ax_newA_self _ _ _ | refine (ax_set_ne _ _ (by omega)).trans ?_ | refine (ax_newA_ne _ _ _ (by omega)).trans ?_) (by rfl) ?_
  refine wp_iconst (n := 5) (v := nI 1) dX10_poolPart_4 rfl (by decide) ?_
  refine wp_iald (n := 6) _ dX10_poolPart_5 rfl (by repeat first | assumption | exact ax_set_self _ _ _ | exact ax_newA_self _ _ _ | refine (ax_set_ne _ _ (by omega)).trans ?_ | refine (ax_newA_ne _ _ _ (by omega)).trans ?_) rfl (by omega) (by decide) ?_
  rw [r1]
  refine wp_bipush (n := 8) (v := nI 8) dX10_poolPart_6 rfl (by decide) ?_
  refine wp_icmp_ne (t := 21) (n := 11) dX10_poolPart_8 (by decide) rfl (fun hc => ?_) (fun hc => ?_)
  · have hn : np < 8 := by
      by_cases q : np = 8
      · exact absurd (by rw [q]) hc
      · omega
    have eP : polR np le ln bs len s0 b = mrR (rdW bs len b) fun q => if 6 < q.2 - q.1 ∨ wrdB bs q.1 (q.2 - q.1) w_free = true then .inl (nI 1, q.1) else if fstG (nameB le ln bs q.1 (q.2 - q.1)) np 0 = none then (mrR (rdN bs len q.2 0 (nI 200)) fun u => mrR (rdN bs len u.2 0 (nI 9999)) fun v => .inr (q.1, q.2 - q.1, u.1, v.1, v.2)) else .inl (nI 3, q.1) := if_neg (by omega)
    refine wp_aload_n (n := 22) dX10_poolPart_21 rfl rfl ?_
    refine wp_callV0 (n := 25) (rm' := (2, 40, 0, 0)) rfl dX10_poolPart_22 rfl mlX10_198 (by repeat first | assumption | exact ax_set_self _ _ _ | exact ax_newA_self _ _ _ | refine (ax_set_ne _ _ (by omega)).trans ?_ | refine (ax_newA_ne _ _ _ (by omega)).trans ?_) rfl rfl rfl rfl rfl ?_
    refine s_X10_reads hA hM0 hU hB hl hb (fun h1 f1 m1 => ?_)
    show WP Γ _ _ _ _ _ _ _
    have m1' := m1
    unfold ModC at m1'
    have hU1 := f1.get hU (by omega)
    have hC1 := f1.get hC (by omega)
    have hP1 := f1.get hP9 (by omega)
    have F1 := fr3.of (m := m) f1 (by omega)
    have bad1 : polR np le ln bs len s0 b = .inl (nI 1, tS bs len b) → WP Γ MX10_poolPart (5, 108, 0, 0) 52 [some (.ref m), none, none] [] h1 Q := by
      intro hp
      refine wp_aload_n (n := 53) dX10_poolPart_52 rfl rfl ?_
      refine wp_iconst (n := 54) (v := nI 1) dX10_poolPart_53 rfl (by decide) ?_
      refine wp_aload_n (n := 55) dX10_poolPart_54 rfl rfl ?_
      refine wp_getf (n := 58) dX10_poolPart_55 rfl flX10_164 (by repeat first | assumption | exact ax_set_self _ _ _ | exact ax_newA_self _ _ _ | refine (ax_set_ne _ _ (by omega)).trans ?_ | refine (ax_newA_ne _ _ _ (by omega)).trans ?_) (by rfl) ?_
      refine wp_callV2 (n := 61) (rm' := (0, 0, 0, 0)) rfl dX10_poolPart_58 rfl mlX10_184 (by repeat first | assumption | exact ax_set_self _ _ _ | exact ax_newA_self _ _ _ | refine (ax_set_ne _ _ (by omega)).trans ?_ | refine (ax_newA_ne _ _ _ (by omega)).trans ?_) rfl rfl rfl rfl rfl ?_
      refine s_X10_fails0 m1 hA (fun h2 f2 m2 => ?_)
      show WP Γ _ _ _ _ _ _ _
      refine wp_goto (t := 85) dX10_poolPart_61 (by decide) ?_
      exact E85 _ _ hp hn h2 (F1.tr (fr3.of f2 (by omega))) ⟨by decide, _, _, m2⟩ (f2.get hC1 (by omega)) ⟨_, f2.get hP1 (by omega)⟩
    refine wp_aload_n (n := 26) dX10_poolPart_25 rfl rfl ?_
    refine wp_getf (n := 29) dX10_poolPart_26 rfl flX10_157 (by repeat first | assumption | exact ax_set_self _ _ _ | exact ax_newA_self _ _ _ | refine (ax_set_ne _ _ (by omega)).trans ?_ | refine (ax_newA_ne _ _ _ (by omega)).trans ?_) (by rfl) ?_
    refine wp_aload_n (n := 30) dX10_poolPart_29 rfl rfl ?_
    refine wp_getf (n := 33) dX10_poolPart_30 rfl flX10_164 (by repeat first | assumption | exact ax_set_self _ _ _ | exact ax_newA_self _ _ _ | refine (ax_set_ne _ _ (by omega)).trans ?_ | refine (ax_newA_ne _ _ _ (by omega)).trans ?_) (by rfl) ?_
    refine wp_isub (n := 34) dX10_poolPart_33 rfl ?_
    rw [nI_sub b1]
    refine wp_iconst (n := 35) (v := nI 1) dX10_poolPart_34 rfl (by decide) ?_
    refine wp_bipush (n := 37) (v := nI 6) dX10_poolPart_35 rfl (by decide) ?_
    refine wp_callS3 (n := 40) (rm' := (0, 0, 0, 0)) rfl dX10_poolPart_37 rfl mlX10_54 rfl rfl rfl rfl ?_
    refine s_X10_inJ (p := 1) (q := 6) rfl rfl ?_
    show WP Γ _ _ _ _ _ _ _
    rcases rdW_or (bs := bs) hb with ⟨q1, q2⟩ | ⟨q1, q2⟩
    · rw [show tA bs len (tS bs len b) - tS bs len b = 0 by omega]
      refine wp_if_eq (t := 52) (n := 43) dX10_poolPart_40 (by decide) rfl (fun hq => ?_) (fun hq => ?_)
      · exact bad1 (eP.trans (mrR_l q1))
      · exact absurd (bI_ne hq) (by decide)
    · have eP := eP.trans (mrR_r q1)
      simp only at eP
      refine wp_if_eq (t := 52) (n := 43) dX10_poolPart_40 (by decide) rfl (fun hq => ?_) (fun hq => ?_)
      · refine bad1 (eP.trans (if_pos (Or.inl ?_)))
        have := of_decide_eq_false (bI_eq hq)
        by_cases q9 : 6 < tA bs len (tS bs len b) - tS bs len b
        · exact q9
        · exact absurd ⟨(nI_le9 (by omega) (by omega)).mpr (by omega), (nI_le9 (by omega) (by omega)).mpr (by omega)⟩ this
      · have h6 := (nI_le9 (by omega) (by omega)).mp (of_decide_eq_true (bI_ne hq)).2
        refine wp_aload_n (n := 44) dX10_poolPart_43 rfl rfl ?_
        refine wp_ldcS (n := 46) 31 dX10_poolPart_44 rfl rfl ?_
        refine wp_callV1 (n := 49) (rm' := (4, 85, 0, 0)) rfl dX10_poolPart_46 rfl mlX10_207 (by repeat first | assumption | exact ax_set_self _ _ _ | exact ax_newA_self _ _ _ | refine (ax_set_ne _ _ (by omega)).trans ?_ | refine (ax_newA_ne _ _ _ (by omega)).trans ?_) rfl rfl rfl rfl rfl ?_
        refine s_X10_isW 31 w_free rfl rfl rfl (by decide) m1 hU1 hB hl b1 b2 ?_
        show WP Γ _ _ _ _ _ _ _
        refine wp_if_eq (t := 64) (n := 52) dX10_poolPart_49 (by decide) rfl (fun hs => ?_) (fun hs => ?_)
        · have hs := bI_eq hs
          rw [if_neg (fun z => z.elim (by omega) (fun w => by rw [hs] at w; cases w))] at eP
          have al : ∀ i, tS bs len b ≤ i → i < tA bs len (tS bs len b) → isAl (bs i) = true := fun i h1 h2 => scn_all isAl bs _ _ i h1 h2
          refine wp_aload_n (n := 65) dX10_poolPart_64 rfl rfl ?_
          refine wp_aload_n (n := 66) dX10_poolPart_65 rfl rfl ?_
          refine wp_getf (n := 69) dX10_poolPart_66 rfl flX10_13 (by repeat first | assumption | exact ax_set_self _ _ _ | exact ax_newA_self _ _ _ | refine (ax_set_ne _ _ (by omega)).trans ?_ | refine (ax_newA_ne _ _ _ (by omega)).trans ?_) (by rfl) ?_
          refine wp_callV1 (n := 72) (rm' := (1, 24, 0, 0)) rfl dX10_poolPart_69 rfl mlX10_201 (by repeat first | assumption | exact ax_set_self _ _ _ | exact ax_newA_self _ _ _ | refine (ax_set_ne _ _ (by omega)).trans ?_ | refine (ax_newA_ne _ _ _ (by omega)).trans ?_) rfl rfl rfl rfl rfl ?_
          refine s_X10_findIn m1 hU1 hB hl hC1 r1 hn8 rP hI q2 b2 al ?_
          show WP Γ _ _ _ _ _ _ _
          refine wp_iconst (n := 73) (v := (-1)) dX10_poolPart_72 rfl (by decide) ?_
          cases hf : fstG (nameB le ln bs (tS bs len b) (tA bs len (tS bs len b) - tS bs len b)) np 0 with
          | some j =>
            rw [hf, if_neg (by simp)] at eP
            have hj := (fstG_some hf).2.1
            refine wp_icmp_eq (t := 85) (n := 76) dX10_poolPart_73 (by decide) rfl (fun hv => ?_) (fun hv => ?_)
            · exact absurd hv (nI_ne_neg (by omega))
            · refine wp_aload_n (n := 77) dX10_poolPart_76 rfl rfl ?_
              refine wp_iconst (n := 78) (v := nI 3) dX10_poolPart_77 rfl (by decide) ?_
              refine wp_aload_n (n := 79) dX10_poolPart_78 rfl rfl ?_
              refine wp_getf (n := 82) dX10_poolPart_79 rfl flX10_164 (by repeat first | assumption | exact ax_set_self _ _ _ | exact ax_newA_self _ _ _ | refine (ax_set_ne _ _ (by omega)).trans ?_ | refine (ax_newA_ne _ _ _ (by omega)).trans ?_) (by rfl) ?_
              refine wp_callV2 (n := 85) (rm' := (0, 0, 0, 0)) rfl dX10_poolPart_82 rfl mlX10_184 (by repeat first | assumption | exact ax_set_self _ _ _ | exact ax_newA_self _ _ _ | refine (ax_set_ne _ _ (by omega)).trans ?_ | refine (ax_newA_ne _ _ _ (by omega)).trans ?_) rfl rfl rfl rfl rfl ?_
              refine s_X10_fails0 m1 hA (fun h2 f2 m2 => ?_)
              show WP Γ _ _ _ _ _ _ _
              exact E85 _ _ eP hn h2 (F1.tr (fr3.of f2 (by omega))) ⟨by decide, _, _, m2⟩ (f2.get hC1 (by omega)) ⟨_, f2.get hP1 (by omega)⟩
          | none =>
            rw [hf, if_pos rfl] at eP
            refine wp_icmp_eq (t := 85) (n := 76) dX10_poolPart_73 (by decide) rfl (fun hv => ?_) (fun hv => ?_)
            · refine wp_sipush (n := 88) (v := nI 407) dX10_poolPart_85 rfl (by decide) ?_
              refine wp_bipush (n := 90) (v := nI 8) dX10_poolPart_88 rfl (by decide) ?_
              refine wp_aload_n (n := 91) dX10_poolPart_90 rfl rfl ?_
              refine wp_getf (n := 94) dX10_poolPart_91 rfl flX10_13 (by repeat first | assumption | exact ax_set_self _ _ _ | exact ax_newA_self _ _ _ | refine (ax_set_ne _ _ (by omega)).trans ?_ | refine (ax_newA_ne _ _ _ (by omega)).trans ?_) (by rfl) ?_
              refine wp_iconst (n := 95) (v := nI 1) dX10_poolPart_94 rfl (by decide) ?_
              refine wp_iald (n := 96) _ dX10_poolPart_95 rfl (by repeat first | assumption | exact ax_set_self _ _ _ | exact ax_newA_self _ _ _ | refine (ax_set_ne _ _ (by omega)).trans ?_ | refine (ax_newA_ne _ _ _ (by omega)).trans ?_) rfl (by omega) (by decide) ?_
              rw [r1]
              refine wp_imul (n := 97) dX10_poolPart_96 rfl ?_
              refine wp_iadd (n := 98) dX10_poolPart_97 rfl ?_
              rw [nI_mul, nI_add]
              refine wp_istore_n (n := 99) dX10_poolPart_98 rfl rfl rfl rfl ?_
              refine wp_iconst (n := 100) (v := 0) dX10_poolPart_99 rfl (by decide) ?_
              refine wp_istore_n (n := 101) dX10_poolPart_100 rfl rfl rfl rfl ?_
              generalize hss : tS bs len b = s at *
              generalize hee : tA bs len s = e at *
              have L : ∀ q, q ≤ 6 → ∀ h2 R2, ax_fr (m + 2) (m + 3) h1 h2 → h2.2 (m + 2) = some (.inl (.int, 5061, .inl R2)) → (∀ i, i < q → R2 (407 + 8 * np + 2 + i) = if i < e - s then bs (s + i) else 0) → (∀ u, (u < 407 + 8 * np + 2 ∨ 407 + 8 * np + 8 ≤ u) → R2 u = R u) → WP Γ MX10_poolPart (5, 108, 0, 0) 101 [some (.ref m), some (.int (nI (407 + 8 * np))), some (.int (nI q))] [] h2 Q := by
                refine ax_up 6 (fun q hq9 ih => ?_)
                intro h2 R2 f2 c2 xl xo
                have m2 := m1.fr f2 (by omega)
                have m2' := m2
                unfold ModC at m2'
                have hU2 := f2.get hU1 (by omega)
                have hP2 := f2.get hP1 (by omega)
                have F2 := F1.tr (fr3.of f2 (by omega))
                refine wp_aload_n (n := 102) dX10_poolPart_101 rfl rfl ?_
                refine wp_getf (n := 105) dX10_poolPart_102 rfl flX10_167 (by repeat first | assumption | exact ax_set_self _ _ _ | exact ax_newA_self _ _ _ | refine (ax_set_ne _ _ (by omega)).trans ?_ | refine (ax_newA_ne _ _ _ (by omega)).trans ?_) (by rfl) ?_
                refine wp_if_ne (t := 158) (n := 108) dX10_poolPart_105 (by decide) rfl (fun hw1 => ?_) (fun hw1 => ?_)
                · exact absurd rfl hw1
                · refine wp_iload_n (n := 109) dX10_poolPart_108 rfl rfl ?_
                  refine wp_bipush (n := 111) (v := nI 6) dX10_poolPart_109 rfl (by decide) ?_
                  refine wp_icmp_ge (t := 158) (n := 114) dX10_poolPart_111 (by decide) rfl (fun hw2 => ?_) (fun hw2 => ?_)
                  · rw [nI_le9 (by omega) (by omega)] at hw2
                    obtain rfl : q = 6 := by omega
                    refine wp_aload_n (n := 159) dX10_poolPart_158 rfl rfl ?_
                    refine wp_getf (n := 162) dX10_poolPart_159 rfl flX10_13 (by repeat first | assumption | exact ax_set_self _ _ _ | exact ax_newA_self _ _ _ | refine (ax_set_ne _ _ (by omega)).trans ?_ | refine (ax_newA_ne _ _ _ (by omega)).trans ?_) (by rfl) ?_
                    refine wp_iload_n (n := 163) dX10_poolPart_162 rfl rfl ?_
                    refine wp_iconst (n := 164) (v := 0) dX10_poolPart_163 rfl (by decide) ?_
                    refine wp_iadd (n := 165) dX10_poolPart_164 rfl ?_
                    refine wp_aload_n (n := 166) dX10_poolPart_165 rfl rfl ?_
                    refine wp_iconst (n := 167) (v := 0) dX10_poolPart_166 rfl (by decide) ?_
                    refine wp_sipush (n := 170) (v := nI 200) dX10_poolPart_167 rfl (by decide) ?_
                    refine wp_callV2 (n := 173) (rm' := (2, 60, 0, 0)) rfl dX10_poolPart_170 rfl mlX10_211 (by assumption) rfl rfl rfl rfl rfl ?_
                    refine s_X10_number hA m2 hU2 hB hl b2 (by decide) (fun e3 p3 h3 q3 f3 m3 => ?_) (fun u w3 h3 q3 g1 g2 g3 g4 f3 m3 => ?_)
                    · show WP Γ _ _ _ _ _ _ _
                      have hp := eP.trans (mrR_l q3)
                      obtain ⟨ne0, at3, bg3, m3⟩ := m3
                      have c3 := f3.get c2 (by omega)
                      refine wp_iast (n := 174) (407 + 8 * np) dX10_poolPart_173 rfl c3 (by omega) (by rw [nI_zero, nI_add, Nat.add_zero]) (by omega) (by omega) ?_
                      exact E174 e3 p3 hp hn _ _ _ ((F2.tr (fr3.of f3 (by omega))).tr (fr3.of (ax_fr.set (lo := m + 2) (hi := m + 3) (by omega)) (by omega))) ⟨ne0, _, _, (ax_set_ne _ _ (by omega)).trans m3⟩ (ax_set_self _ _ _) ⟨_, (ax_set_ne _ _ (by omega)).trans (f3.get hP2 (by omega))⟩
                    · show WP Γ _ _ _ _ _ _ _
                      have eP2 := eP.trans (mrR_r q3)
                      simp only at eP2
                      obtain ⟨bg3, ea3, m3⟩ := m3
                      have c3 := f3.get c2 (by omega)
                      have hP3 := f3.get hP2 (by omega)
                      have hU3 := f3.get hU2 (by omega)
                      refine wp_iast (n := 174) (407 + 8 * np) dX10_poolPart_173 rfl c3 (by omega) (by rw [nI_zero, nI_add, Nat.add_zero]) (by omega) (by omega) ?_
                      have f4 : ax_fr (m + 2) (m + 3) h3 (ax_set h3 (m + 2) (.inl (.int, 5061, .inl (upd R2 (407 + 8 * np) (nI u))))) := ax_fr.set (by omega)
                      have c4 : (ax_set h3 (m + 2) (.inl (.int, 5061, .inl (upd R2 (407 + 8 * np) (nI u))))).2 (m + 2) = some (.inl (.int, 5061, .inl (upd R2 (407 + 8 * np) (nI u)))) := ax_set_self _ _ _
                      generalize ax_set h3 (m + 2) (.inl (.int, 5061, .inl (upd R2 (407 + 8 * np) (nI u)))) = h4 at *
                      have m4 := m3.fr f4 (by omega)
                      have m4' := m4
                      unfold ModC at m4'
                      have F4 := (F2.tr (fr3.of f3 (by omega))).tr (fr3.of f4 (by omega))
                      refine wp_aload_n (n := 175) dX10_poolPart_174 rfl rfl ?_
                      refine wp_getf (n := 178) dX10_poolPart_175 rfl flX10_13 (by repeat first | assumption | exact ax_set_self _ _ _ | exact ax_newA_self _ _ _ | refine (ax_set_ne _ _ (by omega)).trans ?_ | refine (ax_newA_ne _ _ _ (by omega)).trans ?_) (by rfl) ?_
                      refine wp_iload_n (n := 179) dX10_poolPart_178 rfl rfl ?_
                      refine wp_iconst (n := 180) (v := nI 1) dX10_poolPart_179 rfl (by decide) ?_
                      refine wp_iadd (n := 181) dX10_poolPart_180 rfl ?_
                      refine wp_aload_n (n := 182) dX10_poolPart_181 rfl rfl ?_
                      refine wp_iconst (n := 183) (v := 0) dX10_poolPart_182 rfl (by decide) ?_
                      refine wp_sipush (n := 186) (v := nI 9999) dX10_poolPart_183 rfl (by decide) ?_
                      refine wp_callV2 (n := 189) (rm' := (2, 60, 0, 0)) rfl dX10_poolPart_186 rfl mlX10_211 (by assumption) rfl rfl rfl rfl rfl ?_
                      refine s_X10_number hA m4 (f4.get hU3 (by omega)) hB hl g4 (by decide) (fun e5 p5 h5 q5 f5 m5 => ?_) (fun v w5 h5 q5 d1 d2 d3 d4 f5 m5 => ?_)
                      · show WP Γ _ _ _ _ _ _ _
                        have hp := eP2.trans (mrR_l q5)
                        obtain ⟨ne0, at5, bg5, m5⟩ := m5
                        have c5 := f5.get c4 (by omega)
                        refine wp_iast (n := 190) (407 + 8 * np + 1) dX10_poolPart_189 rfl c5 (by omega) (by rw [nI_add]) (by omega) (by omega) ?_
                        exact E190 e5 p5 hp _ _ _ ((F4.tr (fr3.of f5 (by omega))).tr (fr3.of (ax_fr.set (lo := m + 2) (hi := m + 3) (by omega)) (by omega))) ⟨ne0, _, _, (ax_set_ne _ _ (by omega)).trans m5⟩ (ax_set_self _ _ _) ⟨_, (ax_set_ne _ _ (by omega)).trans (f5.get (f4.get hP3 (by omega)) (by omega))⟩
                      · show WP Γ _ _ _ _ _ _ _
                        have eP3 := eP2.trans (mrR_r q5)
                        simp only at eP3
                        obtain ⟨bg5, ea5, m5⟩ := m5
                        have c5 := f5.get c4 (by omega)
                        have m5' := m5
                        unfold ModC at m5'
                        refine wp_iast (n := 190) (407 + 8 * np + 1) dX10_poolPart_189 rfl c5 (by omega) (by rw [nI_add]) (by omega) (by omega) ?_
                        refine wp_aload_n (n := 191) dX10_poolPart_190 rfl rfl ?_
                        refine wp_getf (n := 194) dX10_poolPart_191 rfl flX10_13 (by repeat first | assumption | exact ax_set_self _ _ _ | exact ax_newA_self _ _ _ | refine (ax_set_ne _ _ (by omega)).trans ?_ | refine (ax_newA_ne _ _ _ (by omega)).trans ?_) (by rfl) ?_
                        refine wp_iconst (n := 195) (v := nI 1) dX10_poolPart_194 rfl (by decide) ?_
                        refine wp_dup2 (n := 196) dX10_poolPart_195 rfl rfl rfl ?_
                        refine wp_iald (n := 197) _ dX10_poolPart_196 rfl (by repeat first | assumption | exact ax_set_self _ _ _ | exact ax_newA_self _ _ _ | refine (ax_set_ne _ _ (by omega)).trans ?_ | refine (ax_newA_ne _ _ _ (by omega)).trans ?_) rfl (by omega) (by decide) ?_
                        have x1 : upd (upd R2 (407 + 8 * np) (nI u)) (407 + 8 * np + 1) (nI v) 1 = nI np := by
                          simp only [upd]; rw [if_neg (by omega), if_neg (by omega)]; exact (xo 1 (by omega)).trans r1
                        rw [x1]
                        refine wp_iconst (n := 198) (v := nI 1) dX10_poolPart_197 rfl (by decide) ?_
                        refine wp_iadd (n := 199) dX10_poolPart_198 rfl ?_
                        rw [nI_add]
                        refine wp_iast (n := 200) _ dX10_poolPart_199 rfl (by repeat first | assumption | exact ax_set_self _ _ _ | exact ax_newA_self _ _ _ | refine (ax_set_ne _ _ (by omega)).trans ?_ | refine (ax_newA_ne _ _ _ (by omega)).trans ?_) (by omega) rfl (by omega) (by decide) ?_
                        have eo : ∀ u9, ¬ u9 = 1 → ¬ u9 = 407 + 8 * np → ¬ u9 = 407 + 8 * np + 1 → upd (upd (upd R2 (407 + 8 * np) (nI u)) (407 + 8 * np + 1) (nI v)) 1 (nI (np + 1)) u9 = R2 u9 := fun u9 h1 h2 h3 => by
                          simp only [upd]; rw [if_neg h1, if_neg h3, if_neg h2]
                        exact wp_return dX10_poolPart_200 rfl (kO _ _ u v w5 _ _ eP3 (by omega) d4 ⟨(F4.tr (fr3.of f5 (by omega))).tr ((fr3.of (ax_fr.set (lo := m + 2) (hi := m + 3) (by omega)) (by omega)).tr (fr3.of (ax_fr.set (lo := m + 2) (hi := m + 3) (by omega)) (by omega))), ⟨_, _, (ax_set_ne _ _ (by omega)).trans ((ax_set_ne _ _ (by omega)).trans m5)⟩, ax_set_self _ _ _, _, (ax_set_ne _ _ (by omega)).trans ((ax_set_ne _ _ (by omega)).trans (f5.get (f4.get hP3 (by omega)) (by omega)))⟩ (hr0.pool (bs := bs) (s := s) (l := e - s) hS hn (by omega) h6 (if_pos rfl) (by simp only [upd]; rw [if_neg (by omega), if_neg (by omega), if_pos (by omega)]) (by simp only [upd]; rw [if_neg (by omega), if_pos trivial]) (fun i hi => (eo _ (by omega) (by omega) (by omega)).trans (xl i hi)) (fun u9 h1 h2 => (eo u9 h1 (by omega) (by omega)).trans (xo u9 (by omega)))))
                  · rw [nI_le9 (by omega) (by omega)] at hw2
                    have S : ∀ u, u = (if q < e - s then bs (s + q) else 0) → WP Γ MX10_poolPart (5, 108, 0, 0) 151 [some (.ref m), some (.int (nI (407 + 8 * np))), some (.int (nI q))] [.int u, .int (nI (407 + 8 * np) + nI 2 + nI q), .ref (m + 2)] h2 Q := by
                      intro u hu
                      refine wp_iast (n := 152) (407 + 8 * np + 2 + q) dX10_poolPart_151 rfl (by repeat first | assumption | exact ax_set_self _ _ _ | exact ax_newA_self _ _ _ | refine (ax_set_ne _ _ (by omega)).trans ?_ | refine (ax_newA_ne _ _ _ (by omega)).trans ?_) (by omega) (by simp only [nI_zero, nI_mul, nI_add]) (by omega) (by omega) ?_
                      refine wp_iinc (n := 155) dX10_poolPart_152 rfl rfl (nI_inc q) rfl rfl rfl ?_
                      refine wp_goto (t := 101) dX10_poolPart_155 (by decide) ?_
                      have e9 : ∀ v, ¬ v = 407 + 8 * np + 2 + q → upd R2 (407 + 8 * np + 2 + q) u v = R2 v := fun v hv => if_neg hv
                      refine ih (by omega) _ _ (f2.put (by omega)) (ax_set_self _ _ _) (fun i hi => ?_) (fun v hv => (e9 v (by omega)).trans (xo v hv))
                      by_cases e8 : i = q
                      · subst e8; rw [← hu]; exact if_pos rfl
                      · rw [e9 _ (by omega)]; exact xl i (by omega)
                    refine wp_aload_n (n := 115) dX10_poolPart_114 rfl rfl ?_
                    refine wp_getf (n := 118) dX10_poolPart_115 rfl flX10_13 (by repeat first | assumption | exact ax_set_self _ _ _ | exact ax_newA_self _ _ _ | refine (ax_set_ne _ _ (by omega)).trans ?_ | refine (ax_newA_ne _ _ _ (by omega)).trans ?_) (by rfl) ?_
                    refine wp_iload_n (n := 119) dX10_poolPart_118 rfl rfl ?_
                    refine wp_iconst (n := 120) (v := nI 2) dX10_poolPart_119 rfl (by decide) ?_
                    refine wp_iadd (n := 121) dX10_poolPart_120 rfl ?_
                    refine wp_iload_n (n := 122) dX10_poolPart_121 rfl rfl ?_
                    refine wp_iadd (n := 123) dX10_poolPart_122 rfl ?_
                    refine wp_aload_n (n := 124) dX10_poolPart_123 rfl rfl ?_
                    refine wp_getf (n := 127) dX10_poolPart_124 rfl flX10_164 (by repeat first | assumption | exact ax_set_self _ _ _ | exact ax_newA_self _ _ _ | refine (ax_set_ne _ _ (by omega)).trans ?_ | refine (ax_newA_ne _ _ _ (by omega)).trans ?_) (by rfl) ?_
                    refine wp_iload_n (n := 128) dX10_poolPart_127 rfl rfl ?_
                    refine wp_iadd (n := 129) dX10_poolPart_128 rfl ?_
                    refine wp_aload_n (n := 130) dX10_poolPart_129 rfl rfl ?_
                    refine wp_getf (n := 133) dX10_poolPart_130 rfl flX10_157 (by repeat first | assumption | exact ax_set_self _ _ _ | exact ax_newA_self _ _ _ | refine (ax_set_ne _ _ (by omega)).trans ?_ | refine (ax_newA_ne _ _ _ (by omega)).trans ?_) (by rfl) ?_
                    rw [nI_add s q]
                    refine wp_icmp_ge (t := 150) (n := 136) dX10_poolPart_133 (by decide) rfl (fun hw3 => ?_) (fun hw3 => ?_)
                    · have := (nI_le9 (by omega) (by omega)).mp hw3
                      refine wp_iconst (n := 151) (v := 0) dX10_poolPart_150 rfl (by decide) ?_
                      exact S _ (by rw [if_neg (by omega)])
                    · have hlt : s + q < e := by
                        by_cases q9 : e ≤ s + q
                        · exact absurd ((nI_le9 (by omega) (by omega)).mpr q9) hw3
                        · omega
                      refine wp_aload_n (n := 137) dX10_poolPart_136 rfl rfl ?_
                      refine wp_getf (n := 140) dX10_poolPart_137 rfl flX10_39 (by repeat first | assumption | exact ax_set_self _ _ _ | exact ax_newA_self _ _ _ | refine (ax_set_ne _ _ (by omega)).trans ?_ | refine (ax_newA_ne _ _ _ (by omega)).trans ?_) (by rfl) ?_
                      refine wp_aload_n (n := 141) dX10_poolPart_140 rfl rfl ?_
                      refine wp_getf (n := 144) dX10_poolPart_141 rfl flX10_164 (by repeat first | assumption | exact ax_set_self _ _ _ | exact ax_newA_self _ _ _ | refine (ax_set_ne _ _ (by omega)).trans ?_ | refine (ax_newA_ne _ _ _ (by omega)).trans ?_) (by rfl) ?_
                      refine wp_iload_n (n := 145) dX10_poolPart_144 rfl rfl ?_
                      refine wp_iadd (n := 146) dX10_poolPart_145 rfl ?_
                      refine wp_bald (n := 147) (s + q) dX10_poolPart_146 rfl (by repeat first | assumption | exact ax_set_self _ _ _ | exact ax_newA_self _ _ _ | refine (ax_set_ne _ _ (by omega)).trans ?_ | refine (ax_newA_ne _ _ _ (by omega)).trans ?_) (by simp only [nI_zero, nI_mul, nI_add]) (by omega) (by omega) ?_
                      rw [hB.al (by omega) (al (s + q) (by omega) hlt)]
                      refine wp_goto (t := 151) dX10_poolPart_147 (by decide) ?_
                      exact S _ (by rw [if_pos (by omega)])
              exact L 0 (Nat.zero_le _) h1 R ax_fr.rf hC1 (fun i hi => absurd hi (Nat.not_lt_zero _)) (fun u _ => rfl)
            · exact absurd rfl hv
        · exact bad1 (eP.trans (if_pos (Or.inr (bI_ne hs))))
  · have hn : np = 8 := (nI_eq9 (by omega) (by omega)).mp hc
    refine wp_aload_n (n := 12) dX10_poolPart_11 rfl rfl ?_
    refine wp_iconst (n := 13) (v := nI 4) dX10_poolPart_12 rfl (by decide) ?_
    refine wp_aload_n (n := 14) dX10_poolPart_13 rfl rfl ?_
    refine wp_getf (n := 17) dX10_poolPart_14 rfl flX10_164 (by repeat first | assumption | exact ax_set_self _ _ _ | exact ax_newA_self _ _ _ | refine (ax_set_ne _ _ (by omega)).trans ?_ | refine (ax_newA_ne _ _ _ (by omega)).trans ?_) (by rfl) ?_
    refine wp_callV2 (n := 20) (rm' := (0, 0, 0, 0)) rfl dX10_poolPart_17 rfl mlX10_184 (by repeat first | assumption | exact ax_set_self _ _ _ | exact ax_newA_self _ _ _ | refine (ax_set_ne _ _ (by omega)).trans ?_ | refine (ax_newA_ne _ _ _ (by omega)).trans ?_) rfl rfl rfl rfl rfl ?_
    refine s_X10_fails0 hM0 hA (fun h2 f2 m2 => ?_)
    show WP Γ _ _ _ _ _ _ _
    exact wp_return dX10_poolPart_20 rfl (kF _ _ h2 (if_pos (by omega)) ⟨fr3.of f2 (by omega), ⟨by decide, _, _, m2⟩, ⟨_, f2.get hC (by omega)⟩, _, f2.get hP9 (by omega)⟩)

end
