/-! ===== the reference: grant ===== -/
section
variable {Γ : GE} {h : AH} {Q : PO} {m a len b s0 np nb ne nh nc y : Nat} {bs B R qu ra le ln pl tm rw hw cw pk : FI} {re : Nat → UInt32} {bk : Nat → Int64} {t x z w th bg er ea lr cm : Int32}

theorem s_X10_grantPart (hM : ModC h m a th (nI len) (nI b) (nI s0) 0 ea lr cm) (hA : Γ.2.1 ≤ m) (hU : h.2 (m + 10) = some (.inl (.byte, 500, .inl B))) (hB : BufR bs B len) (hl : len ≤ 500) (hb : b ≤ len) (hC : h.2 (m + 2) = some (.inl (.int, 5061, .inl R))) (hP9 : h.2 (m + 9) = some (.inl (.boolean, 200, .inl pk))) (hr : RowR R np qu ra re le ln nb pl tm ne rw bk 0 hw 0 cw t y) (hI : Inv np qu ra re le ln nb pl tm ne rw bk 0 hw 0 cw t y) (hne : ne < 300)
    (kF : ∀ e pos h', graR np qu le ln pl nb hw 0 bs len b = .inl (e, pos) → PE h h' m a th (nI len) e pos lr cm → Q (.inl none) h')
    (kO : ∀ j u w h' R', graR np qu le ln pl nb hw 0 bs len b = .inr (j, nI u, w) → b < w → w ≤ len → j < np → 1 ≤ u → u ≤ 200 → PG h h' m a th (nI len) w lr cm R' → (∀ bk' pk', (∀ d, d < 200 → pk' d = bI (selL pl nb 0 u 0 d)) → bokB bk bk' ne pk' → RowR R' np qu ra re le ln nb (putF pl nb pk' (nI j)) (putF tm nb pk' t) (ne + 1) (upd7 rw ne 0 (nI j) (nI u) 0 t 0 (-1)) bk' 0 hw 0 cw t y) → Q (.inl none) h') : WP Γ MX10_grantPart (4, 84, 0, 0) 0 [some (.ref m), none, none, none, none] [] h Q := by
  have hM0 := hM
  unfold ModC at hM
  have hr0 := hr
  have hI0 := hI
  obtain ⟨⟨s1, s2, s3, s4, s5, s6, s7, s8, tn, s9, s10⟩, IM, IP, IJ, IR, IC⟩ := hI
  obtain ⟨⟨r0, r1, r2, r3, r4, r5, r6⟩, rM, rP, rJ, rH, rC⟩ := hr
  have E97 : ∀ e pos, graR np qu le ln pl nb hw 0 bs len b = .inl (e, pos) → ∀ h1 at1 bg1 q1 q3 q4, fr3 m h h1 → ¬ e = 0 → ModC h1 m (m + 2) th (nI len) at1 bg1 e (nI pos) lr cm → (∃ R', h1.2 (m + 2) = some (.inl (.int, 5061, .inl R'))) → (∃ pk', h1.2 (m + 9) = some (.inl (.boolean, 200, .inl pk'))) → WP Γ MX10_grantPart (4, 84, 0, 0) 70 [some (.ref m), q1, some (.ref a), q3, q4] [] h1 Q := by
    intro e pos hp h1 at1 bg1 q1 q3 q4 f1 ne0 m1 c1 p1
    obtain ⟨R1, c1⟩ := c1
    obtain ⟨pk1, p1⟩ := p1
    have m1' := m1
    unfold ModC at m1'
    refine wp_aload_n (n := 71) dX10_grantPart_70 rfl rfl ?_
    refine wp_getf (n := 74) dX10_grantPart_71 rfl flX10_167 (by repeat first | assumption | exact ax_set_self _ _ _ | exact ax_newA_self _ _ _ | refine (ax_set_ne _ _ (by omega)).trans ?_ | refine (ax_newA_ne _ _ _ (by omega)).trans ?_) (by rfl) ?_
    refine wp_if_ne (t := 97) (n := 77) dX10_grantPart_74 (by decide) rfl (fun hc => ?_) (fun hc => ?_)
    · refine wp_aload_n (n := 98) dX10_grantPart_97 rfl rfl ?_
      refine wp_aload_n (n := 99) dX10_grantPart_98 rfl rfl ?_
      refine wp_putf (n := 102) dX10_grantPart_99 rfl flX10_9 (by repeat first | assumption | exact ax_set_self _ _ _ | exact ax_newA_self _ _ _ | refine (ax_set_ne _ _ (by omega)).trans ?_ | refine (ax_newA_ne _ _ _ (by omega)).trans ?_) (by omega) (by rfl) rfl rfl ?_
      exact wp_return dX10_grantPart_102 rfl (kF e pos _ hp ⟨f1.tr (fr3.of (ax_fr.set (lo := m) (hi := m + 1) (by omega)) (by omega)), ⟨ne0, _, _, ax_set_self _ _ _⟩, ⟨_, (ax_set_ne _ _ (by omega)).trans c1⟩, _, (ax_set_ne _ _ (by omega)).trans p1⟩)
    · exact absurd hc ne0
  have E10 : ∀ e pos, graR np qu le ln pl nb hw 0 bs len b = .inl (e, pos) → ∀ h1, ax_fr m (m + 1) h h1 → ModE h1 m a th (nI len) e pos lr cm → WP Γ MX10_grantPart (4, 84, 0, 0) 10 [some (.ref m), none, none, none, none] [.int (nI 1)] h1 Q := by
    intro e pos hp h1 f1 m1
    obtain ⟨ne0, at1, bg1, m1⟩ := m1
    have m1' := m1
    unfold ModC at m1'
    refine wp_istore_n (n := 11) dX10_grantPart_10 rfl rfl rfl rfl ?_
    refine wp_aload_n (n := 12) dX10_grantPart_11 rfl rfl ?_
    refine wp_getf (n := 15) dX10_grantPart_12 rfl flX10_9 (by repeat first | assumption | exact ax_set_self _ _ _ | exact ax_newA_self _ _ _ | refine (ax_set_ne _ _ (by omega)).trans ?_ | refine (ax_newA_ne _ _ _ (by omega)).trans ?_) (by rfl) ?_
    refine wp_astore_n (n := 16) dX10_grantPart_15 rfl rfl rfl rfl ?_
    refine wp_aload_n (n := 17) dX10_grantPart_16 rfl rfl ?_
    refine wp_aload_n (n := 18) dX10_grantPart_17 rfl rfl ?_
    refine wp_getf (n := 21) dX10_grantPart_18 rfl flX10_13 (by repeat first | assumption | exact ax_set_self _ _ _ | exact ax_newA_self _ _ _ | refine (ax_set_ne _ _ (by omega)).trans ?_ | refine (ax_newA_ne _ _ _ (by omega)).trans ?_) (by rfl) ?_
    refine wp_putf (n := 24) dX10_grantPart_21 rfl flX10_9 (by repeat first | assumption | exact ax_set_self _ _ _ | exact ax_newA_self _ _ _ | refine (ax_set_ne _ _ (by omega)).trans ?_ | refine (ax_newA_ne _ _ _ (by omega)).trans ?_) (by omega) (by rfl) rfl rfl ?_
    refine wp_aload_n (n := 25) dX10_grantPart_24 rfl rfl ?_
    refine wp_getf (n := 28) dX10_grantPart_25 rfl flX10_167 (by repeat first | assumption | exact ax_set_self _ _ _ | exact ax_newA_self _ _ _ | refine (ax_set_ne _ _ (by omega)).trans ?_ | refine (ax_newA_ne _ _ _ (by omega)).trans ?_) (by rfl) ?_
    have m2 : ModC (ax_set h1 m (.inr (10, [.ref (m + 2), .ref (m + 2), .ref (m + 3), .ref (m + 4), .ref (m + 5), .ref (m + 6), .ref (m + 7), .ref (m + 8), .int th, .ref (m + 9), .ref (m + 10), .int (nI len), .int at1, .int bg1, .int e, .int (nI pos), .int lr, .ref (m + 11), .int cm]))) m (m + 2) th (nI len) at1 bg1 e (nI pos) lr cm := ax_set_self _ _ _
    have f2 := f1.put (a := m) (e := .inr (10, [.ref (m + 2), .ref (m + 2), .ref (m + 3), .ref (m + 4), .ref (m + 5), .ref (m + 6), .ref (m + 7), .ref (m + 8), .int th, .ref (m + 9), .ref (m + 10), .int (nI len), .int at1, .int bg1, .int e, .int (nI pos), .int lr, .ref (m + 11), .int cm])) (by omega)
    generalize ax_set h1 m (.inr (10, [.ref (m + 2), .ref (m + 2), .ref (m + 3), .ref (m + 4), .ref (m + 5), .ref (m + 6), .ref (m + 7), .ref (m + 8), .int th, .ref (m + 9), .ref (m + 10), .int (nI len), .int at1, .int bg1, .int e, .int (nI pos), .int lr, .ref (m + 11), .int cm])) = h2 at *
    have m2' := m2
    unfold ModC at m2'
    refine wp_if_eq (t := 35) (n := 31) dX10_grantPart_28 (by decide) rfl (fun hc => ?_) (fun hc => ?_)
    · exact absurd hc ne0
    · refine wp_iconst (n := 32) (v := 0) dX10_grantPart_31 rfl (by decide) ?_
      refine wp_goto (t := 55) dX10_grantPart_32 (by decide) ?_
      refine wp_istore_n (n := 56) dX10_grantPart_55 rfl rfl rfl rfl ?_
      refine wp_aload_n (n := 57) dX10_grantPart_56 rfl rfl ?_
      refine wp_iconst (n := 58) (v := nI 1) dX10_grantPart_57 rfl (by decide) ?_
      refine wp_sipush (n := 61) (v := nI 200) dX10_grantPart_58 rfl (by decide) ?_
      refine wp_iload_n (n := 62) dX10_grantPart_61 rfl rfl ?_
      refine wp_mmin (n := 65) dX10_grantPart_62 rfl mnX10_189 ax_mns ax_mi ax_mnc rfl rfl ?_
      refine wp_callV2 (n := 68) (rm' := (2, 60, 0, 0)) rfl dX10_grantPart_65 rfl mlX10_211 (by repeat first | assumption | exact ax_set_self _ _ _ | exact ax_newA_self _ _ _ | refine (ax_set_ne _ _ (by omega)).trans ?_ | refine (ax_newA_ne _ _ _ (by omega)).trans ?_) rfl rfl rfl rfl rfl ?_
      refine s_X10_numberE m2 ne0 ?_
      show WP Γ _ _ _ _ _ _ _
      refine wp_istore (n := 70) dX10_grantPart_68 rfl rfl rfl rfl ?_
      exact E97 e pos hp h2 _ _ _ _ _ (fr3.of f2 (by omega)) ne0 m2 ⟨_, f2.get hC (by omega)⟩ ⟨_, f2.get hP9 (by omega)⟩
  refine wp_aload_n (n := 1) dX10_grantPart_0 rfl rfl ?_
  refine wp_aload_n (n := 2) dX10_grantPart_1 rfl rfl ?_
  refine wp_getf (n := 5) dX10_grantPart_2 rfl flX10_13 (by repeat first | assumption | exact ax_set_self _ _ _ | exact ax_newA_self _ _ _ | refine (ax_set_ne _ _ (by omega)).trans ?_ | refine (ax_newA_ne _ _ _ (by omega)).trans ?_) (by rfl) ?_
  refine wp_iconst (n := 6) (v := nI 1) dX10_grantPart_5 rfl (by decide) ?_
  refine wp_iconst (n := 7) (v := (-1)) dX10_grantPart_6 rfl (by decide) ?_
  refine wp_callV3 (n := 10) (rm' := (3, 60, 0, 0)) rfl dX10_grantPart_7 rfl mlX10_222 (by repeat first | assumption | exact ax_set_self _ _ _ | exact ax_newA_self _ _ _ | refine (ax_set_ne _ _ (by omega)).trans ?_ | refine (ax_newA_ne _ _ _ (by omega)).trans ?_) rfl rfl rfl rfl rfl ?_
  refine s_X10_known hA hM0 hU hB hl hC r1 s2 rP IP (by omega) hb (fun e pos h1 q1 f1 m1 => ?_) (fun s w h1 q1 q2 f1 m1 => ?_) (fun s w h1 q1 q2 q3 q4 q5 f1 m1 => ?_)
  · show WP Γ _ _ _ _ _ _ _
    exact E10 e pos (mrR_l q1) h1 f1 m1
  · show WP Γ _ _ _ _ _ _ _
    refine E10 (nI 3) s ?_ h1 f1 m1
    unfold graR
    rw [mrR_r q1]
    simp only
    cases hf : fstG (nameB le ln bs s (w - s)) np 0 with
    | none => rfl
    | some j =>
      rw [hf] at q2
      have hj := (fstG_some hf).2.1
      match j, q2, hj with
      | 0, _, _ => rfl
      | j + 1, q2, hj =>
        rcases q2 with q2 | q2
        · exact absurd ((nI_lt9 (by omega) (by omega)).mp q2) (by omega)
        · exact absurd q2 (nI_ne_neg (by omega))
  · show WP Γ _ _ _ _ _ _ _
    have eG : graR np qu le ln pl nb hw 0 bs len b = match fstG (nameB le ln bs s (w - s)) np 0 with
      | none => .inl (nI 3, s)
      | some 0 => .inl (nI 3, s)
      | some (j + 1) => mrR (rdN bs len w (nI 1) (if roo qu pl nb hw 0 (j + 1) < avl pl nb hw 0 0 then roo qu pl nb hw 0 (j + 1) else avl pl nb hw 0 0)) fun u => .inr (j + 1, u.1, u.2) := by
      unfold graR
      rw [mrR_r q1]
      simp only
      cases fstG (nameB le ln bs s (w - s)) np 0 with
      | none => rfl
      | some j => cases j <;> rfl
    cases hf : fstG (nameB le ln bs s (w - s)) np 0 with
    | none => rw [hf] at q3; exact absurd rfl q3
    | some j0 =>
      rw [hf] at q2 q3 eG
      have hj0 := (fstG_some hf).2.1
      match j0, q2, hj0, eG with
      | 0, q2, _, _ => exact absurd (show oI (some 0) < nI 1 from by decide) q2
      | j + 1, q2, hj0, eG =>
        simp only at eG
        show WP Γ _ _ _ _ (.int (nI (j + 1)) :: _) _ _
        generalize hj9 : j + 1 = j9 at *
        have hjn : j9 < np := by omega
        obtain ⟨bg1, ea1, m1⟩ := m1
        have m1' := m1
        unfold ModC at m1'
        have c0 := cnt_le pl 0 nb
        have cj := cnt_le pl (nI j9) nb
        obtain ⟨_, _, ⟨qq, qq1, qq2⟩, _⟩ := IP j9 hjn
        have ea9 : avl pl nb hw 0 0 = nI (cnt pl 0 nb) := Int32.sub_zero _
        have er9 : roo qu pl nb hw 0 j9 = qu j9 - nI (cnt pl (nI j9) nb) := Int32.sub_zero _
        rw [ea9, er9] at eG
        refine wp_istore_n (n := 11) dX10_grantPart_10 rfl rfl rfl rfl ?_
        refine wp_aload_n (n := 12) dX10_grantPart_11 rfl rfl ?_
        refine wp_getf (n := 15) dX10_grantPart_12 rfl flX10_9 (by repeat first | assumption | exact ax_set_self _ _ _ | exact ax_newA_self _ _ _ | refine (ax_set_ne _ _ (by omega)).trans ?_ | refine (ax_newA_ne _ _ _ (by omega)).trans ?_) (by rfl) ?_
        refine wp_astore_n (n := 16) dX10_grantPart_15 rfl rfl rfl rfl ?_
        refine wp_aload_n (n := 17) dX10_grantPart_16 rfl rfl ?_
        refine wp_aload_n (n := 18) dX10_grantPart_17 rfl rfl ?_
        refine wp_getf (n := 21) dX10_grantPart_18 rfl flX10_13 (by repeat first | assumption | exact ax_set_self _ _ _ | exact ax_newA_self _ _ _ | refine (ax_set_ne _ _ (by omega)).trans ?_ | refine (ax_newA_ne _ _ _ (by omega)).trans ?_) (by rfl) ?_
        refine wp_putf (n := 24) dX10_grantPart_21 rfl flX10_9 (by repeat first | assumption | exact ax_set_self _ _ _ | exact ax_newA_self _ _ _ | refine (ax_set_ne _ _ (by omega)).trans ?_ | refine (ax_newA_ne _ _ _ (by omega)).trans ?_) (by omega) (by rfl) rfl rfl ?_
        refine wp_aload_n (n := 25) dX10_grantPart_24 rfl rfl ?_
        refine wp_getf (n := 28) dX10_grantPart_25 rfl flX10_167 (by repeat first | assumption | exact ax_set_self _ _ _ | exact ax_newA_self _ _ _ | refine (ax_set_ne _ _ (by omega)).trans ?_ | refine (ax_newA_ne _ _ _ (by omega)).trans ?_) (by rfl) ?_
        have m2 : ModC (ax_set h1 m (.inr (10, [.ref (m + 2), .ref (m + 2), .ref (m + 3), .ref (m + 4), .ref (m + 5), .ref (m + 6), .ref (m + 7), .ref (m + 8), .int th, .ref (m + 9), .ref (m + 10), .int (nI len), .int (nI w), .int bg1, .int 0, .int ea1, .int lr, .ref (m + 11), .int cm]))) m (m + 2) th (nI len) (nI w) bg1 0 ea1 lr cm := ax_set_self _ _ _
        have f2 := f1.put (a := m) (e := .inr (10, [.ref (m + 2), .ref (m + 2), .ref (m + 3), .ref (m + 4), .ref (m + 5), .ref (m + 6), .ref (m + 7), .ref (m + 8), .int th, .ref (m + 9), .ref (m + 10), .int (nI len), .int (nI w), .int bg1, .int 0, .int ea1, .int lr, .ref (m + 11), .int cm])) (by omega)
        generalize ax_set h1 m (.inr (10, [.ref (m + 2), .ref (m + 2), .ref (m + 3), .ref (m + 4), .ref (m + 5), .ref (m + 6), .ref (m + 7), .ref (m + 8), .int th, .ref (m + 9), .ref (m + 10), .int (nI len), .int (nI w), .int bg1, .int 0, .int ea1, .int lr, .ref (m + 11), .int cm])) = h2 at *
        have m2' := m2
        unfold ModC at m2'
        have c2 := f2.get hC (by omega)
        have p2 := f2.get hP9 (by omega)
        have u2 := f2.get hU (by omega)
        refine wp_if_eq (t := 35) (n := 31) dX10_grantPart_28 (by decide) rfl (fun hc => ?_) (fun hc => ?_)
        · refine wp_aload_n (n := 36) dX10_grantPart_35 rfl rfl ?_
          refine wp_iconst (n := 37) (v := 0) dX10_grantPart_36 rfl (by decide) ?_
          refine wp_callV1 (n := 40) (rm' := (0, 0, 0, 0)) rfl dX10_grantPart_37 rfl mlX10_62 (by repeat first | assumption | exact ax_set_self _ _ _ | exact ax_newA_self _ _ _ | refine (ax_set_ne _ _ (by omega)).trans ?_ | refine (ax_newA_ne _ _ _ (by omega)).trans ?_) rfl rfl rfl rfl rfl ?_
          refine s_X10_balanceOf m2 c2 r0 rM s4 ?_
          show WP Γ _ _ _ _ _ _ _
          refine wp_aload_n (n := 41) dX10_grantPart_40 rfl rfl ?_
          refine wp_iload_n (n := 42) dX10_grantPart_41 rfl rfl ?_
          refine wp_iconst (n := 43) (v := 0) dX10_grantPart_42 rfl (by decide) ?_
          refine wp_callV2 (n := 46) (rm' := (0, 0, 0, 0)) rfl dX10_grantPart_43 rfl mlX10_69 (by repeat first | assumption | exact ax_set_self _ _ _ | exact ax_newA_self _ _ _ | refine (ax_set_ne _ _ (by omega)).trans ?_ | refine (ax_newA_ne _ _ _ (by omega)).trans ?_) rfl rfl rfl rfl rfl ?_
          refine s_X10_pool (q := 0) m2 c2 (by omega) (by omega) ?_
          show WP Γ _ _ _ _ _ _ _
          rw [(rP j9 hjn).1]
          refine wp_aload_n (n := 47) dX10_grantPart_46 rfl rfl ?_
          refine wp_iload_n (n := 48) dX10_grantPart_47 rfl rfl ?_
          refine wp_callV1 (n := 51) (rm' := (0, 0, 0, 0)) rfl dX10_grantPart_48 rfl mlX10_62 (by repeat first | assumption | exact ax_set_self _ _ _ | exact ax_newA_self _ _ _ | refine (ax_set_ne _ _ (by omega)).trans ?_ | refine (ax_newA_ne _ _ _ (by omega)).trans ?_) rfl rfl rfl rfl rfl ?_
          refine s_X10_balanceOf m2 c2 r0 rM s4 ?_
          show WP Γ _ _ _ _ _ _ _
          refine wp_isub (n := 52) dX10_grantPart_51 rfl ?_
          refine wp_mmin (n := 55) dX10_grantPart_52 rfl mnX10_189 ax_mns ax_mi ax_mnc rfl rfl ?_
          generalize hmo : (if qu j9 - nI (cnt pl (nI j9) nb) < nI (cnt pl 0 nb) then qu j9 - nI (cnt pl (nI j9) nb) else nI (cnt pl 0 nb)) = mo at *
          have hmo1 : mo ≤ nI (cnt pl 0 nb) := by
            rw [← hmo]
            split
            · rename_i q; exact Int32.le_of_lt q
            · exact Int32.le_refl _
          have hmo2 : (if mo < nI 200 then mo else nI 200) = mo := by
            by_cases q : mo < nI 200
            · rw [if_pos q]
            · rw [if_neg q]
              exact (Int32.le_antisymm (Int32.le_trans hmo1 ((nI_le9 (by omega) (by omega)).mpr (by omega))) (i32_not_lt q)).symm
          refine wp_istore_n (n := 56) dX10_grantPart_55 rfl rfl rfl rfl ?_
          refine wp_aload_n (n := 57) dX10_grantPart_56 rfl rfl ?_
          refine wp_iconst (n := 58) (v := nI 1) dX10_grantPart_57 rfl (by decide) ?_
          refine wp_sipush (n := 61) (v := nI 200) dX10_grantPart_58 rfl (by decide) ?_
          refine wp_iload_n (n := 62) dX10_grantPart_61 rfl rfl ?_
          refine wp_mmin (n := 65) dX10_grantPart_62 rfl mnX10_189 ax_mns ax_mi ax_mnc rfl rfl ?_
          rw [hmo2]
          refine wp_callV2 (n := 68) (rm' := (2, 60, 0, 0)) rfl dX10_grantPart_65 rfl mlX10_211 (by repeat first | assumption | exact ax_set_self _ _ _ | exact ax_newA_self _ _ _ | refine (ax_set_ne _ _ (by omega)).trans ?_ | refine (ax_newA_ne _ _ _ (by omega)).trans ?_) rfl rfl rfl rfl rfl ?_
          refine s_X10_number hA m2 u2 hB hl q5 (Int32.le_trans hmo1 ((nI_le9 (by omega) (by omega)).mpr (by omega))) (fun e3 p3 h3 q3 f3 m3 => ?_) (fun u0 w3 h3 q3 g1 g2 g3 g4 f3 m3 => ?_)
          · show WP Γ _ _ _ _ _ _ _
            obtain ⟨ne0, at3, bg3, m3⟩ := m3
            have m3' := m3
            unfold ModC at m3'
            refine wp_istore (n := 70) dX10_grantPart_68 rfl rfl rfl rfl ?_
            exact E97 e3 p3 (eG.trans (mrR_l q3)) h3 _ _ _ _ _ ((fr3.of f2 (by omega)).tr (fr3.of f3 (by omega))) ne0 m3 ⟨_, f3.get c2 (by omega)⟩ ⟨_, f3.get p2 (by omega)⟩
          · show WP Γ _ _ _ _ _ _ _
            have eG2 := eG.trans (mrR_r q3)
            simp only at eG2
            obtain ⟨u, uu1, uu2, ue⟩ := inI_get (a := 1) (b := 200) (by omega) (by omega) g1 (Int32.le_trans g2 (Int32.le_trans hmo1 ((nI_le9 (by omega) (by omega)).mpr (by omega))))
            rw [ue] at eG2 g2 ⊢
            have huc : u ≤ cnt pl 0 nb := (nI_le9 (by omega) (by omega)).mp (Int32.le_trans g2 hmo1)
            obtain ⟨bg3, ea3, m3⟩ := m3
            have m3' := m3
            unfold ModC at m3'
            have c3 := f3.get c2 (by omega)
            have p3 := f3.get p2 (by omega)
            have F3 := (fr3.of (m := m) f2 (by omega)).tr (fr3.of f3 (by omega))
            refine wp_istore (n := 70) dX10_grantPart_68 rfl rfl rfl rfl ?_
            refine wp_aload_n (n := 71) dX10_grantPart_70 rfl rfl ?_
            refine wp_getf (n := 74) dX10_grantPart_71 rfl flX10_167 (by repeat first | assumption | exact ax_set_self _ _ _ | exact ax_newA_self _ _ _ | refine (ax_set_ne _ _ (by omega)).trans ?_ | refine (ax_newA_ne _ _ _ (by omega)).trans ?_) (by rfl) ?_
            refine wp_if_ne (t := 97) (n := 77) dX10_grantPart_74 (by decide) rfl (fun hv => ?_) (fun hv => ?_)
            · exact absurd rfl hv
            · refine wp_aload_n (n := 78) dX10_grantPart_77 rfl rfl ?_
              refine wp_iconst (n := 79) (v := 0) dX10_grantPart_78 rfl (by decide) ?_
              refine wp_iload (n := 81) dX10_grantPart_79 rfl rfl ?_
              refine wp_iconst (n := 82) (v := 0) dX10_grantPart_81 rfl (by decide) ?_
              refine wp_callV3 (n := 85) (rm' := (2, 48, 0, 0)) rfl dX10_grantPart_82 rfl mlX10_102 (by repeat first | assumption | exact ax_set_self _ _ _ | exact ax_newA_self _ _ _ | refine (ax_set_ne _ _ (by omega)).trans ?_ | refine (ax_newA_ne _ _ _ (by omega)).trans ?_) rfl rfl rfl rfl rfl ?_
              refine s_X10_picks (y := 0) (w := u) m3 c3 p3 r0 rM s4 (by omega) huc uu1 hA (by omega) (fun h4 pk4 f4 p4 z4 => ?_)
              show WP Γ _ _ _ _ _ _ _
              have m4 := m3.fr f4 (by omega)
              have m4' := m4
              unfold ModC at m4'
              have c4 := f4.get c3 (by omega)
              refine wp_aload_n (n := 86) dX10_grantPart_85 rfl rfl ?_
              refine wp_iconst (n := 87) (v := 0) dX10_grantPart_86 rfl (by decide) ?_
              refine wp_iload_n (n := 88) dX10_grantPart_87 rfl rfl ?_
              refine wp_iload (n := 90) dX10_grantPart_88 rfl rfl ?_
              refine wp_iconst (n := 91) (v := 0) dX10_grantPart_90 rfl (by decide) ?_
              refine wp_iconst (n := 92) (v := 0) dX10_grantPart_91 rfl (by decide) ?_
              refine wp_iconst (n := 93) (v := (-1)) dX10_grantPart_92 rfl (by decide) ?_
              refine wp_callV6 (n := 96) (rm' := (1, 28, 0, 0)) rfl dX10_grantPart_93 rfl mlX10_106 (by repeat first | assumption | exact ax_set_self _ _ _ | exact ax_newA_self _ _ _ | refine (ax_set_ne _ _ (by omega)).trans ?_ | refine (ax_newA_ne _ _ _ (by omega)).trans ?_) rfl rfl rfl rfl rfl ?_
              refine s_X10_moves m4 c4 p4 r4 r2 r0 (by omega) (by omega) (by omega) hne s4 (fun h5 R5 f5 c5 z5 => ?_)
              show WP Γ _ _ _ _ _ _ _
              have m5 := m4.fr f5 (by omega)
              have m5' := m5
              unfold ModC at m5'
              refine wp_pop (n := 97) dX10_grantPart_96 rfl rfl ?_
              refine wp_aload_n (n := 98) dX10_grantPart_97 rfl rfl ?_
              refine wp_aload_n (n := 99) dX10_grantPart_98 rfl rfl ?_
              refine wp_putf (n := 102) dX10_grantPart_99 rfl flX10_9 (by repeat first | assumption | exact ax_set_self _ _ _ | exact ax_newA_self _ _ _ | refine (ax_set_ne _ _ (by omega)).trans ?_ | refine (ax_newA_ne _ _ _ (by omega)).trans ?_) (by omega) (by rfl) rfl rfl ?_
              refine wp_return dX10_grantPart_102 rfl (kO j9 u w3 _ R5 eG2 (by omega) g4 hjn uu1 uu2 ⟨(F3.tr (fr3.of f4 (by omega))).tr ((fr3.of f5 (by omega)).tr (fr3.of (ax_fr.set (lo := m) (hi := m + 1) (by omega)) (by omega))), ⟨_, _, ax_set_self _ _ _⟩, (ax_set_ne _ _ (by omega)).trans c5, _, (ax_set_ne _ _ (by omega)).trans (f5.get p4 (by omega))⟩ (fun bk' pk' e1 e2 => ?_))
              refine hr0.book hI0.1 hne z5 e2 (fun d hd => ?_) (fun d hd hp => ?_)
              · rw [z4 d hd, e1 d hd]
                exact ⟨fun q => by rw [show selL pl nb 0 u 0 d = true from q]; decide, fun q => bI_ne q⟩
              · rw [e1 d hd] at hp
                exact (of_decide_eq_true (bI_ne hp)).2.1
        · exact absurd rfl hc

end
