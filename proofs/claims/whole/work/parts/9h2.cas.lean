/-! ===== the law: cases ===== -/
section
variable {Γ : GE} {h : AH} {Q : PO} {p m b D sa N len i0 c0 s0 np nb ne nh nc y : Nat} {er : Int32} {bs S : FI} {f : Nat → Option Nat} {KS : Nat → KL} {qu ra le ln pl tm rw hw cw : FI} {re : Nat → UInt32} {bk : Nat → Int64} {t : Int32}
theorem cs_reverse (hA : Γ.2.1 ≤ p) (hs : ScrP Γ h sa N S) (ho : OutP h m) (c1 : ClsP h p m b D er bs len f (mkK np qu ra re le ln nb pl tm ne rw bk nh hw nc cw t y) KS) (hP : PurP len f (mkK np qu ra re le ln nb pl tm ne rw bk nh hw nc cw t y) KS) (hM : ModP h m er bs len f (mkK np qu ra re le ln nb pl tm ne rw bk nh hw nc cw t y) KS) (hi : i0 + 5 ≤ N) (k : ∀ h', Sim Γ h' p m sa N S → WP Γ ML_law (10, 196, c0, s0) 3329 [some (.ref sa), some (.ref p), some (.ref m), some (.ref (m + 12)), some (.ref (m + 13)), some (.int (nI i0)), none, none, none, none] [] h' Q) : WP Γ ML_law (10, 196, c0 + 20, s0 + 4409) 770 [some (.ref sa), some (.ref p), some (.ref m), some (.ref (m + 12)), some (.ref (m + 13)), some (.int (nI i0)), none, none, none, none] [] h Q := by
  have hs0 := hs
  have c10 := c1
  have hP0 := hP
  have hM0 := hM
  obtain ⟨hsa, hsl, hN, hfree⟩ := hs
  obtain ⟨⟨fo, o1⟩, fd, o2⟩ := ho
  obtain ⟨hF, hT, hR3, hBat, hSna, ⟨pk, hL⟩, hX, hbD, hm, hz, hsn, hap⟩ := c1
  obtain ⟨hlen, hI, hIS⟩ := hP
  obtain ⟨⟨th, at', bg, e9, ea, cm, mC⟩, ⟨R, mR, hr⟩, ⟨R2, mR2⟩, ⟨R3, mR3⟩, ⟨RE, mE, hre⟩, ⟨RA, mRA⟩, ⟨mpk, mP⟩, ⟨B, mB, hB⟩, ⟨CM, mK⟩, CC, CE, SV, mCC, mCE, mSV, hsv, hsr⟩ := hM
  have hI0 : Inv np qu ra re le ln nb pl tm ne rw bk nh hw nc cw t y := hI
  have hr0 : RowR R np qu ra re le ln nb pl tm ne rw bk nh hw nc cw t y := hr
  have hL0 : LedP h b np qu ra re le ln nb pl tm ne rw bk nh hw nc cw t y pk := hL
  have hre0 : ∀ j, j < np → RE j = re j := hre
  obtain ⟨⟨s1, s2, s3, s4, s5, s6, s7, s8, tn, s9, s10⟩, IM, IP, IJ, IR, IC⟩ := hI0
  have hI0 : Inv np qu ra re le ln nb pl tm ne rw bk nh hw nc cw t y := hI
  have hF' := hF
  unfold FacC at hF'
  have ho : OutP h m := ⟨⟨fo, o1⟩, fd, o2⟩
  have TE : ∀ (X Y : Nat) (h2 : AH) (kk : Int32) (v9 : Int32), ¬ kk = 0 → Sim Γ h2 p m sa N S → (∃ tl at' bg e9 ea lr cm, ModC h2 m (m + 1) kk tl at' bg e9 ea lr cm) → WP Γ ML_law (10, 196, c0 + X, s0 + Y) 793 [some (.ref sa), some (.ref p), some (.ref m), some (.ref (m + 12)), some (.ref (m + 13)), some (.int (nI i0)), some (.int kk), none, none, none] [.int v9] h2 Q := by
    intro X Y h2 kk v9 hk hsim hm2
    obtain ⟨tl2, at2, bg2, e2, ea2, lr2, cm2, m2⟩ := hm2
    have m20 := m2
    unfold ModC at m2
    refine wp_istore (n := 795) dL_law_793 rfl rfl rfl rfl ?_
    refine wp_aload_n (n := 796) dL_law_795 rfl rfl ?_
    refine wp_callVs (n := 799) (rm' := (0, 0, 0, 0)) (c0 := c0) (s0 := s0) rfl dL_law_796 rfl mlL_156 [] rfl rfl m2 rfl rfl rfl (Nat.le_of_ble_eq_true rfl) rfl ?_
    refine s_X10_thrown m20 ?_
    show WP Γ _ _ _ _ _ _ _
    refine wp_iload (n := 801) dL_law_799 rfl rfl ?_
    refine wp_icmp_eq (t := 806) (n := 804) dL_law_801 (by decide) rfl (fun hc => ?_) (fun hc => ?_)
    · refine wp_iload (n := 808) dL_law_806 rfl rfl ?_
      refine wp_if_ne (t := 823) (n := 811) dL_law_808 (by decide) rfl (fun hq => ?_) (fun hq => ?_)
      · refine wp_goto (t := 3329) dL_law_823 (by decide) ?_
        refine wp_lo (lo' := [some (.ref sa), some (.ref p), some (.ref m), some (.ref (m + 12)), some (.ref (m + 13)), some (.int (nI i0)), none, none, none, none]) (fun k v hk => ?_) ?_
        · match k, hk with
          | 0, hk => exact hk
          | 1, hk => exact hk
          | 2, hk => exact hk
          | 3, hk => exact hk
          | 4, hk => exact hk
          | 5, hk => exact hk
          | 6, hk => exact absurd hk (by simp [ax_gl])
          | 7, hk => exact absurd hk (by simp [ax_gl])
          | 8, hk => exact absurd hk (by simp [ax_gl])
          | 9, hk => exact absurd hk (by simp [ax_gl])
          | k + 10, hk => exact absurd hk (by simp [ax_gl])
        exact wp_big (rm := (10, 196, c0, s0)) (Nat.le_refl _) (Nat.le_refl _) (Nat.le_add_right _ _) (Nat.le_add_right _ _) (k h2 hsim)
      · exact absurd hq hk
    · exact absurd rfl hc
  have TO : ∀ (X Y : Nat) (h2 : AH) (r : Int32) (fo2 : Nat → Int64), Sim Γ h2 p m sa N S → (∃ tl at' bg e9 ea lr cm, ModC h2 m (m + 1) 0 tl at' bg e9 ea lr cm) → h2.2 (m + 12) = some (.inl (.long, 1, .inr (.inl fo2))) → fo2 0 = r.toInt64 → WP Γ ML_law (10, 196, c0 + X, s0 + Y) 793 [some (.ref sa), some (.ref p), some (.ref m), some (.ref (m + 12)), some (.ref (m + 13)), some (.int (nI i0)), some (.int 0), none, none, none] [.int r] h2 Q := by
    intro X Y h2 r fo2 hsim hm2 ho2 hv2
    obtain ⟨tl2, at2, bg2, e2, ea2, lr2, cm2, m2⟩ := hm2
    have m20 := m2
    unfold ModC at m2
    have fin : ∀ l7 : Option Value, WP Γ ML_law (10, 196, c0 + (X - 0), s0 + (Y - 0)) 823 [some (.ref sa), some (.ref p), some (.ref m), some (.ref (m + 12)), some (.ref (m + 13)), some (.int (nI i0)), some (.int 0), l7, none, none] [] h2 Q := by
      intro l7
      refine wp_goto (t := 3329) dL_law_823 (by decide) ?_
      refine wp_lo (lo' := [some (.ref sa), some (.ref p), some (.ref m), some (.ref (m + 12)), some (.ref (m + 13)), some (.int (nI i0)), none, none, none, none]) (fun k v hk => ?_) ?_
      · match k, hk with
        | 0, hk => exact hk
        | 1, hk => exact hk
        | 2, hk => exact hk
        | 3, hk => exact hk
        | 4, hk => exact hk
        | 5, hk => exact hk
        | 6, hk => exact absurd hk (by simp [ax_gl])
        | 7, hk => exact absurd hk (by simp [ax_gl])
        | 8, hk => exact absurd hk (by simp [ax_gl])
        | 9, hk => exact absurd hk (by simp [ax_gl])
        | k + 10, hk => exact absurd hk (by simp [ax_gl])
      exact wp_big (rm := (10, 196, c0, s0)) (Nat.le_refl _) (Nat.le_refl _) (Nat.le_add_right _ _) (Nat.le_add_right _ _) (k h2 hsim)
    refine wp_istore (n := 795) dL_law_793 rfl rfl rfl rfl ?_
    refine wp_aload_n (n := 796) dL_law_795 rfl rfl ?_
    refine wp_callVs (n := 799) (rm' := (0, 0, 0, 0)) (c0 := c0) (s0 := s0) rfl dL_law_796 rfl mlL_156 [] rfl rfl m2 rfl rfl rfl (Nat.le_of_ble_eq_true rfl) rfl ?_
    refine s_X10_thrown m20 ?_
    show WP Γ _ _ _ _ _ _ _
    refine wp_iload (n := 801) dL_law_799 rfl rfl ?_
    refine wp_icmp_eq (t := 806) (n := 804) dL_law_801 (by decide) rfl (fun hc => ?_) (fun hc => ?_)
    · refine wp_iload (n := 808) dL_law_806 rfl rfl ?_
      refine wp_if_ne (t := 823) (n := 811) dL_law_808 (by decide) rfl (fun hq => ?_) (fun hq => ?_)
      · exact absurd rfl hq
      · refine wp_aload_n (n := 812) dL_law_811 rfl rfl ?_
        refine wp_iconst (n := 813) (v := 0) dL_law_812 rfl (by decide) ?_
        refine wp_lald (n := 814) 0 dL_law_813 rfl ho2 rfl (by omega) (by omega) ?_
        rw [hv2]
        refine wp_iload (n := 816) dL_law_814 rfl rfl ?_
        refine wp_i2l (n := 817) dL_law_816 rfl ?_
        refine wp_lcmp (n := 818) dL_law_817 rfl ?_
        rw [lg_self]
        refine wp_if_eq (t := 823) (n := 821) dL_law_818 (by decide) rfl (fun hu => ?_) (fun hu => ?_)
        · exact fin _
        · exact absurd rfl hu
    · exact absurd rfl hc
  have MC : ∀ (X Y : Nat) (h3 : AH) (kk : Int32), h3.2 m = h.2 m → h3.2 sa = h.2 sa → WP Γ MX10_reverse (5, 115, 0, 0) 0 [some (.ref m), some (.int (S (i0 + 1)))] [] h3 (ax_K Γ ML_law (10, 196, c0 + (X - 0), s0 + (Y - 0)) 793 [some (.ref sa), some (.ref p), some (.ref m), some (.ref (m + 12)), some (.ref (m + 13)), some (.int (nI i0)), some (.int kk), none, none, none] [] Q) → WP Γ ML_law (10, 196, c0 + X, s0 + Y) 781 [some (.ref sa), some (.ref p), some (.ref m), some (.ref (m + 12)), some (.ref (m + 13)), some (.int (nI i0)), none, none, none, none] [.int kk] h3 Q := by
    intro X Y h3 kk e1 e2 kk3
    have mC3' := ModC.mv e1 mC
    unfold ModC at mC3'
    have hsa3 := e2.trans hsa
    refine wp_istore (n := 783) dL_law_781 rfl rfl rfl rfl ?_
    refine wp_aload_n (n := 784) dL_law_783 rfl rfl ?_
    refine wp_aload_n (n := 785) dL_law_784 rfl rfl ?_
    refine wp_iload (n := 787) dL_law_785 rfl rfl ?_
    refine wp_iconst (n := 788) (v := nI 1) dL_law_787 rfl (by decide) ?_
    refine wp_iadd (n := 789) dL_law_788 rfl ?_
    refine wp_iald (n := 790) (i0 + 1) dL_law_789 rfl (by repeat first | assumption | exact ax_set_self _ _ _ | exact ax_newA_self _ _ _ | refine (ax_set_ne _ _ (by omega)).trans ?_ | refine (ax_newA_ne _ _ _ (by omega)).trans ?_) (by simp only [nI_zero, nI_mul, nI_add]) (by omega) (by omega) ?_
    refine wp_callVs (n := 793) (rm' := (5, 115, 0, 0)) (c0 := c0) (s0 := s0) rfl dL_law_790 rfl mlL_204 [.int (S (i0 + 1))] rfl rfl mC3' rfl rfl rfl (Nat.le_of_ble_eq_true rfl) rfl ?_
    exact kk3
  refine wp_aload_n (n := 771) dL_law_770 rfl rfl ?_
  refine wp_aload_n (n := 772) dL_law_771 rfl rfl ?_
  refine wp_iload (n := 774) dL_law_772 rfl rfl ?_
  refine wp_iconst (n := 775) (v := nI 1) dL_law_774 rfl (by decide) ?_
  refine wp_iadd (n := 776) dL_law_775 rfl ?_
  refine wp_iald (n := 777) (i0 + 1) dL_law_776 rfl (by repeat first | assumption | exact ax_set_self _ _ _ | exact ax_newA_self _ _ _ | refine (ax_set_ne _ _ (by omega)).trans ?_ | refine (ax_newA_ne _ _ _ (by omega)).trans ?_) (by simp only [nI_zero, nI_mul, nI_add]) (by omega) (by omega) ?_
  refine wp_aload_n (n := 778) dL_law_777 rfl rfl ?_
  refine wp_callSH (n := 781) (rm' := (8, 137, 1, 6)) (c0 := c0) (s0 := s0) (C := 20) (S := 4409) rfl dL_law_778 rfl mwL_202 [.ref p, .int (S (i0 + 1)), .ref (m + 12)] rfl rfl rfl rfl (Nat.le_of_ble_eq_true rfl) rfl ?_
  refine s_L_reverse hF' (by omega) ?_
  refine s_X9_reverse hF hL0 (by omega) (by omega) (by omega) (by omega) (by omega) (fun e he => by obtain ⟨i, a, b⟩ := (IJ.1 e he).1; exact ⟨i, b, a⟩) (fun c1 n1 hn1 => ?_) (fun e j r h1 he ee ej hj hL1 fr1 hF9 => ?_) (fun e j he ee ej hj hne h5 h6 hall hob h1 bk1 pk1 fr1 hpk hL1 hbok => ?_)
  · refine Or.inr (Or.inl ⟨rfl, rfl, ?_⟩)
    show WP Γ _ _ _ _ _ _ _
    have B : Bet p m h h _ := Bet.n (p := p) ho hn1
    refine MC _ _ _ _ (B.1 _ (by omega)) (B.1 _ (by omega)) ?_
    refine s_X10_reverse (ModC.mv (B.1 _ (by omega)) mC) ((B.1 _ (by omega)).trans mR) ((B.1 _ (by omega)).trans mP) hr0 hI0 (by omega) (by omega) (by omega) (by omega) (fun d1 h2 fr2 m2 => ?_) (fun e2 j2 r2 h2 pk2 he2 ee2 ej2 hj2 hF2 fz fr2 m2 p2 => ?_) (fun e2 j2 h2 R9 pk2 he2 ee2 ej2 hj2 fz fr2 m2 r9 p2 hne2 h52 h62 hall2 hob2 hK => ?_)
    · show WP Γ _ _ _ _ _ _ _
      exact TE _ _ h2 _ _ (by decide) (fin_q hA hs0 hM0 hP0 c10 hm B fr2 ⟨_, _, _, _, _, _, m2⟩) ⟨_, _, _, _, _, _, _, m2⟩
    · have d1 : inN (S (i0 + 1)) ne = true := by rw [ee2]; exact inN_of he2 (by omega)
      exact absurd (c1.symm.trans d1) (by decide)
    · have d1 : inN (S (i0 + 1)) ne = true := by rw [ee2]; exact inN_of he2 (by omega)
      exact absurd (c1.symm.trans d1) (by decide)
  · refine ⟨fo, ((fr1.2 _ (by omega)).trans o1), fun fo1 hv => ?_⟩
    show WP Γ _ _ _ _ _ _ _
    have B : Bet p m h h1 _ := Bet.o fo1 ho hm (fun c hc => fr1.2 c (by omega))
    have c1 : inN (S (i0 + 1)) ne = true := by rw [ee]; exact inN_of he (by omega)
    refine MC _ _ _ _ (B.1 _ (by omega)) (B.1 _ (by omega)) ?_
    refine s_X10_reverse (ModC.mv (B.1 _ (by omega)) mC) ((B.1 _ (by omega)).trans mR) ((B.1 _ (by omega)).trans mP) hr0 hI0 (by omega) (by omega) (by omega) (by omega) (fun d1 h2 fr2 m2 => ?_) (fun e2 j2 r2 h2 pk2 he2 ee2 ej2 hj2 hF2 fz fr2 m2 p2 => ?_) (fun e2 j2 h2 R9 pk2 he2 ee2 ej2 hj2 fz fr2 m2 r9 p2 hne2 h52 h62 hall2 hob2 hK => ?_)
    · exact absurd (c1.symm.trans d1) (by decide)
    · have d1 : inN (S (i0 + 1)) ne = true := by rw [ee2]; exact inN_of he2 (by omega)
      show WP Γ _ _ _ _ _ _ _
      obtain rfl : e = e2 := (nI_eq9 (by omega) (by omega)).mp (ee.symm.trans ee2)
      obtain rfl : j = j2 := (nI_eq9 (by omega) (by omega)).mp (ej.symm.trans ej2)
      obtain rfl : r = r2 := RevF_det hF9 hF2
      exact TO _ _ h2 _ fo1 (fin_s (K' := mkK np qu ra re le ln nb pl tm ne rw bk nh hw nc cw t y) hA hs0 hM0 ⟨hlen, hI0, hIS⟩ (c10.led fr1 hL1) hm B fz (fun c a _ _ d => fr2 c a d) ⟨_, _, _, _, _, _, m2⟩ ⟨R, (fr2 _ (by omega) (by omega)).trans ((B.1 _ (by omega)).trans mR), hr0⟩ ⟨RE, (fr2 _ (by omega) (by omega)).trans ((B.1 _ (by omega)).trans mE), hre0⟩ ⟨pk2, p2⟩) ⟨_, _, _, _, _, _, _, m2⟩ ((fr2 _ (by omega) (by omega)).trans (ax_set_self _ _ _)) hv
    · have d1 : inN (S (i0 + 1)) ne = true := by rw [ee2]; exact inN_of he2 (by omega)
      obtain rfl : e = e2 := (nI_eq9 (by omega) (by omega)).mp (ee.symm.trans ee2)
      obtain rfl : j = j2 := (nI_eq9 (by omega) (by omega)).mp (ej.symm.trans ej2)
      exact (RevF_no hF9 hne2 h52 h62 hall2 hob2).elim
  · refine ⟨fo, ((fr1.2 _ (by omega)).trans o1), fun fo1 hv => ?_⟩
    show WP Γ _ _ _ _ _ _ _
    have B : Bet p m h h1 _ := Bet.o fo1 ho hm (fun c hc => fr1.2 c (by omega))
    have c1 : inN (S (i0 + 1)) ne = true := by rw [ee]; exact inN_of he (by omega)
    refine MC _ _ _ _ (B.1 _ (by omega)) (B.1 _ (by omega)) ?_
    refine s_X10_reverse (ModC.mv (B.1 _ (by omega)) mC) ((B.1 _ (by omega)).trans mR) ((B.1 _ (by omega)).trans mP) hr0 hI0 (by omega) (by omega) (by omega) (by omega) (fun d1 h2 fr2 m2 => ?_) (fun e2 j2 r2 h2 pk2 he2 ee2 ej2 hj2 hF2 fz fr2 m2 p2 => ?_) (fun e2 j2 h2 R9 pk2 he2 ee2 ej2 hj2 fz fr2 m2 r9 p2 hne2 h52 h62 hall2 hob2 hK => ?_)
    · exact absurd (c1.symm.trans d1) (by decide)
    · have d1 : inN (S (i0 + 1)) ne = true := by rw [ee2]; exact inN_of he2 (by omega)
      obtain rfl : e = e2 := (nI_eq9 (by omega) (by omega)).mp (ee.symm.trans ee2)
      obtain rfl : j = j2 := (nI_eq9 (by omega) (by omega)).mp (ej.symm.trans ej2)
      exact (RevF_no hF2 hne h5 h6 hall hob).elim
    · have d1 : inN (S (i0 + 1)) ne = true := by rw [ee2]; exact inN_of he2 (by omega)
      show WP Γ _ _ _ _ _ _ _
      obtain rfl : e = e2 := (nI_eq9 (by omega) (by omega)).mp (ee.symm.trans ee2)
      obtain rfl : j = j2 := (nI_eq9 (by omega) (by omega)).mp (ej.symm.trans ej2)
      have hRev : RevOk np qu ra re le ln nb pl tm ne rw bk nh hw nc cw t y e j (mkK np qu ra re le ln nb (putF pl nb pk1 (nI j)) (putF tm nb pk1 t) (ne + 1) (upd (upd (upd7 rw ne (rw (e * 7 + 1)) (nI j) (rw (e * 7 + 2)) (rw (e * 7 + 3)) t (nI 1) (-1)) (e * 7 + 6) (nI ne)) (ne * 7 + 6) (nI e)) bk1 nh hw nc cw t y) := ⟨hne, h5, h6, hall, hob, bk1, pk1, hpk, hbok, rfl⟩
      exact TO _ _ h2 _ fo1 (fin_s (K' := mkK np qu ra re le ln nb (putF pl nb pk1 (nI j)) (putF tm nb pk1 t) (ne + 1) (upd (upd (upd7 rw ne (rw (e * 7 + 1)) (nI j) (rw (e * 7 + 2)) (rw (e * 7 + 3)) t (nI 1) (-1)) (e * 7 + 6) (nI ne)) (ne * 7 + 6) (nI e)) bk1 nh hw nc cw t y) hA hs0 hM0 ⟨hlen, hI0.rev he ej hj hRev, hIS⟩ (c10.led fr1 ⟨_, hL1⟩) hm B fz (fun c a b _ d => fr2 c a b d) ⟨_, _, _, _, _, _, m2⟩ ⟨R9, r9, hK _ hRev⟩ ⟨RE, (fr2 _ (by omega) (by omega) (by omega)).trans ((B.1 _ (by omega)).trans mE), hre0⟩ ⟨pk2, p2⟩) ⟨_, _, _, _, _, _, _, m2⟩ ((fr2 _ (by omega) (by omega) (by omega)).trans (ax_set_self _ _ _)) hv
theorem cs_commit (hA : Γ.2.1 ≤ p) (hs : ScrP Γ h sa N S) (ho : OutP h m) (c1 : ClsP h p m b D er bs len f (mkK np qu ra re le ln nb pl tm ne rw bk nh hw nc cw t y) KS) (hP : PurP len f (mkK np qu ra re le ln nb pl tm ne rw bk nh hw nc cw t y) KS) (hM : ModP h m er bs len f (mkK np qu ra re le ln nb pl tm ne rw bk nh hw nc cw t y) KS) (hi : i0 + 5 ≤ N) (k : ∀ h', Sim Γ h' p m sa N S → WP Γ ML_law (10, 196, c0, s0) 3329 [some (.ref sa), some (.ref p), some (.ref m), some (.ref (m + 12)), some (.ref (m + 13)), some (.int (nI i0)), none, none, none, none] [] h' Q) : WP Γ ML_law (10, 196, c0 + 20, s0 + 4409) 918 [some (.ref sa), some (.ref p), some (.ref m), some (.ref (m + 12)), some (.ref (m + 13)), some (.int (nI i0)), none, none, none, none] [] h Q := by
  have hs0 := hs
  have c10 := c1
  have hP0 := hP
  have hM0 := hM
  obtain ⟨hsa, hsl, hN, hfree⟩ := hs
  obtain ⟨⟨fo, o1⟩, fd, o2⟩ := ho
  obtain ⟨hF, hT, hR3, hBat, hSna, ⟨pk, hL⟩, hX, hbD, hm, hz, hsn, hap⟩ := c1
  obtain ⟨hlen, hI, hIS⟩ := hP
  obtain ⟨⟨th, at', bg, e9, ea, cm, mC⟩, ⟨R, mR, hr⟩, ⟨R2, mR2⟩, ⟨R3, mR3⟩, ⟨RE, mE, hre⟩, ⟨RA, mRA⟩, ⟨mpk, mP⟩, ⟨B, mB, hB⟩, ⟨CM, mK⟩, CC, CE, SV, mCC, mCE, mSV, hsv, hsr⟩ := hM
  have hI0 : Inv np qu ra re le ln nb pl tm ne rw bk nh hw nc cw t y := hI
  have hr0 : RowR R np qu ra re le ln nb pl tm ne rw bk nh hw nc cw t y := hr
  have hL0 : LedP h b np qu ra re le ln nb pl tm ne rw bk nh hw nc cw t y pk := hL
  have hre0 : ∀ j, j < np → RE j = re j := hre
  obtain ⟨⟨s1, s2, s3, s4, s5, s6, s7, s8, tn, s9, s10⟩, IM, IP, IJ, IR, IC⟩ := hI0
  have hI0 : Inv np qu ra re le ln nb pl tm ne rw bk nh hw nc cw t y := hI
  have hF' := hF
  unfold FacC at hF'
  have ho : OutP h m := ⟨⟨fo, o1⟩, fd, o2⟩
  have TE : ∀ (X Y : Nat) (h2 : AH) (kk : Int32) (v9 : Int32), ¬ kk = 0 → Sim Γ h2 p m sa N S → (∃ tl at' bg e9 ea lr cm, ModC h2 m (m + 1) kk tl at' bg e9 ea lr cm) → WP Γ ML_law (10, 196, c0 + X, s0 + Y) 953 [some (.ref sa), some (.ref p), some (.ref m), some (.ref (m + 12)), some (.ref (m + 13)), some (.int (nI i0)), some (.int kk), none, none, none] [.int v9] h2 Q := by
    intro X Y h2 kk v9 hk hsim hm2
    obtain ⟨tl2, at2, bg2, e2, ea2, lr2, cm2, m2⟩ := hm2
    have m20 := m2
    unfold ModC at m2
    refine wp_istore (n := 955) dL_law_953 rfl rfl rfl rfl ?_
    refine wp_aload_n (n := 956) dL_law_955 rfl rfl ?_
    refine wp_callVs (n := 959) (rm' := (0, 0, 0, 0)) (c0 := c0) (s0 := s0) rfl dL_law_956 rfl mlL_156 [] rfl rfl m2 rfl rfl rfl (Nat.le_of_ble_eq_true rfl) rfl ?_
    refine s_X10_thrown m20 ?_
    show WP Γ _ _ _ _ _ _ _
    refine wp_iload (n := 961) dL_law_959 rfl rfl ?_
    refine wp_icmp_eq (t := 966) (n := 964) dL_law_961 (by decide) rfl (fun hc => ?_) (fun hc => ?_)
    · refine wp_iload (n := 968) dL_law_966 rfl rfl ?_
      refine wp_if_ne (t := 983) (n := 971) dL_law_968 (by decide) rfl (fun hq => ?_) (fun hq => ?_)
      · refine wp_goto (t := 3329) dL_law_983 (by decide) ?_
        refine wp_lo (lo' := [some (.ref sa), some (.ref p), some (.ref m), some (.ref (m + 12)), some (.ref (m + 13)), some (.int (nI i0)), none, none, none, none]) (fun k v hk => ?_) ?_
        · match k, hk with
          | 0, hk => exact hk
          | 1, hk => exact hk
          | 2, hk => exact hk
          | 3, hk => exact hk
          | 4, hk => exact hk
          | 5, hk => exact hk
          | 6, hk => exact absurd hk (by simp [ax_gl])
          | 7, hk => exact absurd hk (by simp [ax_gl])
          | 8, hk => exact absurd hk (by simp [ax_gl])
          | 9, hk => exact absurd hk (by simp [ax_gl])
          | k + 10, hk => exact absurd hk (by simp [ax_gl])
        exact wp_big (rm := (10, 196, c0, s0)) (Nat.le_refl _) (Nat.le_refl _) (Nat.le_add_right _ _) (Nat.le_add_right _ _) (k h2 hsim)
      · exact absurd hq hk
    · exact absurd rfl hc
  have TO : ∀ (X Y : Nat) (h2 : AH) (r : Int32) (fo2 : Nat → Int64), Sim Γ h2 p m sa N S → (∃ tl at' bg e9 ea lr cm, ModC h2 m (m + 1) 0 tl at' bg e9 ea lr cm) → h2.2 (m + 12) = some (.inl (.long, 1, .inr (.inl fo2))) → fo2 0 = r.toInt64 → WP Γ ML_law (10, 196, c0 + X, s0 + Y) 953 [some (.ref sa), some (.ref p), some (.ref m), some (.ref (m + 12)), some (.ref (m + 13)), some (.int (nI i0)), some (.int 0), none, none, none] [.int r] h2 Q := by
    intro X Y h2 r fo2 hsim hm2 ho2 hv2
    obtain ⟨tl2, at2, bg2, e2, ea2, lr2, cm2, m2⟩ := hm2
    have m20 := m2
    unfold ModC at m2
    have fin : ∀ l7 : Option Value, WP Γ ML_law (10, 196, c0 + (X - 0), s0 + (Y - 0)) 983 [some (.ref sa), some (.ref p), some (.ref m), some (.ref (m + 12)), some (.ref (m + 13)), some (.int (nI i0)), some (.int 0), l7, none, none] [] h2 Q := by
      intro l7
      refine wp_goto (t := 3329) dL_law_983 (by decide) ?_
      refine wp_lo (lo' := [some (.ref sa), some (.ref p), some (.ref m), some (.ref (m + 12)), some (.ref (m + 13)), some (.int (nI i0)), none, none, none, none]) (fun k v hk => ?_) ?_
      · match k, hk with
        | 0, hk => exact hk
        | 1, hk => exact hk
        | 2, hk => exact hk
        | 3, hk => exact hk
        | 4, hk => exact hk
        | 5, hk => exact hk
        | 6, hk => exact absurd hk (by simp [ax_gl])
        | 7, hk => exact absurd hk (by simp [ax_gl])
        | 8, hk => exact absurd hk (by simp [ax_gl])
        | 9, hk => exact absurd hk (by simp [ax_gl])
        | k + 10, hk => exact absurd hk (by simp [ax_gl])
      exact wp_big (rm := (10, 196, c0, s0)) (Nat.le_refl _) (Nat.le_refl _) (Nat.le_add_right _ _) (Nat.le_add_right _ _) (k h2 hsim)
    refine wp_istore (n := 955) dL_law_953 rfl rfl rfl rfl ?_
    refine wp_aload_n (n := 956) dL_law_955 rfl rfl ?_
    refine wp_callVs (n := 959) (rm' := (0, 0, 0, 0)) (c0 := c0) (s0 := s0) rfl dL_law_956 rfl mlL_156 [] rfl rfl m2 rfl rfl rfl (Nat.le_of_ble_eq_true rfl) rfl ?_
    refine s_X10_thrown m20 ?_
    show WP Γ _ _ _ _ _ _ _
    refine wp_iload (n := 961) dL_law_959 rfl rfl ?_
    refine wp_icmp_eq (t := 966) (n := 964) dL_law_961 (by decide) rfl (fun hc => ?_) (fun hc => ?_)
    · refine wp_iload (n := 968) dL_law_966 rfl rfl ?_
      refine wp_if_ne (t := 983) (n := 971) dL_law_968 (by decide) rfl (fun hq => ?_) (fun hq => ?_)
      · exact absurd rfl hq
      · refine wp_aload_n (n := 972) dL_law_971 rfl rfl ?_
        refine wp_iconst (n := 973) (v := 0) dL_law_972 rfl (by decide) ?_
        refine wp_lald (n := 974) 0 dL_law_973 rfl ho2 rfl (by omega) (by omega) ?_
        rw [hv2]
        refine wp_iload (n := 976) dL_law_974 rfl rfl ?_
        refine wp_i2l (n := 977) dL_law_976 rfl ?_
        refine wp_lcmp (n := 978) dL_law_977 rfl ?_
        rw [lg_self]
        refine wp_if_eq (t := 983) (n := 981) dL_law_978 (by decide) rfl (fun hu => ?_) (fun hu => ?_)
        · exact fin _
        · exact absurd rfl hu
    · exact absurd rfl hc
  have MC : ∀ (X Y : Nat) (h3 : AH) (kk : Int32), h3.2 m = h.2 m → h3.2 sa = h.2 sa → WP Γ MX10_commit (5, 115, 0, 0) 0 [some (.ref m), some (.int (S (i0 + 1))), some (.int (S (i0 + 2))), none] [] h3 (ax_K Γ ML_law (10, 196, c0 + (X - 0), s0 + (Y - 0)) 953 [some (.ref sa), some (.ref p), some (.ref m), some (.ref (m + 12)), some (.ref (m + 13)), some (.int (nI i0)), some (.int kk), none, none, none] [] Q) → WP Γ ML_law (10, 196, c0 + X, s0 + Y) 935 [some (.ref sa), some (.ref p), some (.ref m), some (.ref (m + 12)), some (.ref (m + 13)), some (.int (nI i0)), none, none, none, none] [.int kk] h3 Q := by
    intro X Y h3 kk e1 e2 kk3
    have mC3' := ModC.mv e1 mC
    unfold ModC at mC3'
    have hsa3 := e2.trans hsa
    refine wp_istore (n := 937) dL_law_935 rfl rfl rfl rfl ?_
    refine wp_aload_n (n := 938) dL_law_937 rfl rfl ?_
    refine wp_aload_n (n := 939) dL_law_938 rfl rfl ?_
    refine wp_iload (n := 941) dL_law_939 rfl rfl ?_
    refine wp_iconst (n := 942) (v := nI 1) dL_law_941 rfl (by decide) ?_
    refine wp_iadd (n := 943) dL_law_942 rfl ?_
    refine wp_iald (n := 944) (i0 + 1) dL_law_943 rfl (by repeat first | assumption | exact ax_set_self _ _ _ | exact ax_newA_self _ _ _ | refine (ax_set_ne _ _ (by omega)).trans ?_ | refine (ax_newA_ne _ _ _ (by omega)).trans ?_) (by simp only [nI_zero, nI_mul, nI_add]) (by omega) (by omega) ?_
    refine wp_aload_n (n := 945) dL_law_944 rfl rfl ?_
    refine wp_iload (n := 947) dL_law_945 rfl rfl ?_
    refine wp_iconst (n := 948) (v := nI 2) dL_law_947 rfl (by decide) ?_
    refine wp_iadd (n := 949) dL_law_948 rfl ?_
    refine wp_iald (n := 950) (i0 + 2) dL_law_949 rfl (by repeat first | assumption | exact ax_set_self _ _ _ | exact ax_newA_self _ _ _ | refine (ax_set_ne _ _ (by omega)).trans ?_ | refine (ax_newA_ne _ _ _ (by omega)).trans ?_) (by simp only [nI_zero, nI_mul, nI_add]) (by omega) (by omega) ?_
    refine wp_callVs (n := 953) (rm' := (5, 115, 0, 0)) (c0 := c0) (s0 := s0) rfl dL_law_950 rfl mlL_210 [.int (S (i0 + 1)), .int (S (i0 + 2))] rfl rfl mC3' rfl rfl rfl (Nat.le_of_ble_eq_true rfl) rfl ?_
    exact kk3
  refine wp_aload_n (n := 919) dL_law_918 rfl rfl ?_
  refine wp_aload_n (n := 920) dL_law_919 rfl rfl ?_
  refine wp_iload (n := 922) dL_law_920 rfl rfl ?_
  refine wp_iconst (n := 923) (v := nI 1) dL_law_922 rfl (by decide) ?_
  refine wp_iadd (n := 924) dL_law_923 rfl ?_
  refine wp_iald (n := 925) (i0 + 1) dL_law_924 rfl (by repeat first | assumption | exact ax_set_self _ _ _ | exact ax_newA_self _ _ _ | refine (ax_set_ne _ _ (by omega)).trans ?_ | refine (ax_newA_ne _ _ _ (by omega)).trans ?_) (by simp only [nI_zero, nI_mul, nI_add]) (by omega) (by omega) ?_
  refine wp_aload_n (n := 926) dL_law_925 rfl rfl ?_
  refine wp_iload (n := 928) dL_law_926 rfl rfl ?_
  refine wp_iconst (n := 929) (v := nI 2) dL_law_928 rfl (by decide) ?_
  refine wp_iadd (n := 930) dL_law_929 rfl ?_
  refine wp_iald (n := 931) (i0 + 2) dL_law_930 rfl (by repeat first | assumption | exact ax_set_self _ _ _ | exact ax_newA_self _ _ _ | refine (ax_set_ne _ _ (by omega)).trans ?_ | refine (ax_newA_ne _ _ _ (by omega)).trans ?_) (by simp only [nI_zero, nI_mul, nI_add]) (by omega) (by omega) ?_
  refine wp_aload_n (n := 932) dL_law_931 rfl rfl ?_
  refine wp_callSH (n := 935) (rm' := (8, 138, 2, 12)) (c0 := c0) (s0 := s0) (C := 20) (S := 4409) rfl dL_law_932 rfl mwL_208 [.ref p, .int (S (i0 + 1)), .int (S (i0 + 2)), .ref (m + 12)] rfl rfl rfl rfl (Nat.le_of_ble_eq_true rfl) rfl ?_
  refine s_L_commit hF' (by omega) ?_
  refine s_X9_commit hF hL0 (by omega) (by omega) (by omega) (by omega) (by omega) (by omega) (fun d hd => (IM d hd).2) (fun r hr9 => by obtain ⟨_, ⟨j, a, b⟩, u, _, c, d⟩ := IR r hr9; exact ⟨j, u, b, a, d, c⟩) (fun c1 n1 hn1 => ?_) (fun c1 c2 n1 hn1 => ?_) (fun r j u hr9 er ej hj eu hu c2 s es hs => ?_) (fun r j u hr9 er ej hj eu hu c2 hpd hne hob h1 bk1 pk1 fr1 hpk hL1 hbok => ?_)
  · refine Or.inr (Or.inr ⟨rfl, Or.inl ⟨rfl, ?_⟩⟩)
    show WP Γ _ _ _ _ _ _ _
    have B : Bet p m h h _ := Bet.n (p := p) ho hn1
    refine MC _ _ _ _ (B.1 _ (by omega)) (B.1 _ (by omega)) ?_
    refine s_X10_commit (ModC.mv (B.1 _ (by omega)) mC) ((B.1 _ (by omega)).trans mR) hr0 hI0 (by omega) (by omega) ((B.1 _ (by omega)).trans mP) (by omega) (by omega) (fun d1 h2 fr2 m2 => ?_) (fun d1 d2 h2 fr2 m2 => ?_) (fun r2 i2 j2 u2 hr92 er2 ei2 hi2 ej2 hj2 eu2 hu02 hu12 d2 s2 es2 hs2 h2 R9 fz fr2 m2 r9 hrr => ?_) (fun r2 i2 j2 u2 hr92 er2 ei2 hi2 ej2 hj2 eu2 hu02 hu12 d2 hpd2 hne2 hob2 h2 R9 pk2 fz fr2 m2 r9 p2 hK => ?_)
    · show WP Γ _ _ _ _ _ _ _
      exact TE _ _ h2 _ _ (by decide) (fin_q hA hs0 hM0 hP0 c10 hm B fr2 ⟨_, _, _, _, _, _, m2⟩) ⟨_, _, _, _, _, _, _, m2⟩
    · exact absurd (c1.symm.trans d1) (by decide)
    · have d1 : inN (S (i0 + 1)) nh = true := by rw [er2]; exact inN_of hr92 (by omega)
      exact absurd (c1.symm.trans d1) (by decide)
    · have d1 : inN (S (i0 + 1)) nh = true := by rw [er2]; exact inN_of hr92 (by omega)
      exact absurd (c1.symm.trans d1) (by decide)
  · refine Or.inr (Or.inr ⟨rfl, Or.inr ⟨rfl, ?_⟩⟩)
    show WP Γ _ _ _ _ _ _ _
    have B : Bet p m h h _ := Bet.n (p := p) ho hn1
    refine MC _ _ _ _ (B.1 _ (by omega)) (B.1 _ (by omega)) ?_
    refine s_X10_commit (ModC.mv (B.1 _ (by omega)) mC) ((B.1 _ (by omega)).trans mR) hr0 hI0 (by omega) (by omega) ((B.1 _ (by omega)).trans mP) (by omega) (by omega) (fun d1 h2 fr2 m2 => ?_) (fun d1 d2 h2 fr2 m2 => ?_) (fun r2 i2 j2 u2 hr92 er2 ei2 hi2 ej2 hj2 eu2 hu02 hu12 d2 s2 es2 hs2 h2 R9 fz fr2 m2 r9 hrr => ?_) (fun r2 i2 j2 u2 hr92 er2 ei2 hi2 ej2 hj2 eu2 hu02 hu12 d2 hpd2 hne2 hob2 h2 R9 pk2 fz fr2 m2 r9 p2 hK => ?_)
    · exact absurd (c1.symm.trans d1) (by decide)
    · show WP Γ _ _ _ _ _ _ _
      exact TE _ _ h2 _ _ (by decide) (fin_q hA hs0 hM0 hP0 c10 hm B fr2 ⟨_, _, _, _, _, _, m2⟩) ⟨_, _, _, _, _, _, _, m2⟩
    · have d1 : inN (S (i0 + 1)) nh = true := by rw [er2]; exact inN_of hr92 (by omega)
      exact absurd (c2.symm.trans d2) (by decide)
    · have d1 : inN (S (i0 + 1)) nh = true := by rw [er2]; exact inN_of hr92 (by omega)
      exact absurd (c2.symm.trans d2) (by decide)
  · refine ⟨fo, o1, fun fo1 hv => ?_⟩
    show WP Γ _ _ _ _ _ _ _
    have B : Bet p m h h _ := Bet.o fo1 ho hm (fun _ _ => rfl)
    have c1 : inN (S (i0 + 1)) nh = true := by rw [er]; exact inN_of hr9 (by omega)
    refine MC _ _ _ _ (B.1 _ (by omega)) (B.1 _ (by omega)) ?_
    refine s_X10_commit (ModC.mv (B.1 _ (by omega)) mC) ((B.1 _ (by omega)).trans mR) hr0 hI0 (by omega) (by omega) ((B.1 _ (by omega)).trans mP) (by omega) (by omega) (fun d1 h2 fr2 m2 => ?_) (fun d1 d2 h2 fr2 m2 => ?_) (fun r2 i2 j2 u2 hr92 er2 ei2 hi2 ej2 hj2 eu2 hu02 hu12 d2 s2 es2 hs2 h2 R9 fz fr2 m2 r9 hrr => ?_) (fun r2 i2 j2 u2 hr92 er2 ei2 hi2 ej2 hj2 eu2 hu02 hu12 d2 hpd2 hne2 hob2 h2 R9 pk2 fz fr2 m2 r9 p2 hK => ?_)
    · exact absurd (c1.symm.trans d1) (by decide)
    · exact absurd (c2.symm.trans d2) (by decide)
    · have d1 : inN (S (i0 + 1)) nh = true := by rw [er2]; exact inN_of hr92 (by omega)
      show WP Γ _ _ _ _ _ _ _
      obtain rfl : r = r2 := (nI_eq9 (by omega) (by omega)).mp (er.symm.trans er2)
      obtain rfl : j = j2 := (nI_eq9 (by omega) (by omega)).mp (ej.symm.trans ej2)
      obtain rfl : u = u2 := (nI_eq9 (by omega) (by omega)).mp (eu.symm.trans eu2)
      rw [ei2] at es
      obtain rfl : s = s2 := es.trans es2.symm
      exact TO _ _ h2 _ fo1 (fin_s (K' := mkK np qu ra re le ln nb pl tm ne rw bk nh hw nc cw t y) hA hs0 hM0 ⟨hlen, hI0, hIS⟩ (c10) hm B fz (fun c a b _ _ => fr2 c a b) ⟨_, _, _, _, _, _, m2⟩ ⟨R9, r9, hrr⟩ ⟨RE, (fr2 _ (by omega) (by omega)).trans ((B.1 _ (by omega)).trans mE), hre0⟩ ⟨mpk, (fr2 _ (by omega) (by omega)).trans ((B.1 _ (by omega)).trans mP)⟩) ⟨_, _, _, _, _, _, _, m2⟩ ((fr2 _ (by omega) (by omega)).trans (ax_set_self _ _ _)) hv
    · have d1 : inN (S (i0 + 1)) nh = true := by rw [er2]; exact inN_of hr92 (by omega)
      obtain rfl : r = r2 := (nI_eq9 (by omega) (by omega)).mp (er.symm.trans er2)
      obtain rfl : j = j2 := (nI_eq9 (by omega) (by omega)).mp (ej.symm.trans ej2)
      obtain rfl : u = u2 := (nI_eq9 (by omega) (by omega)).mp (eu.symm.trans eu2)
      rw [ei2] at es
      rw [if_pos hpd2, if_neg (by omega), hob2] at es
      rw [es] at hs
      exact absurd hs (by decide)
  · refine ⟨fo, ((fr1.2 _ (by omega)).trans o1), fun fo1 hv => ?_⟩
    show WP Γ _ _ _ _ _ _ _
    have B : Bet p m h h1 _ := Bet.o fo1 ho hm (fun c hc => fr1.2 c (by omega))
    have c1 : inN (S (i0 + 1)) nh = true := by rw [er]; exact inN_of hr9 (by omega)
    refine MC _ _ _ _ (B.1 _ (by omega)) (B.1 _ (by omega)) ?_
    refine s_X10_commit (ModC.mv (B.1 _ (by omega)) mC) ((B.1 _ (by omega)).trans mR) hr0 hI0 (by omega) (by omega) ((B.1 _ (by omega)).trans mP) (by omega) (by omega) (fun d1 h2 fr2 m2 => ?_) (fun d1 d2 h2 fr2 m2 => ?_) (fun r2 i2 j2 u2 hr92 er2 ei2 hi2 ej2 hj2 eu2 hu02 hu12 d2 s2 es2 hs2 h2 R9 fz fr2 m2 r9 hrr => ?_) (fun r2 i2 j2 u2 hr92 er2 ei2 hi2 ej2 hj2 eu2 hu02 hu12 d2 hpd2 hne2 hob2 h2 R9 pk2 fz fr2 m2 r9 p2 hK => ?_)
    · exact absurd (c1.symm.trans d1) (by decide)
    · exact absurd (c2.symm.trans d2) (by decide)
    · have d1 : inN (S (i0 + 1)) nh = true := by rw [er2]; exact inN_of hr92 (by omega)
      obtain rfl : r = r2 := (nI_eq9 (by omega) (by omega)).mp (er.symm.trans er2)
      obtain rfl : j = j2 := (nI_eq9 (by omega) (by omega)).mp (ej.symm.trans ej2)
      obtain rfl : u = u2 := (nI_eq9 (by omega) (by omega)).mp (eu.symm.trans eu2)
      rw [ei2] at hob
      rw [if_pos hpd, if_neg (by omega), hob] at es2
      rw [es2] at hs2
      exact absurd hs2 (by decide)
    · have d1 : inN (S (i0 + 1)) nh = true := by rw [er2]; exact inN_of hr92 (by omega)
      show WP Γ _ _ _ _ _ _ _
      obtain rfl : r = r2 := (nI_eq9 (by omega) (by omega)).mp (er.symm.trans er2)
      obtain rfl : j = j2 := (nI_eq9 (by omega) (by omega)).mp (ej.symm.trans ej2)
      obtain rfl : u = u2 := (nI_eq9 (by omega) (by omega)).mp (eu.symm.trans eu2)
      rw [ei2] at hpk hL1 hob
      have hMov : MovOk np qu ra re le ln nb pl tm ne rw bk nh (upd hw (r * 5 + 4) (nI 1)) nc cw t y (nI i2) j u (S (i0 + 2)) (mkK np qu ra re le ln nb (putF pl nb pk1 (nI j)) (putF tm nb pk1 t) (ne + 1) (upd7 rw ne (nI i2) (nI j) (nI u) (S (i0 + 2)) t 0 (-1)) bk1 nh (upd hw (r * 5 + 4) (nI 1)) nc cw t y) := ⟨hne, (obs_end hr9 hpd (by decide) ei2 ej eu).trans hob, bk1, pk1, hpk, hbok, rfl⟩
      exact TO _ _ h2 _ fo1 (fin_s (K' := mkK np qu ra re le ln nb (putF pl nb pk1 (nI j)) (putF tm nb pk1 t) (ne + 1) (upd7 rw ne (nI i2) (nI j) (nI u) (S (i0 + 2)) t 0 (-1)) bk1 nh (upd hw (r * 5 + 4) (nI 1)) nc cw t y) hA hs0 hM0 ⟨hlen, (hI0.resU (r := r) (q := 4) (by omega) (by omega)).mov hi2 hj hu hMov, hIS⟩ (c10.led fr1 ⟨_, hL1⟩) hm B fz (fun c a b _ d => fr2 c a b d) ⟨_, _, _, _, _, _, m2⟩ ⟨R9, r9, hK _ hMov⟩ ⟨RE, (fr2 _ (by omega) (by omega) (by omega)).trans ((B.1 _ (by omega)).trans mE), hre0⟩ ⟨pk2, p2⟩) ⟨_, _, _, _, _, _, _, m2⟩ ((fr2 _ (by omega) (by omega) (by omega)).trans (ax_set_self _ _ _)) hv
theorem cs_release (hA : Γ.2.1 ≤ p) (hs : ScrP Γ h sa N S) (ho : OutP h m) (c1 : ClsP h p m b D er bs len f (mkK np qu ra re le ln nb pl tm ne rw bk nh hw nc cw t y) KS) (hP : PurP len f (mkK np qu ra re le ln nb pl tm ne rw bk nh hw nc cw t y) KS) (hM : ModP h m er bs len f (mkK np qu ra re le ln nb pl tm ne rw bk nh hw nc cw t y) KS) (hi : i0 + 5 ≤ N) (k : ∀ h', Sim Γ h' p m sa N S → WP Γ ML_law (10, 196, c0, s0) 3329 [some (.ref sa), some (.ref p), some (.ref m), some (.ref (m + 12)), some (.ref (m + 13)), some (.int (nI i0)), none, none, none, none] [] h' Q) : WP Γ ML_law (10, 196, c0 + 20, s0 + 4409) 986 [some (.ref sa), some (.ref p), some (.ref m), some (.ref (m + 12)), some (.ref (m + 13)), some (.int (nI i0)), none, none, none, none] [] h Q := by
  have hs0 := hs
  have c10 := c1
  have hP0 := hP
  have hM0 := hM
  obtain ⟨hsa, hsl, hN, hfree⟩ := hs
  obtain ⟨⟨fo, o1⟩, fd, o2⟩ := ho
  obtain ⟨hF, hT, hR3, hBat, hSna, ⟨pk, hL⟩, hX, hbD, hm, hz, hsn, hap⟩ := c1
  obtain ⟨hlen, hI, hIS⟩ := hP
  obtain ⟨⟨th, at', bg, e9, ea, cm, mC⟩, ⟨R, mR, hr⟩, ⟨R2, mR2⟩, ⟨R3, mR3⟩, ⟨RE, mE, hre⟩, ⟨RA, mRA⟩, ⟨mpk, mP⟩, ⟨B, mB, hB⟩, ⟨CM, mK⟩, CC, CE, SV, mCC, mCE, mSV, hsv, hsr⟩ := hM
  have hI0 : Inv np qu ra re le ln nb pl tm ne rw bk nh hw nc cw t y := hI
  have hr0 : RowR R np qu ra re le ln nb pl tm ne rw bk nh hw nc cw t y := hr
  have hL0 : LedP h b np qu ra re le ln nb pl tm ne rw bk nh hw nc cw t y pk := hL
  have hre0 : ∀ j, j < np → RE j = re j := hre
  obtain ⟨⟨s1, s2, s3, s4, s5, s6, s7, s8, tn, s9, s10⟩, IM, IP, IJ, IR, IC⟩ := hI0
  have hI0 : Inv np qu ra re le ln nb pl tm ne rw bk nh hw nc cw t y := hI
  have hF' := hF
  unfold FacC at hF'
  have ho : OutP h m := ⟨⟨fo, o1⟩, fd, o2⟩
  have TE : ∀ (X Y : Nat) (h2 : AH) (kk : Int32) (v9 : Int32), ¬ kk = 0 → Sim Γ h2 p m sa N S → (∃ tl at' bg e9 ea lr cm, ModC h2 m (m + 1) kk tl at' bg e9 ea lr cm) → WP Γ ML_law (10, 196, c0 + X, s0 + Y) 1009 [some (.ref sa), some (.ref p), some (.ref m), some (.ref (m + 12)), some (.ref (m + 13)), some (.int (nI i0)), some (.int kk), none, none, none] [.int v9] h2 Q := by
    intro X Y h2 kk v9 hk hsim hm2
    obtain ⟨tl2, at2, bg2, e2, ea2, lr2, cm2, m2⟩ := hm2
    have m20 := m2
    unfold ModC at m2
    refine wp_istore (n := 1011) dL_law_1009 rfl rfl rfl rfl ?_
    refine wp_aload_n (n := 1012) dL_law_1011 rfl rfl ?_
    refine wp_callVs (n := 1015) (rm' := (0, 0, 0, 0)) (c0 := c0) (s0 := s0) rfl dL_law_1012 rfl mlL_156 [] rfl rfl m2 rfl rfl rfl (Nat.le_of_ble_eq_true rfl) rfl ?_
    refine s_X10_thrown m20 ?_
    show WP Γ _ _ _ _ _ _ _
    refine wp_iload (n := 1017) dL_law_1015 rfl rfl ?_
    refine wp_icmp_eq (t := 1022) (n := 1020) dL_law_1017 (by decide) rfl (fun hc => ?_) (fun hc => ?_)
    · refine wp_iload (n := 1024) dL_law_1022 rfl rfl ?_
      refine wp_if_ne (t := 1039) (n := 1027) dL_law_1024 (by decide) rfl (fun hq => ?_) (fun hq => ?_)
      · refine wp_goto (t := 3329) dL_law_1039 (by decide) ?_
        refine wp_lo (lo' := [some (.ref sa), some (.ref p), some (.ref m), some (.ref (m + 12)), some (.ref (m + 13)), some (.int (nI i0)), none, none, none, none]) (fun k v hk => ?_) ?_
        · match k, hk with
          | 0, hk => exact hk
          | 1, hk => exact hk
          | 2, hk => exact hk
          | 3, hk => exact hk
          | 4, hk => exact hk
          | 5, hk => exact hk
          | 6, hk => exact absurd hk (by simp [ax_gl])
          | 7, hk => exact absurd hk (by simp [ax_gl])
          | 8, hk => exact absurd hk (by simp [ax_gl])
          | 9, hk => exact absurd hk (by simp [ax_gl])
          | k + 10, hk => exact absurd hk (by simp [ax_gl])
        exact wp_big (rm := (10, 196, c0, s0)) (Nat.le_refl _) (Nat.le_refl _) (Nat.le_add_right _ _) (Nat.le_add_right _ _) (k h2 hsim)
      · exact absurd hq hk
    · exact absurd rfl hc
  have TO : ∀ (X Y : Nat) (h2 : AH) (r : Int32) (fo2 : Nat → Int64), Sim Γ h2 p m sa N S → (∃ tl at' bg e9 ea lr cm, ModC h2 m (m + 1) 0 tl at' bg e9 ea lr cm) → h2.2 (m + 12) = some (.inl (.long, 1, .inr (.inl fo2))) → fo2 0 = r.toInt64 → WP Γ ML_law (10, 196, c0 + X, s0 + Y) 1009 [some (.ref sa), some (.ref p), some (.ref m), some (.ref (m + 12)), some (.ref (m + 13)), some (.int (nI i0)), some (.int 0), none, none, none] [.int r] h2 Q := by
    intro X Y h2 r fo2 hsim hm2 ho2 hv2
    obtain ⟨tl2, at2, bg2, e2, ea2, lr2, cm2, m2⟩ := hm2
    have m20 := m2
    unfold ModC at m2
    have fin : ∀ l7 : Option Value, WP Γ ML_law (10, 196, c0 + (X - 0), s0 + (Y - 0)) 1039 [some (.ref sa), some (.ref p), some (.ref m), some (.ref (m + 12)), some (.ref (m + 13)), some (.int (nI i0)), some (.int 0), l7, none, none] [] h2 Q := by
      intro l7
      refine wp_goto (t := 3329) dL_law_1039 (by decide) ?_
      refine wp_lo (lo' := [some (.ref sa), some (.ref p), some (.ref m), some (.ref (m + 12)), some (.ref (m + 13)), some (.int (nI i0)), none, none, none, none]) (fun k v hk => ?_) ?_
      · match k, hk with
        | 0, hk => exact hk
        | 1, hk => exact hk
        | 2, hk => exact hk
        | 3, hk => exact hk
        | 4, hk => exact hk
        | 5, hk => exact hk
        | 6, hk => exact absurd hk (by simp [ax_gl])
        | 7, hk => exact absurd hk (by simp [ax_gl])
        | 8, hk => exact absurd hk (by simp [ax_gl])
        | 9, hk => exact absurd hk (by simp [ax_gl])
        | k + 10, hk => exact absurd hk (by simp [ax_gl])
      exact wp_big (rm := (10, 196, c0, s0)) (Nat.le_refl _) (Nat.le_refl _) (Nat.le_add_right _ _) (Nat.le_add_right _ _) (k h2 hsim)
    refine wp_istore (n := 1011) dL_law_1009 rfl rfl rfl rfl ?_
    refine wp_aload_n (n := 1012) dL_law_1011 rfl rfl ?_
    refine wp_callVs (n := 1015) (rm' := (0, 0, 0, 0)) (c0 := c0) (s0 := s0) rfl dL_law_1012 rfl mlL_156 [] rfl rfl m2 rfl rfl rfl (Nat.le_of_ble_eq_true rfl) rfl ?_
    refine s_X10_thrown m20 ?_
    show WP Γ _ _ _ _ _ _ _
    refine wp_iload (n := 1017) dL_law_1015 rfl rfl ?_
    refine wp_icmp_eq (t := 1022) (n := 1020) dL_law_1017 (by decide) rfl (fun hc => ?_) (fun hc => ?_)
    · refine wp_iload (n := 1024) dL_law_1022 rfl rfl ?_
      refine wp_if_ne (t := 1039) (n := 1027) dL_law_1024 (by decide) rfl (fun hq => ?_) (fun hq => ?_)
      · exact absurd rfl hq
      · refine wp_aload_n (n := 1028) dL_law_1027 rfl rfl ?_
        refine wp_iconst (n := 1029) (v := 0) dL_law_1028 rfl (by decide) ?_
        refine wp_lald (n := 1030) 0 dL_law_1029 rfl ho2 rfl (by omega) (by omega) ?_
        rw [hv2]
        refine wp_iload (n := 1032) dL_law_1030 rfl rfl ?_
        refine wp_i2l (n := 1033) dL_law_1032 rfl ?_
        refine wp_lcmp (n := 1034) dL_law_1033 rfl ?_
        rw [lg_self]
        refine wp_if_eq (t := 1039) (n := 1037) dL_law_1034 (by decide) rfl (fun hu => ?_) (fun hu => ?_)
        · exact fin _
        · exact absurd rfl hu
    · exact absurd rfl hc
  have MC : ∀ (X Y : Nat) (h3 : AH) (kk : Int32), h3.2 m = h.2 m → h3.2 sa = h.2 sa → WP Γ MX10_release (2, 43, 0, 0) 0 [some (.ref m), some (.int (S (i0 + 1))), none, none] [] h3 (ax_K Γ ML_law (10, 196, c0 + (X - 0), s0 + (Y - 0)) 1009 [some (.ref sa), some (.ref p), some (.ref m), some (.ref (m + 12)), some (.ref (m + 13)), some (.int (nI i0)), some (.int kk), none, none, none] [] Q) → WP Γ ML_law (10, 196, c0 + X, s0 + Y) 997 [some (.ref sa), some (.ref p), some (.ref m), some (.ref (m + 12)), some (.ref (m + 13)), some (.int (nI i0)), none, none, none, none] [.int kk] h3 Q := by
    intro X Y h3 kk e1 e2 kk3
    have mC3' := ModC.mv e1 mC
    unfold ModC at mC3'
    have hsa3 := e2.trans hsa
    refine wp_istore (n := 999) dL_law_997 rfl rfl rfl rfl ?_
    refine wp_aload_n (n := 1000) dL_law_999 rfl rfl ?_
    refine wp_aload_n (n := 1001) dL_law_1000 rfl rfl ?_
    refine wp_iload (n := 1003) dL_law_1001 rfl rfl ?_
    refine wp_iconst (n := 1004) (v := nI 1) dL_law_1003 rfl (by decide) ?_
    refine wp_iadd (n := 1005) dL_law_1004 rfl ?_
    refine wp_iald (n := 1006) (i0 + 1) dL_law_1005 rfl (by repeat first | assumption | exact ax_set_self _ _ _ | exact ax_newA_self _ _ _ | refine (ax_set_ne _ _ (by omega)).trans ?_ | refine (ax_newA_ne _ _ _ (by omega)).trans ?_) (by simp only [nI_zero, nI_mul, nI_add]) (by omega) (by omega) ?_
    refine wp_callVs (n := 1009) (rm' := (2, 43, 0, 0)) (c0 := c0) (s0 := s0) rfl dL_law_1006 rfl mlL_213 [.int (S (i0 + 1))] rfl rfl mC3' rfl rfl rfl (Nat.le_of_ble_eq_true rfl) rfl ?_
    exact kk3
  refine wp_aload_n (n := 987) dL_law_986 rfl rfl ?_
  refine wp_aload_n (n := 988) dL_law_987 rfl rfl ?_
  refine wp_iload (n := 990) dL_law_988 rfl rfl ?_
  refine wp_iconst (n := 991) (v := nI 1) dL_law_990 rfl (by decide) ?_
  refine wp_iadd (n := 992) dL_law_991 rfl ?_
  refine wp_iald (n := 993) (i0 + 1) dL_law_992 rfl (by repeat first | assumption | exact ax_set_self _ _ _ | exact ax_newA_self _ _ _ | refine (ax_set_ne _ _ (by omega)).trans ?_ | refine (ax_newA_ne _ _ _ (by omega)).trans ?_) (by simp only [nI_zero, nI_mul, nI_add]) (by omega) (by omega) ?_
  refine wp_aload_n (n := 994) dL_law_993 rfl rfl ?_
  refine wp_callSH (n := 997) (rm' := (8, 137, 1, 6)) (c0 := c0) (s0 := s0) (C := 20) (S := 4409) rfl dL_law_994 rfl mwL_211 [.ref p, .int (S (i0 + 1)), .ref (m + 12)] rfl rfl rfl rfl (Nat.le_of_ble_eq_true rfl) rfl ?_
  refine s_L_release hF' (by omega) ?_
  refine s_X9_release hF hL0 (by omega) (by omega) (fun c1 n1 hn1 => ?_) (fun r hr9 er hpd => ?_) (fun r hr9 er hpd h1 fr1 hL1 => ?_)
  · refine Or.inr (Or.inl ⟨rfl, rfl, ?_⟩)
    show WP Γ _ _ _ _ _ _ _
    have B : Bet p m h h _ := Bet.n (p := p) ho hn1
    refine MC _ _ _ _ (B.1 _ (by omega)) (B.1 _ (by omega)) ?_
    refine s_X10_release (ModC.mv (B.1 _ (by omega)) mC) ((B.1 _ (by omega)).trans mR) hr0 hI0 (by omega) (by omega) (by omega) (fun d1 h2 fr2 m2 => ?_) (fun r2 hr92 er2 hpd2 h2 fr2 m2 => ?_) (fun r2 hr92 er2 hpd2 h2 R9 fz fr2 m2 r9 hrr => ?_)
    · show WP Γ _ _ _ _ _ _ _
      exact TE _ _ h2 _ _ (by decide) (fin_q hA hs0 hM0 hP0 c10 hm B fr2 ⟨_, _, _, _, _, _, m2⟩) ⟨_, _, _, _, _, _, _, m2⟩
    · have d1 : inN (S (i0 + 1)) nh = true := by rw [er2]; exact inN_of hr92 (by omega)
      exact absurd (c1.symm.trans d1) (by decide)
    · have d1 : inN (S (i0 + 1)) nh = true := by rw [er2]; exact inN_of hr92 (by omega)
      exact absurd (c1.symm.trans d1) (by decide)
  · refine ⟨fo, o1, fun fo1 hv => ?_⟩
    show WP Γ _ _ _ _ _ _ _
    have B : Bet p m h h _ := Bet.o fo1 ho hm (fun _ _ => rfl)
    have c1 : inN (S (i0 + 1)) nh = true := by rw [er]; exact inN_of hr9 (by omega)
    refine MC _ _ _ _ (B.1 _ (by omega)) (B.1 _ (by omega)) ?_
    refine s_X10_release (ModC.mv (B.1 _ (by omega)) mC) ((B.1 _ (by omega)).trans mR) hr0 hI0 (by omega) (by omega) (by omega) (fun d1 h2 fr2 m2 => ?_) (fun r2 hr92 er2 hpd2 h2 fr2 m2 => ?_) (fun r2 hr92 er2 hpd2 h2 R9 fz fr2 m2 r9 hrr => ?_)
    · exact absurd (c1.symm.trans d1) (by decide)
    · have d1 : inN (S (i0 + 1)) nh = true := by rw [er2]; exact inN_of hr92 (by omega)
      show WP Γ _ _ _ _ _ _ _
      obtain rfl : r = r2 := (nI_eq9 (by omega) (by omega)).mp (er.symm.trans er2)
      exact TO _ _ h2 _ fo1 (fin_q hA hs0 hM0 hP0 c10 hm B fr2 ⟨_, _, _, _, _, _, m2⟩) ⟨_, _, _, _, _, _, _, m2⟩ ((fr2.2 _ (by omega)).trans (ax_set_self _ _ _)) hv
    · have d1 : inN (S (i0 + 1)) nh = true := by rw [er2]; exact inN_of hr92 (by omega)
      obtain rfl : r = r2 := (nI_eq9 (by omega) (by omega)).mp (er.symm.trans er2)
      exact absurd (hpd.symm.trans hpd2) (by decide)
  · refine ⟨fo, ((fr1.2 _ (by omega)).trans o1), fun fo1 hv => ?_⟩
    show WP Γ _ _ _ _ _ _ _
    have B : Bet p m h h1 _ := Bet.o fo1 ho hm (fun c hc => fr1.2 c (by omega))
    have c1 : inN (S (i0 + 1)) nh = true := by rw [er]; exact inN_of hr9 (by omega)
    refine MC _ _ _ _ (B.1 _ (by omega)) (B.1 _ (by omega)) ?_
    refine s_X10_release (ModC.mv (B.1 _ (by omega)) mC) ((B.1 _ (by omega)).trans mR) hr0 hI0 (by omega) (by omega) (by omega) (fun d1 h2 fr2 m2 => ?_) (fun r2 hr92 er2 hpd2 h2 fr2 m2 => ?_) (fun r2 hr92 er2 hpd2 h2 R9 fz fr2 m2 r9 hrr => ?_)
    · exact absurd (c1.symm.trans d1) (by decide)
    · have d1 : inN (S (i0 + 1)) nh = true := by rw [er2]; exact inN_of hr92 (by omega)
      obtain rfl : r = r2 := (nI_eq9 (by omega) (by omega)).mp (er.symm.trans er2)
      exact absurd (hpd.symm.trans hpd2) (by decide)
    · have d1 : inN (S (i0 + 1)) nh = true := by rw [er2]; exact inN_of hr92 (by omega)
      show WP Γ _ _ _ _ _ _ _
      obtain rfl : r = r2 := (nI_eq9 (by omega) (by omega)).mp (er.symm.trans er2)
      exact TO _ _ h2 _ fo1 (fin_s (K' := mkK np qu ra re le ln nb pl tm ne rw bk nh (upd hw (r * 5 + 4) (nI 2)) nc cw t y) hA hs0 hM0 ⟨hlen, hI0.resU (by omega) (by omega), hIS⟩ (c10.led fr1 ⟨_, hL1⟩) hm B fz (fun c a b _ _ => fr2 c a b) ⟨_, _, _, _, _, _, m2⟩ ⟨R9, r9, hrr⟩ ⟨RE, (fr2 _ (by omega) (by omega)).trans ((B.1 _ (by omega)).trans mE), hre0⟩ ⟨mpk, (fr2 _ (by omega) (by omega)).trans ((B.1 _ (by omega)).trans mP)⟩) ⟨_, _, _, _, _, _, _, m2⟩ ((fr2 _ (by omega) (by omega)).trans (ax_set_self _ _ _)) hv
theorem cs_extend (hA : Γ.2.1 ≤ p) (hs : ScrP Γ h sa N S) (ho : OutP h m) (c1 : ClsP h p m b D er bs len f (mkK np qu ra re le ln nb pl tm ne rw bk nh hw nc cw t y) KS) (hP : PurP len f (mkK np qu ra re le ln nb pl tm ne rw bk nh hw nc cw t y) KS) (hM : ModP h m er bs len f (mkK np qu ra re le ln nb pl tm ne rw bk nh hw nc cw t y) KS) (hi : i0 + 5 ≤ N) (k : ∀ h', Sim Γ h' p m sa N S → WP Γ ML_law (10, 196, c0, s0) 3329 [some (.ref sa), some (.ref p), some (.ref m), some (.ref (m + 12)), some (.ref (m + 13)), some (.int (nI i0)), none, none, none, none] [] h' Q) : WP Γ ML_law (10, 196, c0 + 20, s0 + 4409) 1042 [some (.ref sa), some (.ref p), some (.ref m), some (.ref (m + 12)), some (.ref (m + 13)), some (.int (nI i0)), none, none, none, none] [] h Q := by
  have hs0 := hs
  have c10 := c1
  have hP0 := hP
  have hM0 := hM
  obtain ⟨hsa, hsl, hN, hfree⟩ := hs
  obtain ⟨⟨fo, o1⟩, fd, o2⟩ := ho
  obtain ⟨hF, hT, hR3, hBat, hSna, ⟨pk, hL⟩, hX, hbD, hm, hz, hsn, hap⟩ := c1
  obtain ⟨hlen, hI, hIS⟩ := hP
  obtain ⟨⟨th, at', bg, e9, ea, cm, mC⟩, ⟨R, mR, hr⟩, ⟨R2, mR2⟩, ⟨R3, mR3⟩, ⟨RE, mE, hre⟩, ⟨RA, mRA⟩, ⟨mpk, mP⟩, ⟨B, mB, hB⟩, ⟨CM, mK⟩, CC, CE, SV, mCC, mCE, mSV, hsv, hsr⟩ := hM
  have hI0 : Inv np qu ra re le ln nb pl tm ne rw bk nh hw nc cw t y := hI
  have hr0 : RowR R np qu ra re le ln nb pl tm ne rw bk nh hw nc cw t y := hr
  have hL0 : LedP h b np qu ra re le ln nb pl tm ne rw bk nh hw nc cw t y pk := hL
  have hre0 : ∀ j, j < np → RE j = re j := hre
  obtain ⟨⟨s1, s2, s3, s4, s5, s6, s7, s8, tn, s9, s10⟩, IM, IP, IJ, IR, IC⟩ := hI0
  have hI0 : Inv np qu ra re le ln nb pl tm ne rw bk nh hw nc cw t y := hI
  have hF' := hF
  unfold FacC at hF'
  have ho : OutP h m := ⟨⟨fo, o1⟩, fd, o2⟩
  have TE : ∀ (X Y : Nat) (h2 : AH) (kk : Int32) (v9 : Int32), ¬ kk = 0 → Sim Γ h2 p m sa N S → (∃ tl at' bg e9 ea lr cm, ModC h2 m (m + 1) kk tl at' bg e9 ea lr cm) → WP Γ ML_law (10, 196, c0 + X, s0 + Y) 1077 [some (.ref sa), some (.ref p), some (.ref m), some (.ref (m + 12)), some (.ref (m + 13)), some (.int (nI i0)), some (.int kk), none, none, none] [.int v9] h2 Q := by
    intro X Y h2 kk v9 hk hsim hm2
    obtain ⟨tl2, at2, bg2, e2, ea2, lr2, cm2, m2⟩ := hm2
    have m20 := m2
    unfold ModC at m2
    refine wp_istore (n := 1079) dL_law_1077 rfl rfl rfl rfl ?_
    refine wp_aload_n (n := 1080) dL_law_1079 rfl rfl ?_
    refine wp_callVs (n := 1083) (rm' := (0, 0, 0, 0)) (c0 := c0) (s0 := s0) rfl dL_law_1080 rfl mlL_156 [] rfl rfl m2 rfl rfl rfl (Nat.le_of_ble_eq_true rfl) rfl ?_
    refine s_X10_thrown m20 ?_
    show WP Γ _ _ _ _ _ _ _
    refine wp_iload (n := 1085) dL_law_1083 rfl rfl ?_
    refine wp_icmp_eq (t := 1090) (n := 1088) dL_law_1085 (by decide) rfl (fun hc => ?_) (fun hc => ?_)
    · refine wp_iload (n := 1092) dL_law_1090 rfl rfl ?_
      refine wp_if_ne (t := 1107) (n := 1095) dL_law_1092 (by decide) rfl (fun hq => ?_) (fun hq => ?_)
      · refine wp_goto (t := 3329) dL_law_1107 (by decide) ?_
        refine wp_lo (lo' := [some (.ref sa), some (.ref p), some (.ref m), some (.ref (m + 12)), some (.ref (m + 13)), some (.int (nI i0)), none, none, none, none]) (fun k v hk => ?_) ?_
        · match k, hk with
          | 0, hk => exact hk
          | 1, hk => exact hk
          | 2, hk => exact hk
          | 3, hk => exact hk
          | 4, hk => exact hk
          | 5, hk => exact hk
          | 6, hk => exact absurd hk (by simp [ax_gl])
          | 7, hk => exact absurd hk (by simp [ax_gl])
          | 8, hk => exact absurd hk (by simp [ax_gl])
          | 9, hk => exact absurd hk (by simp [ax_gl])
          | k + 10, hk => exact absurd hk (by simp [ax_gl])
        exact wp_big (rm := (10, 196, c0, s0)) (Nat.le_refl _) (Nat.le_refl _) (Nat.le_add_right _ _) (Nat.le_add_right _ _) (k h2 hsim)
      · exact absurd hq hk
    · exact absurd rfl hc
  have TO : ∀ (X Y : Nat) (h2 : AH) (r : Int32) (fo2 : Nat → Int64), Sim Γ h2 p m sa N S → (∃ tl at' bg e9 ea lr cm, ModC h2 m (m + 1) 0 tl at' bg e9 ea lr cm) → h2.2 (m + 12) = some (.inl (.long, 1, .inr (.inl fo2))) → fo2 0 = r.toInt64 → WP Γ ML_law (10, 196, c0 + X, s0 + Y) 1077 [some (.ref sa), some (.ref p), some (.ref m), some (.ref (m + 12)), some (.ref (m + 13)), some (.int (nI i0)), some (.int 0), none, none, none] [.int r] h2 Q := by
    intro X Y h2 r fo2 hsim hm2 ho2 hv2
    obtain ⟨tl2, at2, bg2, e2, ea2, lr2, cm2, m2⟩ := hm2
    have m20 := m2
    unfold ModC at m2
    have fin : ∀ l7 : Option Value, WP Γ ML_law (10, 196, c0 + (X - 0), s0 + (Y - 0)) 1107 [some (.ref sa), some (.ref p), some (.ref m), some (.ref (m + 12)), some (.ref (m + 13)), some (.int (nI i0)), some (.int 0), l7, none, none] [] h2 Q := by
      intro l7
      refine wp_goto (t := 3329) dL_law_1107 (by decide) ?_
      refine wp_lo (lo' := [some (.ref sa), some (.ref p), some (.ref m), some (.ref (m + 12)), some (.ref (m + 13)), some (.int (nI i0)), none, none, none, none]) (fun k v hk => ?_) ?_
      · match k, hk with
        | 0, hk => exact hk
        | 1, hk => exact hk
        | 2, hk => exact hk
        | 3, hk => exact hk
        | 4, hk => exact hk
        | 5, hk => exact hk
        | 6, hk => exact absurd hk (by simp [ax_gl])
        | 7, hk => exact absurd hk (by simp [ax_gl])
        | 8, hk => exact absurd hk (by simp [ax_gl])
        | 9, hk => exact absurd hk (by simp [ax_gl])
        | k + 10, hk => exact absurd hk (by simp [ax_gl])
      exact wp_big (rm := (10, 196, c0, s0)) (Nat.le_refl _) (Nat.le_refl _) (Nat.le_add_right _ _) (Nat.le_add_right _ _) (k h2 hsim)
    refine wp_istore (n := 1079) dL_law_1077 rfl rfl rfl rfl ?_
    refine wp_aload_n (n := 1080) dL_law_1079 rfl rfl ?_
    refine wp_callVs (n := 1083) (rm' := (0, 0, 0, 0)) (c0 := c0) (s0 := s0) rfl dL_law_1080 rfl mlL_156 [] rfl rfl m2 rfl rfl rfl (Nat.le_of_ble_eq_true rfl) rfl ?_
    refine s_X10_thrown m20 ?_
    show WP Γ _ _ _ _ _ _ _
    refine wp_iload (n := 1085) dL_law_1083 rfl rfl ?_
    refine wp_icmp_eq (t := 1090) (n := 1088) dL_law_1085 (by decide) rfl (fun hc => ?_) (fun hc => ?_)
    · refine wp_iload (n := 1092) dL_law_1090 rfl rfl ?_
      refine wp_if_ne (t := 1107) (n := 1095) dL_law_1092 (by decide) rfl (fun hq => ?_) (fun hq => ?_)
      · exact absurd rfl hq
      · refine wp_aload_n (n := 1096) dL_law_1095 rfl rfl ?_
        refine wp_iconst (n := 1097) (v := 0) dL_law_1096 rfl (by decide) ?_
        refine wp_lald (n := 1098) 0 dL_law_1097 rfl ho2 rfl (by omega) (by omega) ?_
        rw [hv2]
        refine wp_iload (n := 1100) dL_law_1098 rfl rfl ?_
        refine wp_i2l (n := 1101) dL_law_1100 rfl ?_
        refine wp_lcmp (n := 1102) dL_law_1101 rfl ?_
        rw [lg_self]
        refine wp_if_eq (t := 1107) (n := 1105) dL_law_1102 (by decide) rfl (fun hu => ?_) (fun hu => ?_)
        · exact fin _
        · exact absurd rfl hu
    · exact absurd rfl hc
  have MC : ∀ (X Y : Nat) (h3 : AH) (kk : Int32), h3.2 m = h.2 m → h3.2 sa = h.2 sa → WP Γ MX10_extend (2, 43, 0, 0) 0 [some (.ref m), some (.int (S (i0 + 1))), some (.int (S (i0 + 2)))] [] h3 (ax_K Γ ML_law (10, 196, c0 + (X - 0), s0 + (Y - 0)) 1077 [some (.ref sa), some (.ref p), some (.ref m), some (.ref (m + 12)), some (.ref (m + 13)), some (.int (nI i0)), some (.int kk), none, none, none] [] Q) → WP Γ ML_law (10, 196, c0 + X, s0 + Y) 1059 [some (.ref sa), some (.ref p), some (.ref m), some (.ref (m + 12)), some (.ref (m + 13)), some (.int (nI i0)), none, none, none, none] [.int kk] h3 Q := by
    intro X Y h3 kk e1 e2 kk3
    have mC3' := ModC.mv e1 mC
    unfold ModC at mC3'
    have hsa3 := e2.trans hsa
    refine wp_istore (n := 1061) dL_law_1059 rfl rfl rfl rfl ?_
    refine wp_aload_n (n := 1062) dL_law_1061 rfl rfl ?_
    refine wp_aload_n (n := 1063) dL_law_1062 rfl rfl ?_
    refine wp_iload (n := 1065) dL_law_1063 rfl rfl ?_
    refine wp_iconst (n := 1066) (v := nI 1) dL_law_1065 rfl (by decide) ?_
    refine wp_iadd (n := 1067) dL_law_1066 rfl ?_
    refine wp_iald (n := 1068) (i0 + 1) dL_law_1067 rfl (by repeat first | assumption | exact ax_set_self _ _ _ | exact ax_newA_self _ _ _ | refine (ax_set_ne _ _ (by omega)).trans ?_ | refine (ax_newA_ne _ _ _ (by omega)).trans ?_) (by simp only [nI_zero, nI_mul, nI_add]) (by omega) (by omega) ?_
    refine wp_aload_n (n := 1069) dL_law_1068 rfl rfl ?_
    refine wp_iload (n := 1071) dL_law_1069 rfl rfl ?_
    refine wp_iconst (n := 1072) (v := nI 2) dL_law_1071 rfl (by decide) ?_
    refine wp_iadd (n := 1073) dL_law_1072 rfl ?_
    refine wp_iald (n := 1074) (i0 + 2) dL_law_1073 rfl (by repeat first | assumption | exact ax_set_self _ _ _ | exact ax_newA_self _ _ _ | refine (ax_set_ne _ _ (by omega)).trans ?_ | refine (ax_newA_ne _ _ _ (by omega)).trans ?_) (by simp only [nI_zero, nI_mul, nI_add]) (by omega) (by omega) ?_
    refine wp_callVs (n := 1077) (rm' := (2, 43, 0, 0)) (c0 := c0) (s0 := s0) rfl dL_law_1074 rfl mlL_216 [.int (S (i0 + 1)), .int (S (i0 + 2))] rfl rfl mC3' rfl rfl rfl (Nat.le_of_ble_eq_true rfl) rfl ?_
    exact kk3
  refine wp_aload_n (n := 1043) dL_law_1042 rfl rfl ?_
  refine wp_aload_n (n := 1044) dL_law_1043 rfl rfl ?_
  refine wp_iload (n := 1046) dL_law_1044 rfl rfl ?_
  refine wp_iconst (n := 1047) (v := nI 1) dL_law_1046 rfl (by decide) ?_
  refine wp_iadd (n := 1048) dL_law_1047 rfl ?_
  refine wp_iald (n := 1049) (i0 + 1) dL_law_1048 rfl (by repeat first | assumption | exact ax_set_self _ _ _ | exact ax_newA_self _ _ _ | refine (ax_set_ne _ _ (by omega)).trans ?_ | refine (ax_newA_ne _ _ _ (by omega)).trans ?_) (by simp only [nI_zero, nI_mul, nI_add]) (by omega) (by omega) ?_
  refine wp_aload_n (n := 1050) dL_law_1049 rfl rfl ?_
  refine wp_iload (n := 1052) dL_law_1050 rfl rfl ?_
  refine wp_iconst (n := 1053) (v := nI 2) dL_law_1052 rfl (by decide) ?_
  refine wp_iadd (n := 1054) dL_law_1053 rfl ?_
  refine wp_iald (n := 1055) (i0 + 2) dL_law_1054 rfl (by repeat first | assumption | exact ax_set_self _ _ _ | exact ax_newA_self _ _ _ | refine (ax_set_ne _ _ (by omega)).trans ?_ | refine (ax_newA_ne _ _ _ (by omega)).trans ?_) (by simp only [nI_zero, nI_mul, nI_add]) (by omega) (by omega) ?_
  refine wp_aload_n (n := 1056) dL_law_1055 rfl rfl ?_
  refine wp_callSH (n := 1059) (rm' := (8, 138, 2, 12)) (c0 := c0) (s0 := s0) (C := 20) (S := 4409) rfl dL_law_1056 rfl mwL_214 [.ref p, .int (S (i0 + 1)), .int (S (i0 + 2)), .ref (m + 12)] rfl rfl rfl rfl (Nat.le_of_ble_eq_true rfl) rfl ?_
  refine s_L_extend hF' (by omega) ?_
  refine s_X9_extend hF hL0 (by omega) (by omega) (fun c1 n1 hn1 => ?_) (fun c1 c2 n1 hn1 => ?_) (fun r hr9 er c2 hpd => ?_) (fun r u hr9 er hu0 hu1 eu hpd h1 fr1 hL1 => ?_)
  · refine Or.inr (Or.inr ⟨rfl, Or.inl ⟨rfl, ?_⟩⟩)
    show WP Γ _ _ _ _ _ _ _
    have B : Bet p m h h _ := Bet.n (p := p) ho hn1
    refine MC _ _ _ _ (B.1 _ (by omega)) (B.1 _ (by omega)) ?_
    refine s_X10_extend (ModC.mv (B.1 _ (by omega)) mC) ((B.1 _ (by omega)).trans mR) hr0 hI0 (by omega) (by omega) (by omega) (fun d1 h2 fr2 m2 => ?_) (fun d1 d2 h2 fr2 m2 => ?_) (fun r2 hr92 er2 u2 hu02 hu12 eu2 hpd2 h2 fr2 m2 => ?_) (fun r2 hr92 er2 u2 hu02 hu12 eu2 hpd2 h2 R9 fz fr2 m2 r9 hrr => ?_)
    · show WP Γ _ _ _ _ _ _ _
      exact TE _ _ h2 _ _ (by decide) (fin_q hA hs0 hM0 hP0 c10 hm B fr2 ⟨_, _, _, _, _, _, m2⟩) ⟨_, _, _, _, _, _, _, m2⟩
    · exact absurd (c1.symm.trans d1) (by decide)
    · have d1 : inN (S (i0 + 1)) nh = true := by rw [er2]; exact inN_of hr92 (by omega)
      have d2 : inI (S (i0 + 2)) 1 1000 = true := by rw [eu2]; exact inI_of hu02 hu12 (by decide)
      exact absurd (c1.symm.trans d1) (by decide)
    · have d1 : inN (S (i0 + 1)) nh = true := by rw [er2]; exact inN_of hr92 (by omega)
      have d2 : inI (S (i0 + 2)) 1 1000 = true := by rw [eu2]; exact inI_of hu02 hu12 (by decide)
      exact absurd (c1.symm.trans d1) (by decide)
  · refine Or.inr (Or.inr ⟨rfl, Or.inr ⟨rfl, ?_⟩⟩)
    show WP Γ _ _ _ _ _ _ _
    have B : Bet p m h h _ := Bet.n (p := p) ho hn1
    refine MC _ _ _ _ (B.1 _ (by omega)) (B.1 _ (by omega)) ?_
    refine s_X10_extend (ModC.mv (B.1 _ (by omega)) mC) ((B.1 _ (by omega)).trans mR) hr0 hI0 (by omega) (by omega) (by omega) (fun d1 h2 fr2 m2 => ?_) (fun d1 d2 h2 fr2 m2 => ?_) (fun r2 hr92 er2 u2 hu02 hu12 eu2 hpd2 h2 fr2 m2 => ?_) (fun r2 hr92 er2 u2 hu02 hu12 eu2 hpd2 h2 R9 fz fr2 m2 r9 hrr => ?_)
    · exact absurd (c1.symm.trans d1) (by decide)
    · show WP Γ _ _ _ _ _ _ _
      exact TE _ _ h2 _ _ (by decide) (fin_q hA hs0 hM0 hP0 c10 hm B fr2 ⟨_, _, _, _, _, _, m2⟩) ⟨_, _, _, _, _, _, _, m2⟩
    · have d1 : inN (S (i0 + 1)) nh = true := by rw [er2]; exact inN_of hr92 (by omega)
      have d2 : inI (S (i0 + 2)) 1 1000 = true := by rw [eu2]; exact inI_of hu02 hu12 (by decide)
      exact absurd (c2.symm.trans d2) (by decide)
    · have d1 : inN (S (i0 + 1)) nh = true := by rw [er2]; exact inN_of hr92 (by omega)
      have d2 : inI (S (i0 + 2)) 1 1000 = true := by rw [eu2]; exact inI_of hu02 hu12 (by decide)
      exact absurd (c2.symm.trans d2) (by decide)
  · refine ⟨fo, o1, fun fo1 hv => ?_⟩
    show WP Γ _ _ _ _ _ _ _
    have B : Bet p m h h _ := Bet.o fo1 ho hm (fun _ _ => rfl)
    have c1 : inN (S (i0 + 1)) nh = true := by rw [er]; exact inN_of hr9 (by omega)
    refine MC _ _ _ _ (B.1 _ (by omega)) (B.1 _ (by omega)) ?_
    refine s_X10_extend (ModC.mv (B.1 _ (by omega)) mC) ((B.1 _ (by omega)).trans mR) hr0 hI0 (by omega) (by omega) (by omega) (fun d1 h2 fr2 m2 => ?_) (fun d1 d2 h2 fr2 m2 => ?_) (fun r2 hr92 er2 u2 hu02 hu12 eu2 hpd2 h2 fr2 m2 => ?_) (fun r2 hr92 er2 u2 hu02 hu12 eu2 hpd2 h2 R9 fz fr2 m2 r9 hrr => ?_)
    · exact absurd (c1.symm.trans d1) (by decide)
    · exact absurd (c2.symm.trans d2) (by decide)
    · have d1 : inN (S (i0 + 1)) nh = true := by rw [er2]; exact inN_of hr92 (by omega)
      have d2 : inI (S (i0 + 2)) 1 1000 = true := by rw [eu2]; exact inI_of hu02 hu12 (by decide)
      show WP Γ _ _ _ _ _ _ _
      obtain rfl : r = r2 := (nI_eq9 (by omega) (by omega)).mp (er.symm.trans er2)
      exact TO _ _ h2 _ fo1 (fin_q hA hs0 hM0 hP0 c10 hm B fr2 ⟨_, _, _, _, _, _, m2⟩) ⟨_, _, _, _, _, _, _, m2⟩ ((fr2.2 _ (by omega)).trans (ax_set_self _ _ _)) hv
    · have d1 : inN (S (i0 + 1)) nh = true := by rw [er2]; exact inN_of hr92 (by omega)
      have d2 : inI (S (i0 + 2)) 1 1000 = true := by rw [eu2]; exact inI_of hu02 hu12 (by decide)
      obtain rfl : r = r2 := (nI_eq9 (by omega) (by omega)).mp (er.symm.trans er2)
      exact absurd (hpd.symm.trans hpd2) (by decide)
  · refine ⟨fo, ((fr1.2 _ (by omega)).trans o1), fun fo1 hv => ?_⟩
    show WP Γ _ _ _ _ _ _ _
    have B : Bet p m h h1 _ := Bet.o fo1 ho hm (fun c hc => fr1.2 c (by omega))
    have c1 : inN (S (i0 + 1)) nh = true := by rw [er]; exact inN_of hr9 (by omega)
    have c2 : inI (S (i0 + 2)) 1 1000 = true := by rw [eu]; exact inI_of hu0 hu1 (by decide)
    refine MC _ _ _ _ (B.1 _ (by omega)) (B.1 _ (by omega)) ?_
    refine s_X10_extend (ModC.mv (B.1 _ (by omega)) mC) ((B.1 _ (by omega)).trans mR) hr0 hI0 (by omega) (by omega) (by omega) (fun d1 h2 fr2 m2 => ?_) (fun d1 d2 h2 fr2 m2 => ?_) (fun r2 hr92 er2 u2 hu02 hu12 eu2 hpd2 h2 fr2 m2 => ?_) (fun r2 hr92 er2 u2 hu02 hu12 eu2 hpd2 h2 R9 fz fr2 m2 r9 hrr => ?_)
    · exact absurd (c1.symm.trans d1) (by decide)
    · exact absurd (c2.symm.trans d2) (by decide)
    · have d1 : inN (S (i0 + 1)) nh = true := by rw [er2]; exact inN_of hr92 (by omega)
      have d2 : inI (S (i0 + 2)) 1 1000 = true := by rw [eu2]; exact inI_of hu02 hu12 (by decide)
      obtain rfl : r = r2 := (nI_eq9 (by omega) (by omega)).mp (er.symm.trans er2)
      exact absurd (hpd.symm.trans hpd2) (by decide)
    · have d1 : inN (S (i0 + 1)) nh = true := by rw [er2]; exact inN_of hr92 (by omega)
      have d2 : inI (S (i0 + 2)) 1 1000 = true := by rw [eu2]; exact inI_of hu02 hu12 (by decide)
      show WP Γ _ _ _ _ _ _ _
      obtain rfl : r = r2 := (nI_eq9 (by omega) (by omega)).mp (er.symm.trans er2)
      obtain rfl : u = u2 := (nI_eq9 (by omega) (by omega)).mp (eu.symm.trans eu2)
      exact TO _ _ h2 _ fo1 (fin_s (K' := mkK np qu ra re le ln nb pl tm ne rw bk nh (upd hw (r * 5 + 3) (hw (r * 5 + 3) + nI u)) nc cw t y) hA hs0 hM0 ⟨hlen, hI0.resU (by omega) (by omega), hIS⟩ (c10.led fr1 ⟨_, hL1⟩) hm B fz (fun c a b _ _ => fr2 c a b) ⟨_, _, _, _, _, _, m2⟩ ⟨R9, r9, hrr⟩ ⟨RE, (fr2 _ (by omega) (by omega)).trans ((B.1 _ (by omega)).trans mE), hre0⟩ ⟨mpk, (fr2 _ (by omega) (by omega)).trans ((B.1 _ (by omega)).trans mP)⟩) ⟨_, _, _, _, _, _, _, m2⟩ ((fr2 _ (by omega) (by omega)).trans (ax_set_self _ _ _)) hv
end
