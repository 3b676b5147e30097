/-! ===== the law: cases ===== -/
section
variable {Γ : GE} {h : AH} {Q : PO} {p m b D sa N len i0 c0 s0 np nb ne nh nc y : Nat} {er : Int32} {bs S : FI} {f : Nat → Option Nat} {KS : Nat → KL} {qu ra le ln pl tm rw hw cw : FI} {re : Nat → UInt32} {bk : Nat → Int64} {t : Int32}
theorem cs_since (hA : Γ.2.1 ≤ p) (hs : ScrP Γ h sa N S) (ho : OutP h m) (c1 : ClsP h p m b D er bs len f (mkK np qu ra re le ln nb pl tm ne rw bk nh hw nc cw t y) KS) (hP : PurP len f (mkK np qu ra re le ln nb pl tm ne rw bk nh hw nc cw t y) KS) (hM : ModP h m er bs len f (mkK np qu ra re le ln nb pl tm ne rw bk nh hw nc cw t y) KS) (hi : i0 + 5 ≤ N) (k : ∀ h', Sim Γ h' p m sa N S → WP Γ ML_law (10, 196, c0, s0) 3329 [some (.ref sa), some (.ref p), some (.ref m), some (.ref (m + 12)), some (.ref (m + 13)), some (.int (nI i0)), none, none, none, none] [] h' Q) : WP Γ ML_law (10, 196, c0 + 20, s0 + 4409) 1471 [some (.ref sa), some (.ref p), some (.ref m), some (.ref (m + 12)), some (.ref (m + 13)), some (.int (nI i0)), none, none, none, none] [] h Q := by
  have hs0 := hs
  have c10 := c1
  have hP0 := hP
  have hM0 := hM
  obtain ⟨hsa, hsl, hN, hfree⟩ := hs
  obtain ⟨⟨fo, o1⟩, fd, o2⟩ := ho
  obtain ⟨hF, hT, hR3, hBat, hSna, ⟨pk, hL⟩, hX, hbD, hm, hz, hsn, hap⟩ := c1
  obtain ⟨hlen, hI, hIS⟩ := hP
  obtain ⟨⟨th, at', bg, e9, ea, cm, mC⟩, ⟨R, mR, hr⟩, ⟨R2, mR2⟩, ⟨R3, mR3⟩, ⟨RE, mE, hre⟩, ⟨RA, mRA⟩, ⟨mpk, mP⟩, ⟨B, mB, hB⟩, ⟨CM, mK⟩, CC, CE, SV, mCC, mCE, mSV, hsv, hsr⟩ := hM
  have hI0 : Inv np qu ra re le ln nb pl tm ne rw bk nh hw nc cw t y := hI
  have hr0 : RowR R np qu ra re le ln nb pl tm ne rw bk nh hw nc cw t y := hr
  have hL0 : LedP h b np qu ra re le ln nb pl tm ne rw bk nh hw nc cw t y pk := hL
  have hre0 : ∀ j, j < np → RE j = re j := hre
  obtain ⟨⟨s1, s2, s3, s4, s5, s6, s7, s8, tn, s9, s10⟩, IM, IP, IJ, IR, IC⟩ := hI0
  have hI0 : Inv np qu ra re le ln nb pl tm ne rw bk nh hw nc cw t y := hI
  have hF' := hF
  unfold FacC at hF'
  have ho : OutP h m := ⟨⟨fo, o1⟩, fd, o2⟩
  have TE : ∀ (X Y : Nat) (h2 : AH) (kk : Int32) (v9 : Int32), ¬ kk = 0 → Sim Γ h2 p m sa N S → (∃ tl at' bg e9 ea lr cm, ModC h2 m (m + 1) kk tl at' bg e9 ea lr cm) → WP Γ ML_law (10, 196, c0 + X, s0 + Y) 1494 [some (.ref sa), some (.ref p), some (.ref m), some (.ref (m + 12)), some (.ref (m + 13)), some (.int (nI i0)), some (.int kk), none, none, none] [.int v9] h2 Q := by
    intro X Y h2 kk v9 hk hsim hm2
    obtain ⟨tl2, at2, bg2, e2, ea2, lr2, cm2, m2⟩ := hm2
    have m20 := m2
    unfold ModC at m2
    refine wp_istore (n := 1496) dL_law_1494 rfl rfl rfl rfl ?_
    refine wp_aload_n (n := 1497) dL_law_1496 rfl rfl ?_
    refine wp_callVs (n := 1500) (rm' := (0, 0, 0, 0)) (c0 := c0) (s0 := s0) rfl dL_law_1497 rfl mlL_156 [] rfl rfl m2 rfl rfl rfl (Nat.le_of_ble_eq_true rfl) rfl ?_
    refine s_X10_thrown m20 ?_
    show WP Γ _ _ _ _ _ _ _
    refine wp_iload (n := 1502) dL_law_1500 rfl rfl ?_
    refine wp_icmp_eq (t := 1507) (n := 1505) dL_law_1502 (by decide) rfl (fun hc => ?_) (fun hc => ?_)
    · refine wp_iload (n := 1509) dL_law_1507 rfl rfl ?_
      refine wp_if_ne (t := 1524) (n := 1512) dL_law_1509 (by decide) rfl (fun hq => ?_) (fun hq => ?_)
      · refine wp_goto (t := 3329) dL_law_1524 (by decide) ?_
        refine wp_lo (lo' := [some (.ref sa), some (.ref p), some (.ref m), some (.ref (m + 12)), some (.ref (m + 13)), some (.int (nI i0)), none, none, none, none]) (fun k v hk => ?_) ?_
        · match k, hk with
          | 0, hk => exact hk
          | 1, hk => exact hk
          | 2, hk => exact hk
          | 3, hk => exact hk
          | 4, hk => exact hk
          | 5, hk => exact hk
          | 6, hk => exact absurd hk (by simp [ax_gl])
          | 7, hk => exact absurd hk (by simp [ax_gl])
          | 8, hk => exact absurd hk (by simp [ax_gl])
          | 9, hk => exact absurd hk (by simp [ax_gl])
          | k + 10, hk => exact absurd hk (by simp [ax_gl])
        exact wp_big (rm := (10, 196, c0, s0)) (Nat.le_refl _) (Nat.le_refl _) (Nat.le_add_right _ _) (Nat.le_add_right _ _) (k h2 hsim)
      · exact absurd hq hk
    · exact absurd rfl hc
  have TO : ∀ (X Y : Nat) (h2 : AH) (r : Int32) (fo2 : Nat → Int64), Sim Γ h2 p m sa N S → (∃ tl at' bg e9 ea lr cm, ModC h2 m (m + 1) 0 tl at' bg e9 ea lr cm) → h2.2 (m + 12) = some (.inl (.long, 1, .inr (.inl fo2))) → fo2 0 = r.toInt64 → WP Γ ML_law (10, 196, c0 + X, s0 + Y) 1494 [some (.ref sa), some (.ref p), some (.ref m), some (.ref (m + 12)), some (.ref (m + 13)), some (.int (nI i0)), some (.int 0), none, none, none] [.int r] h2 Q := by
    intro X Y h2 r fo2 hsim hm2 ho2 hv2
    obtain ⟨tl2, at2, bg2, e2, ea2, lr2, cm2, m2⟩ := hm2
    have m20 := m2
    unfold ModC at m2
    have fin : ∀ l7 : Option Value, WP Γ ML_law (10, 196, c0 + (X - 0), s0 + (Y - 0)) 1524 [some (.ref sa), some (.ref p), some (.ref m), some (.ref (m + 12)), some (.ref (m + 13)), some (.int (nI i0)), some (.int 0), l7, none, none] [] h2 Q := by
      intro l7
      refine wp_goto (t := 3329) dL_law_1524 (by decide) ?_
      refine wp_lo (lo' := [some (.ref sa), some (.ref p), some (.ref m), some (.ref (m + 12)), some (.ref (m + 13)), some (.int (nI i0)), none, none, none, none]) (fun k v hk => ?_) ?_
      · match k, hk with
        | 0, hk => exact hk
        | 1, hk => exact hk
        | 2, hk => exact hk
        | 3, hk => exact hk
        | 4, hk => exact hk
        | 5, hk => exact hk
        | 6, hk => exact absurd hk (by simp [ax_gl])
        | 7, hk => exact absurd hk (by simp [ax_gl])
        | 8, hk => exact absurd hk (by simp [ax_gl])
        | 9, hk => exact absurd hk (by simp [ax_gl])
        | k + 10, hk => exact absurd hk (by simp [ax_gl])
      exact wp_big (rm := (10, 196, c0, s0)) (Nat.le_refl _) (Nat.le_refl _) (Nat.le_add_right _ _) (Nat.le_add_right _ _) (k h2 hsim)
    refine wp_istore (n := 1496) dL_law_1494 rfl rfl rfl rfl ?_
    refine wp_aload_n (n := 1497) dL_law_1496 rfl rfl ?_
    refine wp_callVs (n := 1500) (rm' := (0, 0, 0, 0)) (c0 := c0) (s0 := s0) rfl dL_law_1497 rfl mlL_156 [] rfl rfl m2 rfl rfl rfl (Nat.le_of_ble_eq_true rfl) rfl ?_
    refine s_X10_thrown m20 ?_
    show WP Γ _ _ _ _ _ _ _
    refine wp_iload (n := 1502) dL_law_1500 rfl rfl ?_
    refine wp_icmp_eq (t := 1507) (n := 1505) dL_law_1502 (by decide) rfl (fun hc => ?_) (fun hc => ?_)
    · refine wp_iload (n := 1509) dL_law_1507 rfl rfl ?_
      refine wp_if_ne (t := 1524) (n := 1512) dL_law_1509 (by decide) rfl (fun hq => ?_) (fun hq => ?_)
      · exact absurd rfl hq
      · refine wp_aload_n (n := 1513) dL_law_1512 rfl rfl ?_
        refine wp_iconst (n := 1514) (v := 0) dL_law_1513 rfl (by decide) ?_
        refine wp_lald (n := 1515) 0 dL_law_1514 rfl ho2 rfl (by omega) (by omega) ?_
        rw [hv2]
        refine wp_iload (n := 1517) dL_law_1515 rfl rfl ?_
        refine wp_i2l (n := 1518) dL_law_1517 rfl ?_
        refine wp_lcmp (n := 1519) dL_law_1518 rfl ?_
        rw [lg_self]
        refine wp_if_eq (t := 1524) (n := 1522) dL_law_1519 (by decide) rfl (fun hu => ?_) (fun hu => ?_)
        · exact fin _
        · exact absurd rfl hu
    · exact absurd rfl hc
  have MC : ∀ (X Y : Nat) (h3 : AH) (kk : Int32), h3.2 m = h.2 m → h3.2 sa = h.2 sa → WP Γ MX10_since (2, 43, 0, 0) 0 [some (.ref m), some (.int (S (i0 + 1)))] [] h3 (ax_K Γ ML_law (10, 196, c0 + (X - 0), s0 + (Y - 0)) 1494 [some (.ref sa), some (.ref p), some (.ref m), some (.ref (m + 12)), some (.ref (m + 13)), some (.int (nI i0)), some (.int kk), none, none, none] [] Q) → WP Γ ML_law (10, 196, c0 + X, s0 + Y) 1482 [some (.ref sa), some (.ref p), some (.ref m), some (.ref (m + 12)), some (.ref (m + 13)), some (.int (nI i0)), none, none, none, none] [.int kk] h3 Q := by
    intro X Y h3 kk e1 e2 kk3
    have mC3' := ModC.mv e1 mC
    unfold ModC at mC3'
    have hsa3 := e2.trans hsa
    refine wp_istore (n := 1484) dL_law_1482 rfl rfl rfl rfl ?_
    refine wp_aload_n (n := 1485) dL_law_1484 rfl rfl ?_
    refine wp_aload_n (n := 1486) dL_law_1485 rfl rfl ?_
    refine wp_iload (n := 1488) dL_law_1486 rfl rfl ?_
    refine wp_iconst (n := 1489) (v := nI 1) dL_law_1488 rfl (by decide) ?_
    refine wp_iadd (n := 1490) dL_law_1489 rfl ?_
    refine wp_iald (n := 1491) (i0 + 1) dL_law_1490 rfl (by repeat first | assumption | exact ax_set_self _ _ _ | exact ax_newA_self _ _ _ | refine (ax_set_ne _ _ (by omega)).trans ?_ | refine (ax_newA_ne _ _ _ (by omega)).trans ?_) (by simp only [nI_zero, nI_mul, nI_add]) (by omega) (by omega) ?_
    refine wp_callVs (n := 1494) (rm' := (2, 43, 0, 0)) (c0 := c0) (s0 := s0) rfl dL_law_1491 rfl mlL_241 [.int (S (i0 + 1))] rfl rfl mC3' rfl rfl rfl (Nat.le_of_ble_eq_true rfl) rfl ?_
    exact kk3
  refine wp_aload_n (n := 1472) dL_law_1471 rfl rfl ?_
  refine wp_aload_n (n := 1473) dL_law_1472 rfl rfl ?_
  refine wp_iload (n := 1475) dL_law_1473 rfl rfl ?_
  refine wp_iconst (n := 1476) (v := nI 1) dL_law_1475 rfl (by decide) ?_
  refine wp_iadd (n := 1477) dL_law_1476 rfl ?_
  refine wp_iald (n := 1478) (i0 + 1) dL_law_1477 rfl (by repeat first | assumption | exact ax_set_self _ _ _ | exact ax_newA_self _ _ _ | refine (ax_set_ne _ _ (by omega)).trans ?_ | refine (ax_newA_ne _ _ _ (by omega)).trans ?_) (by simp only [nI_zero, nI_mul, nI_add]) (by omega) (by omega) ?_
  refine wp_aload_n (n := 1479) dL_law_1478 rfl rfl ?_
  refine wp_callSH (n := 1482) (rm' := (8, 137, 1, 6)) (c0 := c0) (s0 := s0) (C := 20) (S := 4409) rfl dL_law_1479 rfl mwL_239 [.ref p, .int (S (i0 + 1)), .ref (m + 12)] rfl rfl rfl rfl (Nat.le_of_ble_eq_true rfl) rfl ?_
  refine s_L_since hF' (by omega) ?_
  refine s_X9_since hF hL0 (by omega) (fun c1 n1 hn1 => ?_) (fun j hj ej => ?_)
  · refine Or.inr (Or.inl ⟨rfl, rfl, ?_⟩)
    show WP Γ _ _ _ _ _ _ _
    have B : Bet p m h h _ := Bet.n (p := p) ho hn1
    refine MC _ _ _ _ (B.1 _ (by omega)) (B.1 _ (by omega)) ?_
    refine s_X10_since (ModC.mv (B.1 _ (by omega)) mC) ((B.1 _ (by omega)).trans mR) hr0 hI0.1 (by omega) (by omega) (fun d1 h2 fr2 m2 => ?_) (fun i hi ei h2 fr2 m2 => ?_)
    · show WP Γ _ _ _ _ _ _ _
      exact TE _ _ h2 _ _ (by decide) (fin_q hA hs0 hM0 hP0 c10 hm B fr2 ⟨_, _, _, _, _, _, m2⟩) ⟨_, _, _, _, _, _, _, m2⟩
    · have d1 : inN (S (i0 + 1)) nb = true := by rw [ei]; exact inN_of hi (by omega)
      exact absurd (c1.symm.trans d1) (by decide)
  · refine ⟨fo, o1, fun fo1 hv => ?_⟩
    show WP Γ _ _ _ _ _ _ _
    have B : Bet p m h h _ := Bet.o fo1 ho hm (fun _ _ => rfl)
    have c1 : inN (S (i0 + 1)) nb = true := by rw [ej]; exact inN_of hj (by omega)
    refine MC _ _ _ _ (B.1 _ (by omega)) (B.1 _ (by omega)) ?_
    refine s_X10_since (ModC.mv (B.1 _ (by omega)) mC) ((B.1 _ (by omega)).trans mR) hr0 hI0.1 (by omega) (by omega) (fun d1 h2 fr2 m2 => ?_) (fun i hi ei h2 fr2 m2 => ?_)
    · exact absurd (c1.symm.trans d1) (by decide)
    · have d1 : inN (S (i0 + 1)) nb = true := by rw [ei]; exact inN_of hi (by omega)
      show WP Γ _ _ _ _ _ _ _
      obtain rfl : j = i := (nI_eq9 (by omega) (by omega)).mp (ej.symm.trans ei)
      exact TO _ _ h2 _ fo1 (fin_q hA hs0 hM0 hP0 c10 hm B fr2 ⟨_, _, _, _, _, _, m2⟩) ⟨_, _, _, _, _, _, _, m2⟩ ((fr2.2 _ (by omega)).trans (ax_set_self _ _ _)) hv
theorem cs_fragmentation (hA : Γ.2.1 ≤ p) (hs : ScrP Γ h sa N S) (ho : OutP h m) (c1 : ClsP h p m b D er bs len f (mkK np qu ra re le ln nb pl tm ne rw bk nh hw nc cw t y) KS) (hP : PurP len f (mkK np qu ra re le ln nb pl tm ne rw bk nh hw nc cw t y) KS) (hM : ModP h m er bs len f (mkK np qu ra re le ln nb pl tm ne rw bk nh hw nc cw t y) KS) (hi : i0 + 5 ≤ N) (k : ∀ h', Sim Γ h' p m sa N S → WP Γ ML_law (10, 196, c0, s0) 3329 [some (.ref sa), some (.ref p), some (.ref m), some (.ref (m + 12)), some (.ref (m + 13)), some (.int (nI i0)), none, none, none, none] [] h' Q) : WP Γ ML_law (10, 196, c0 + 20, s0 + 4409) 1787 [some (.ref sa), some (.ref p), some (.ref m), some (.ref (m + 12)), some (.ref (m + 13)), some (.int (nI i0)), none, none, none, none] [] h Q := by
  have hs0 := hs
  have c10 := c1
  have hP0 := hP
  have hM0 := hM
  obtain ⟨hsa, hsl, hN, hfree⟩ := hs
  obtain ⟨⟨fo, o1⟩, fd, o2⟩ := ho
  obtain ⟨hF, hT, hR3, hBat, hSna, ⟨pk, hL⟩, hX, hbD, hm, hz, hsn, hap⟩ := c1
  obtain ⟨hlen, hI, hIS⟩ := hP
  obtain ⟨⟨th, at', bg, e9, ea, cm, mC⟩, ⟨R, mR, hr⟩, ⟨R2, mR2⟩, ⟨R3, mR3⟩, ⟨RE, mE, hre⟩, ⟨RA, mRA⟩, ⟨mpk, mP⟩, ⟨B, mB, hB⟩, ⟨CM, mK⟩, CC, CE, SV, mCC, mCE, mSV, hsv, hsr⟩ := hM
  have hI0 : Inv np qu ra re le ln nb pl tm ne rw bk nh hw nc cw t y := hI
  have hr0 : RowR R np qu ra re le ln nb pl tm ne rw bk nh hw nc cw t y := hr
  have hL0 : LedP h b np qu ra re le ln nb pl tm ne rw bk nh hw nc cw t y pk := hL
  have hre0 : ∀ j, j < np → RE j = re j := hre
  obtain ⟨⟨s1, s2, s3, s4, s5, s6, s7, s8, tn, s9, s10⟩, IM, IP, IJ, IR, IC⟩ := hI0
  have hI0 : Inv np qu ra re le ln nb pl tm ne rw bk nh hw nc cw t y := hI
  have hF' := hF
  unfold FacC at hF'
  have ho : OutP h m := ⟨⟨fo, o1⟩, fd, o2⟩
  have TE : ∀ (X Y : Nat) (h2 : AH) (kk : Int32) (v9 : UInt32), ¬ kk = 0 → Sim Γ h2 p m sa N S → (∃ tl at' bg e9 ea lr cm, ModC h2 m (m + 1) kk tl at' bg e9 ea lr cm) → WP Γ ML_law (10, 196, c0 + X, s0 + Y) 1811 [some (.ref sa), some (.ref p), some (.ref m), some (.ref (m + 12)), some (.ref (m + 13)), some (.int (nI i0)), some (.int kk), none, none, none] [.float v9] h2 Q := by
    intro X Y h2 kk v9 hk hsim hm2
    obtain ⟨tl2, at2, bg2, e2, ea2, lr2, cm2, m2⟩ := hm2
    have m20 := m2
    unfold ModC at m2
    refine wp_fstore (n := 1813) dL_law_1811 rfl rfl rfl rfl ?_
    refine wp_aload_n (n := 1814) dL_law_1813 rfl rfl ?_
    refine wp_callVs (n := 1817) (rm' := (0, 0, 0, 0)) (c0 := c0) (s0 := s0) rfl dL_law_1814 rfl mlL_156 [] rfl rfl m2 rfl rfl rfl (Nat.le_of_ble_eq_true rfl) rfl ?_
    refine s_X10_thrown m20 ?_
    show WP Γ _ _ _ _ _ _ _
    refine wp_iload (n := 1819) dL_law_1817 rfl rfl ?_
    refine wp_icmp_eq (t := 1824) (n := 1822) dL_law_1819 (by decide) rfl (fun hc => ?_) (fun hc => ?_)
    · refine wp_iload (n := 1826) dL_law_1824 rfl rfl ?_
      refine wp_if_ne (t := 1862) (n := 1829) dL_law_1826 (by decide) rfl (fun hq => ?_) (fun hq => ?_)
      · refine wp_goto (t := 3329) dL_law_1862 (by decide) ?_
        refine wp_lo (lo' := [some (.ref sa), some (.ref p), some (.ref m), some (.ref (m + 12)), some (.ref (m + 13)), some (.int (nI i0)), none, none, none, none]) (fun k v hk => ?_) ?_
        · match k, hk with
          | 0, hk => exact hk
          | 1, hk => exact hk
          | 2, hk => exact hk
          | 3, hk => exact hk
          | 4, hk => exact hk
          | 5, hk => exact hk
          | 6, hk => exact absurd hk (by simp [ax_gl])
          | 7, hk => exact absurd hk (by simp [ax_gl])
          | 8, hk => exact absurd hk (by simp [ax_gl])
          | 9, hk => exact absurd hk (by simp [ax_gl])
          | k + 10, hk => exact absurd hk (by simp [ax_gl])
        exact wp_big (rm := (10, 196, c0, s0)) (Nat.le_refl _) (Nat.le_refl _) (Nat.le_add_right _ _) (Nat.le_add_right _ _) (k h2 hsim)
      · exact absurd hq hk
    · exact absurd rfl hc
  have TO : ∀ (X Y : Nat) (h2 : AH) (r : UInt32) (fo2 : Nat → UInt64), FP.Core.val32 r ≠ .nan → Sim Γ h2 p m sa N S → (∃ tl at' bg e9 ea lr cm, ModC h2 m (m + 1) 0 tl at' bg e9 ea lr cm) → h2.2 (m + 13) = some (.inl (.double, 1, .inr (.inr (.inr (.inl fo2))))) → fo2 0 = FP.f2d r → WP Γ ML_law (10, 196, c0 + X, s0 + Y) 1811 [some (.ref sa), some (.ref p), some (.ref m), some (.ref (m + 12)), some (.ref (m + 13)), some (.int (nI i0)), some (.int 0), none, none, none] [.float r] h2 Q := by
    intro X Y h2 r fo2 hnan hsim hm2 ho2 hv2
    obtain ⟨tl2, at2, bg2, e2, ea2, lr2, cm2, m2⟩ := hm2
    have m20 := m2
    unfold ModC at m2
    have fin : ∀ l7 : Option Value, WP Γ ML_law (10, 196, c0 + (X - 0), s0 + (Y - 0)) 1862 [some (.ref sa), some (.ref p), some (.ref m), some (.ref (m + 12)), some (.ref (m + 13)), some (.int (nI i0)), some (.int 0), l7, none, none] [] h2 Q := by
      intro l7
      refine wp_goto (t := 3329) dL_law_1862 (by decide) ?_
      refine wp_lo (lo' := [some (.ref sa), some (.ref p), some (.ref m), some (.ref (m + 12)), some (.ref (m + 13)), some (.int (nI i0)), none, none, none, none]) (fun k v hk => ?_) ?_
      · match k, hk with
        | 0, hk => exact hk
        | 1, hk => exact hk
        | 2, hk => exact hk
        | 3, hk => exact hk
        | 4, hk => exact hk
        | 5, hk => exact hk
        | 6, hk => exact absurd hk (by simp [ax_gl])
        | 7, hk => exact absurd hk (by simp [ax_gl])
        | 8, hk => exact absurd hk (by simp [ax_gl])
        | 9, hk => exact absurd hk (by simp [ax_gl])
        | k + 10, hk => exact absurd hk (by simp [ax_gl])
      exact wp_big (rm := (10, 196, c0, s0)) (Nat.le_refl _) (Nat.le_refl _) (Nat.le_add_right _ _) (Nat.le_add_right _ _) (k h2 hsim)
    refine wp_fstore (n := 1813) dL_law_1811 rfl rfl rfl rfl ?_
    refine wp_aload_n (n := 1814) dL_law_1813 rfl rfl ?_
    refine wp_callVs (n := 1817) (rm' := (0, 0, 0, 0)) (c0 := c0) (s0 := s0) rfl dL_law_1814 rfl mlL_156 [] rfl rfl m2 rfl rfl rfl (Nat.le_of_ble_eq_true rfl) rfl ?_
    refine s_X10_thrown m20 ?_
    show WP Γ _ _ _ _ _ _ _
    refine wp_iload (n := 1819) dL_law_1817 rfl rfl ?_
    refine wp_icmp_eq (t := 1824) (n := 1822) dL_law_1819 (by decide) rfl (fun hc => ?_) (fun hc => ?_)
    · refine wp_iload (n := 1826) dL_law_1824 rfl rfl ?_
      refine wp_if_ne (t := 1862) (n := 1829) dL_law_1826 (by decide) rfl (fun hq => ?_) (fun hq => ?_)
      · exact absurd rfl hq
      · refine wp_aload (n := 1831) dL_law_1829 rfl rfl ?_
        refine wp_iconst (n := 1832) (v := 0) dL_law_1831 rfl (by decide) ?_
        refine wp_dald (n := 1833) 0 dL_law_1832 rfl ho2 rfl (by omega) (by omega) ?_
        rw [hv2]
        refine wp_fload (n := 1835) dL_law_1833 rfl rfl ?_
        refine wp_f2d (n := 1836) dL_law_1835 rfl (n64_of (nn_f2d hnan)) ?_
        refine wp_dcmp (n := 1837) dL_law_1836 rfl ?_
        rw [dcmp_self (nn_f2d hnan)]
        refine wp_if_eq (t := 1862) (n := 1840) dL_law_1837 (by decide) rfl (fun hu => ?_) (fun hu => ?_)
        · exact fin _
        · exact absurd rfl hu
    · exact absurd rfl hc
  have MC : ∀ (X Y : Nat) (h3 : AH) (kk : Int32), h3.2 m = h.2 m → h3.2 sa = h.2 sa → WP Γ MX10_fragmentation (2, 84, 0, 0) 0 [some (.ref m), some (.int (S (i0 + 1)))] [] h3 (ax_K Γ ML_law (10, 196, c0 + (X - 0), s0 + (Y - 0)) 1811 [some (.ref sa), some (.ref p), some (.ref m), some (.ref (m + 12)), some (.ref (m + 13)), some (.int (nI i0)), some (.int kk), none, none, none] [] Q) → WP Γ ML_law (10, 196, c0 + X, s0 + Y) 1799 [some (.ref sa), some (.ref p), some (.ref m), some (.ref (m + 12)), some (.ref (m + 13)), some (.int (nI i0)), none, none, none, none] [.int kk] h3 Q := by
    intro X Y h3 kk e1 e2 kk3
    have mC3' := ModC.mv e1 mC
    unfold ModC at mC3'
    have hsa3 := e2.trans hsa
    refine wp_istore (n := 1801) dL_law_1799 rfl rfl rfl rfl ?_
    refine wp_aload_n (n := 1802) dL_law_1801 rfl rfl ?_
    refine wp_aload_n (n := 1803) dL_law_1802 rfl rfl ?_
    refine wp_iload (n := 1805) dL_law_1803 rfl rfl ?_
    refine wp_iconst (n := 1806) (v := nI 1) dL_law_1805 rfl (by decide) ?_
    refine wp_iadd (n := 1807) dL_law_1806 rfl ?_
    refine wp_iald (n := 1808) (i0 + 1) dL_law_1807 rfl (by repeat first | assumption | exact ax_set_self _ _ _ | exact ax_newA_self _ _ _ | refine (ax_set_ne _ _ (by omega)).trans ?_ | refine (ax_newA_ne _ _ _ (by omega)).trans ?_) (by simp only [nI_zero, nI_mul, nI_add]) (by omega) (by omega) ?_
    refine wp_callVs (n := 1811) (rm' := (2, 84, 0, 0)) (c0 := c0) (s0 := s0) rfl dL_law_1808 rfl mlL_257 [.int (S (i0 + 1))] rfl rfl mC3' rfl rfl rfl (Nat.le_of_ble_eq_true rfl) rfl ?_
    exact kk3
  refine wp_aload_n (n := 1788) dL_law_1787 rfl rfl ?_
  refine wp_aload_n (n := 1789) dL_law_1788 rfl rfl ?_
  refine wp_iload (n := 1791) dL_law_1789 rfl rfl ?_
  refine wp_iconst (n := 1792) (v := nI 1) dL_law_1791 rfl (by decide) ?_
  refine wp_iadd (n := 1793) dL_law_1792 rfl ?_
  refine wp_iald (n := 1794) (i0 + 1) dL_law_1793 rfl (by repeat first | assumption | exact ax_set_self _ _ _ | exact ax_newA_self _ _ _ | refine (ax_set_ne _ _ (by omega)).trans ?_ | refine (ax_newA_ne _ _ _ (by omega)).trans ?_) (by simp only [nI_zero, nI_mul, nI_add]) (by omega) (by omega) ?_
  refine wp_aload (n := 1796) dL_law_1794 rfl rfl ?_
  refine wp_callSH (n := 1799) (rm' := (8, 138, 1, 6)) (c0 := c0) (s0 := s0) (C := 20) (S := 4409) rfl dL_law_1796 rfl mwL_254 [.ref p, .int (S (i0 + 1)), .ref (m + 13)] rfl rfl rfl rfl (Nat.le_of_ble_eq_true rfl) rfl ?_
  refine s_L_fragmentation hF' (by omega) ?_
  refine s_X9_fragmentation hF hL0 (by omega) (by omega) (fun c1 n1 hn1 => ?_) (fun j hj ej hnan => ?_)
  · refine Or.inr (Or.inl ⟨rfl, rfl, ?_⟩)
    show WP Γ _ _ _ _ _ _ _
    have B : Bet p m h h _ := Bet.n (p := p) ho hn1
    refine MC _ _ _ _ (B.1 _ (by omega)) (B.1 _ (by omega)) ?_
    refine s_X10_fragmentation (ModC.mv (B.1 _ (by omega)) mC) ((B.1 _ (by omega)).trans mR) hr0 hI0 (by omega) (by omega) (fun d1 h2 fr2 m2 => ?_) (fun i hi ei h2 fr2 m2 => ?_)
    · show WP Γ _ _ _ _ _ _ _
      exact TE _ _ h2 _ _ (by decide) (fin_q hA hs0 hM0 hP0 c10 hm B fr2 ⟨_, _, _, _, _, _, m2⟩) ⟨_, _, _, _, _, _, _, m2⟩
    · have d1 : inN (S (i0 + 1)) np = true := by rw [ei]; exact inN_of hi (by omega)
      exact absurd (c1.symm.trans d1) (by decide)
  · refine ⟨hnan, fd, o2, fun fo1 hv => ?_⟩
    show WP Γ _ _ _ _ _ _ _
    have B : Bet p m h h _ := Bet.d fo1 ho hm (fun _ _ => rfl)
    have c1 : inN (S (i0 + 1)) np = true := by rw [ej]; exact inN_of hj (by omega)
    refine MC _ _ _ _ (B.1 _ (by omega)) (B.1 _ (by omega)) ?_
    refine s_X10_fragmentation (ModC.mv (B.1 _ (by omega)) mC) ((B.1 _ (by omega)).trans mR) hr0 hI0 (by omega) (by omega) (fun d1 h2 fr2 m2 => ?_) (fun i hi ei h2 fr2 m2 => ?_)
    · exact absurd (c1.symm.trans d1) (by decide)
    · have d1 : inN (S (i0 + 1)) np = true := by rw [ei]; exact inN_of hi (by omega)
      show WP Γ _ _ _ _ _ _ _
      obtain rfl : j = i := (nI_eq9 (by omega) (by omega)).mp (ej.symm.trans ei)
      exact TO _ _ h2 _ fo1 hnan (fin_q hA hs0 hM0 hP0 c10 hm B fr2 ⟨_, _, _, _, _, _, m2⟩) ⟨_, _, _, _, _, _, _, m2⟩ ((fr2.2 _ (by omega)).trans (ax_set_self _ _ _)) hv
theorem cs_rent (hA : Γ.2.1 ≤ p) (hs : ScrP Γ h sa N S) (ho : OutP h m) (c1 : ClsP h p m b D er bs len f (mkK np qu ra re le ln nb pl tm ne rw bk nh hw nc cw t y) KS) (hP : PurP len f (mkK np qu ra re le ln nb pl tm ne rw bk nh hw nc cw t y) KS) (hM : ModP h m er bs len f (mkK np qu ra re le ln nb pl tm ne rw bk nh hw nc cw t y) KS) (hi : i0 + 5 ≤ N) (k : ∀ h', Sim Γ h' p m sa N S → WP Γ ML_law (10, 196, c0, s0) 3329 [some (.ref sa), some (.ref p), some (.ref m), some (.ref (m + 12)), some (.ref (m + 13)), some (.int (nI i0)), none, none, none, none] [] h' Q) : WP Γ ML_law (10, 196, c0 + 20, s0 + 4409) 2751 [some (.ref sa), some (.ref p), some (.ref m), some (.ref (m + 12)), some (.ref (m + 13)), some (.int (nI i0)), none, none, none, none] [] h Q := by
  have hs0 := hs
  have c10 := c1
  have hP0 := hP
  have hM0 := hM
  obtain ⟨hsa, hsl, hN, hfree⟩ := hs
  obtain ⟨⟨fo, o1⟩, fd, o2⟩ := ho
  obtain ⟨hF, hT, hR3, hBat, hSna, ⟨pk, hL⟩, hX, hbD, hm, hz, hsn, hap⟩ := c1
  obtain ⟨hlen, hI, hIS⟩ := hP
  obtain ⟨⟨th, at', bg, e9, ea, cm, mC⟩, ⟨R, mR, hr⟩, ⟨R2, mR2⟩, ⟨R3, mR3⟩, ⟨RE, mE, hre⟩, ⟨RA, mRA⟩, ⟨mpk, mP⟩, ⟨B, mB, hB⟩, ⟨CM, mK⟩, CC, CE, SV, mCC, mCE, mSV, hsv, hsr⟩ := hM
  have hI0 : Inv np qu ra re le ln nb pl tm ne rw bk nh hw nc cw t y := hI
  have hr0 : RowR R np qu ra re le ln nb pl tm ne rw bk nh hw nc cw t y := hr
  have hL0 : LedP h b np qu ra re le ln nb pl tm ne rw bk nh hw nc cw t y pk := hL
  have hre0 : ∀ j, j < np → RE j = re j := hre
  obtain ⟨⟨s1, s2, s3, s4, s5, s6, s7, s8, tn, s9, s10⟩, IM, IP, IJ, IR, IC⟩ := hI0
  have hI0 : Inv np qu ra re le ln nb pl tm ne rw bk nh hw nc cw t y := hI
  have hF' := hF
  unfold FacC at hF'
  have ho : OutP h m := ⟨⟨fo, o1⟩, fd, o2⟩
  have TE : ∀ (X Y : Nat) (h2 : AH) (kk : Int32) (v9 : UInt32), ¬ kk = 0 → Sim Γ h2 p m sa N S → (∃ tl at' bg e9 ea lr cm, ModC h2 m (m + 1) kk tl at' bg e9 ea lr cm) → WP Γ ML_law (10, 196, c0 + X, s0 + Y) 2775 [some (.ref sa), some (.ref p), some (.ref m), some (.ref (m + 12)), some (.ref (m + 13)), some (.int (nI i0)), some (.int kk), none, none, none] [.float v9] h2 Q := by
    intro X Y h2 kk v9 hk hsim hm2
    obtain ⟨tl2, at2, bg2, e2, ea2, lr2, cm2, m2⟩ := hm2
    have m20 := m2
    unfold ModC at m2
    refine wp_fstore (n := 2777) dL_law_2775 rfl rfl rfl rfl ?_
    refine wp_aload_n (n := 2778) dL_law_2777 rfl rfl ?_
    refine wp_callVs (n := 2781) (rm' := (0, 0, 0, 0)) (c0 := c0) (s0 := s0) rfl dL_law_2778 rfl mlL_156 [] rfl rfl m2 rfl rfl rfl (Nat.le_of_ble_eq_true rfl) rfl ?_
    refine s_X10_thrown m20 ?_
    show WP Γ _ _ _ _ _ _ _
    refine wp_iload (n := 2783) dL_law_2781 rfl rfl ?_
    refine wp_icmp_eq (t := 2788) (n := 2786) dL_law_2783 (by decide) rfl (fun hc => ?_) (fun hc => ?_)
    · refine wp_iload (n := 2790) dL_law_2788 rfl rfl ?_
      refine wp_if_ne (t := 2826) (n := 2793) dL_law_2790 (by decide) rfl (fun hq => ?_) (fun hq => ?_)
      · refine wp_goto (t := 3329) dL_law_2826 (by decide) ?_
        refine wp_lo (lo' := [some (.ref sa), some (.ref p), some (.ref m), some (.ref (m + 12)), some (.ref (m + 13)), some (.int (nI i0)), none, none, none, none]) (fun k v hk => ?_) ?_
        · match k, hk with
          | 0, hk => exact hk
          | 1, hk => exact hk
          | 2, hk => exact hk
          | 3, hk => exact hk
          | 4, hk => exact hk
          | 5, hk => exact hk
          | 6, hk => exact absurd hk (by simp [ax_gl])
          | 7, hk => exact absurd hk (by simp [ax_gl])
          | 8, hk => exact absurd hk (by simp [ax_gl])
          | 9, hk => exact absurd hk (by simp [ax_gl])
          | k + 10, hk => exact absurd hk (by simp [ax_gl])
        exact wp_big (rm := (10, 196, c0, s0)) (Nat.le_refl _) (Nat.le_refl _) (Nat.le_add_right _ _) (Nat.le_add_right _ _) (k h2 hsim)
      · exact absurd hq hk
    · exact absurd rfl hc
  have TO : ∀ (X Y : Nat) (h2 : AH) (r : UInt32) (fo2 : Nat → UInt64), FP.Core.val32 r ≠ .nan → Sim Γ h2 p m sa N S → (∃ tl at' bg e9 ea lr cm, ModC h2 m (m + 1) 0 tl at' bg e9 ea lr cm) → h2.2 (m + 13) = some (.inl (.double, 1, .inr (.inr (.inr (.inl fo2))))) → fo2 0 = FP.f2d r → WP Γ ML_law (10, 196, c0 + X, s0 + Y) 2775 [some (.ref sa), some (.ref p), some (.ref m), some (.ref (m + 12)), some (.ref (m + 13)), some (.int (nI i0)), some (.int 0), none, none, none] [.float r] h2 Q := by
    intro X Y h2 r fo2 hnan hsim hm2 ho2 hv2
    obtain ⟨tl2, at2, bg2, e2, ea2, lr2, cm2, m2⟩ := hm2
    have m20 := m2
    unfold ModC at m2
    have fin : ∀ l7 : Option Value, WP Γ ML_law (10, 196, c0 + (X - 0), s0 + (Y - 0)) 2826 [some (.ref sa), some (.ref p), some (.ref m), some (.ref (m + 12)), some (.ref (m + 13)), some (.int (nI i0)), some (.int 0), l7, none, none] [] h2 Q := by
      intro l7
      refine wp_goto (t := 3329) dL_law_2826 (by decide) ?_
      refine wp_lo (lo' := [some (.ref sa), some (.ref p), some (.ref m), some (.ref (m + 12)), some (.ref (m + 13)), some (.int (nI i0)), none, none, none, none]) (fun k v hk => ?_) ?_
      · match k, hk with
        | 0, hk => exact hk
        | 1, hk => exact hk
        | 2, hk => exact hk
        | 3, hk => exact hk
        | 4, hk => exact hk
        | 5, hk => exact hk
        | 6, hk => exact absurd hk (by simp [ax_gl])
        | 7, hk => exact absurd hk (by simp [ax_gl])
        | 8, hk => exact absurd hk (by simp [ax_gl])
        | 9, hk => exact absurd hk (by simp [ax_gl])
        | k + 10, hk => exact absurd hk (by simp [ax_gl])
      exact wp_big (rm := (10, 196, c0, s0)) (Nat.le_refl _) (Nat.le_refl _) (Nat.le_add_right _ _) (Nat.le_add_right _ _) (k h2 hsim)
    refine wp_fstore (n := 2777) dL_law_2775 rfl rfl rfl rfl ?_
    refine wp_aload_n (n := 2778) dL_law_2777 rfl rfl ?_
    refine wp_callVs (n := 2781) (rm' := (0, 0, 0, 0)) (c0 := c0) (s0 := s0) rfl dL_law_2778 rfl mlL_156 [] rfl rfl m2 rfl rfl rfl (Nat.le_of_ble_eq_true rfl) rfl ?_
    refine s_X10_thrown m20 ?_
    show WP Γ _ _ _ _ _ _ _
    refine wp_iload (n := 2783) dL_law_2781 rfl rfl ?_
    refine wp_icmp_eq (t := 2788) (n := 2786) dL_law_2783 (by decide) rfl (fun hc => ?_) (fun hc => ?_)
    · refine wp_iload (n := 2790) dL_law_2788 rfl rfl ?_
      refine wp_if_ne (t := 2826) (n := 2793) dL_law_2790 (by decide) rfl (fun hq => ?_) (fun hq => ?_)
      · exact absurd rfl hq
      · refine wp_aload (n := 2795) dL_law_2793 rfl rfl ?_
        refine wp_iconst (n := 2796) (v := 0) dL_law_2795 rfl (by decide) ?_
        refine wp_dald (n := 2797) 0 dL_law_2796 rfl ho2 rfl (by omega) (by omega) ?_
        rw [hv2]
        refine wp_fload (n := 2799) dL_law_2797 rfl rfl ?_
        refine wp_f2d (n := 2800) dL_law_2799 rfl (n64_of (nn_f2d hnan)) ?_
        refine wp_dcmp (n := 2801) dL_law_2800 rfl ?_
        rw [dcmp_self (nn_f2d hnan)]
        refine wp_if_eq (t := 2826) (n := 2804) dL_law_2801 (by decide) rfl (fun hu => ?_) (fun hu => ?_)
        · exact fin _
        · exact absurd rfl hu
    · exact absurd rfl hc
  have MC : ∀ (X Y : Nat) (h3 : AH) (kk : Int32), h3.2 m = h.2 m → h3.2 sa = h.2 sa → WP Γ MX10_rent (2, 43, 0, 0) 0 [some (.ref m), some (.int (S (i0 + 1)))] [] h3 (ax_K Γ ML_law (10, 196, c0 + (X - 0), s0 + (Y - 0)) 2775 [some (.ref sa), some (.ref p), some (.ref m), some (.ref (m + 12)), some (.ref (m + 13)), some (.int (nI i0)), some (.int kk), none, none, none] [] Q) → WP Γ ML_law (10, 196, c0 + X, s0 + Y) 2763 [some (.ref sa), some (.ref p), some (.ref m), some (.ref (m + 12)), some (.ref (m + 13)), some (.int (nI i0)), none, none, none, none] [.int kk] h3 Q := by
    intro X Y h3 kk e1 e2 kk3
    have mC3' := ModC.mv e1 mC
    unfold ModC at mC3'
    have hsa3 := e2.trans hsa
    refine wp_istore (n := 2765) dL_law_2763 rfl rfl rfl rfl ?_
    refine wp_aload_n (n := 2766) dL_law_2765 rfl rfl ?_
    refine wp_aload_n (n := 2767) dL_law_2766 rfl rfl ?_
    refine wp_iload (n := 2769) dL_law_2767 rfl rfl ?_
    refine wp_iconst (n := 2770) (v := nI 1) dL_law_2769 rfl (by decide) ?_
    refine wp_iadd (n := 2771) dL_law_2770 rfl ?_
    refine wp_iald (n := 2772) (i0 + 1) dL_law_2771 rfl (by repeat first | assumption | exact ax_set_self _ _ _ | exact ax_newA_self _ _ _ | refine (ax_set_ne _ _ (by omega)).trans ?_ | refine (ax_newA_ne _ _ _ (by omega)).trans ?_) (by simp only [nI_zero, nI_mul, nI_add]) (by omega) (by omega) ?_
    refine wp_callVs (n := 2775) (rm' := (2, 43, 0, 0)) (c0 := c0) (s0 := s0) rfl dL_law_2772 rfl mlL_308 [.int (S (i0 + 1))] rfl rfl mC3' rfl rfl rfl (Nat.le_of_ble_eq_true rfl) rfl ?_
    exact kk3
  refine wp_aload_n (n := 2752) dL_law_2751 rfl rfl ?_
  refine wp_aload_n (n := 2753) dL_law_2752 rfl rfl ?_
  refine wp_iload (n := 2755) dL_law_2753 rfl rfl ?_
  refine wp_iconst (n := 2756) (v := nI 1) dL_law_2755 rfl (by decide) ?_
  refine wp_iadd (n := 2757) dL_law_2756 rfl ?_
  refine wp_iald (n := 2758) (i0 + 1) dL_law_2757 rfl (by repeat first | assumption | exact ax_set_self _ _ _ | exact ax_newA_self _ _ _ | refine (ax_set_ne _ _ (by omega)).trans ?_ | refine (ax_newA_ne _ _ _ (by omega)).trans ?_) (by simp only [nI_zero, nI_mul, nI_add]) (by omega) (by omega) ?_
  refine wp_aload (n := 2760) dL_law_2758 rfl rfl ?_
  refine wp_callSH (n := 2763) (rm' := (8, 137, 1, 6)) (c0 := c0) (s0 := s0) (C := 20) (S := 4409) rfl dL_law_2760 rfl mwL_306 [.ref p, .int (S (i0 + 1)), .ref (m + 13)] rfl rfl rfl rfl (Nat.le_of_ble_eq_true rfl) rfl ?_
  refine s_L_rent hF' (by omega) ?_
  refine s_X9_rent hF hL0 (by omega) (fun c1 n1 hn1 => ?_) (fun j hj ej => ?_)
  · refine Or.inr (Or.inl ⟨rfl, rfl, ?_⟩)
    show WP Γ _ _ _ _ _ _ _
    have B : Bet p m h h _ := Bet.n (p := p) ho hn1
    refine MC _ _ _ _ (B.1 _ (by omega)) (B.1 _ (by omega)) ?_
    refine s_X10_rent (ModC.mv (B.1 _ (by omega)) mC) ((B.1 _ (by omega)).trans mR) hr0 hI0 (by omega) (by omega) ((B.1 _ (by omega)).trans mE) hre0 (fun d1 h2 fr2 m2 => ?_) (fun i hi ei h2 fr2 m2 => ?_)
    · show WP Γ _ _ _ _ _ _ _
      exact TE _ _ h2 _ _ (by decide) (fin_q hA hs0 hM0 hP0 c10 hm B fr2 ⟨_, _, _, _, _, _, m2⟩) ⟨_, _, _, _, _, _, _, m2⟩
    · have d1 : inN (S (i0 + 1)) np = true := by rw [ei]; exact inN_of hi (by omega)
      exact absurd (c1.symm.trans d1) (by decide)
  · refine ⟨(IP j hj).1.nn, fd, o2, fun fo1 hv => ?_⟩
    show WP Γ _ _ _ _ _ _ _
    have B : Bet p m h h _ := Bet.d fo1 ho hm (fun _ _ => rfl)
    have c1 : inN (S (i0 + 1)) np = true := by rw [ej]; exact inN_of hj (by omega)
    refine MC _ _ _ _ (B.1 _ (by omega)) (B.1 _ (by omega)) ?_
    refine s_X10_rent (ModC.mv (B.1 _ (by omega)) mC) ((B.1 _ (by omega)).trans mR) hr0 hI0 (by omega) (by omega) ((B.1 _ (by omega)).trans mE) hre0 (fun d1 h2 fr2 m2 => ?_) (fun i hi ei h2 fr2 m2 => ?_)
    · exact absurd (c1.symm.trans d1) (by decide)
    · have d1 : inN (S (i0 + 1)) np = true := by rw [ei]; exact inN_of hi (by omega)
      show WP Γ _ _ _ _ _ _ _
      obtain rfl : j = i := (nI_eq9 (by omega) (by omega)).mp (ej.symm.trans ei)
      exact TO _ _ h2 _ fo1 (IP j hj).1.nn (fin_q hA hs0 hM0 hP0 c10 hm B fr2 ⟨_, _, _, _, _, _, m2⟩) ⟨_, _, _, _, _, _, _, m2⟩ ((fr2.2 _ (by omega)).trans (ax_set_self _ _ _)) hv
theorem cs_nameByte (hA : Γ.2.1 ≤ p) (hs : ScrP Γ h sa N S) (ho : OutP h m) (c1 : ClsP h p m b D er bs len f (mkK np qu ra re le ln nb pl tm ne rw bk nh hw nc cw t y) KS) (hP : PurP len f (mkK np qu ra re le ln nb pl tm ne rw bk nh hw nc cw t y) KS) (hM : ModP h m er bs len f (mkK np qu ra re le ln nb pl tm ne rw bk nh hw nc cw t y) KS) (hi : i0 + 5 ≤ N) (k : ∀ h', Sim Γ h' p m sa N S → WP Γ ML_law (10, 196, c0, s0) 3329 [some (.ref sa), some (.ref p), some (.ref m), some (.ref (m + 12)), some (.ref (m + 13)), some (.int (nI i0)), none, none, none, none] [] h' Q) : WP Γ ML_law (10, 196, c0 + 20, s0 + 4409) 405 [some (.ref sa), some (.ref p), some (.ref m), some (.ref (m + 12)), some (.ref (m + 13)), some (.int (nI i0)), none, none, none, none] [] h Q := by
  have hs0 := hs
  have c10 := c1
  have hP0 := hP
  have hM0 := hM
  obtain ⟨hsa, hsl, hN, hfree⟩ := hs
  obtain ⟨⟨fo, o1⟩, fd, o2⟩ := ho
  obtain ⟨hF, hT, hR3, hBat, hSna, ⟨pk, hL⟩, hX, hbD, hm, hz, hsn, hap⟩ := c1
  obtain ⟨hlen, hI, hIS⟩ := hP
  obtain ⟨⟨th, at', bg, e9, ea, cm, mC⟩, ⟨R, mR, hr⟩, ⟨R2, mR2⟩, ⟨R3, mR3⟩, ⟨RE, mE, hre⟩, ⟨RA, mRA⟩, ⟨mpk, mP⟩, ⟨B, mB, hB⟩, ⟨CM, mK⟩, CC, CE, SV, mCC, mCE, mSV, hsv, hsr⟩ := hM
  have hI0 : Inv np qu ra re le ln nb pl tm ne rw bk nh hw nc cw t y := hI
  have hr0 : RowR R np qu ra re le ln nb pl tm ne rw bk nh hw nc cw t y := hr
  have hL0 : LedP h b np qu ra re le ln nb pl tm ne rw bk nh hw nc cw t y pk := hL
  have hre0 : ∀ j, j < np → RE j = re j := hre
  obtain ⟨⟨s1, s2, s3, s4, s5, s6, s7, s8, tn, s9, s10⟩, IM, IP, IJ, IR, IC⟩ := hI0
  have hI0 : Inv np qu ra re le ln nb pl tm ne rw bk nh hw nc cw t y := hI
  have hF' := hF
  unfold FacC at hF'
  have ho : OutP h m := ⟨⟨fo, o1⟩, fd, o2⟩
  have TE : ∀ (X Y : Nat) (h2 : AH) (kk : Int32) (v9 : Int32), ¬ kk = 0 → Sim Γ h2 p m sa N S → (∃ tl at' bg e9 ea lr cm, ModC h2 m (m + 1) kk tl at' bg e9 ea lr cm) → WP Γ ML_law (10, 196, c0 + X, s0 + Y) 440 [some (.ref sa), some (.ref p), some (.ref m), some (.ref (m + 12)), some (.ref (m + 13)), some (.int (nI i0)), some (.int kk), none, none, none] [.int v9] h2 Q := by
    intro X Y h2 kk v9 hk hsim hm2
    obtain ⟨tl2, at2, bg2, e2, ea2, lr2, cm2, m2⟩ := hm2
    have m20 := m2
    unfold ModC at m2
    refine wp_istore (n := 442) dL_law_440 rfl rfl rfl rfl ?_
    refine wp_aload_n (n := 443) dL_law_442 rfl rfl ?_
    refine wp_callVs (n := 446) (rm' := (0, 0, 0, 0)) (c0 := c0) (s0 := s0) rfl dL_law_443 rfl mlL_156 [] rfl rfl m2 rfl rfl rfl (Nat.le_of_ble_eq_true rfl) rfl ?_
    refine s_X10_thrown m20 ?_
    show WP Γ _ _ _ _ _ _ _
    refine wp_iload (n := 448) dL_law_446 rfl rfl ?_
    refine wp_icmp_eq (t := 453) (n := 451) dL_law_448 (by decide) rfl (fun hc => ?_) (fun hc => ?_)
    · refine wp_iload (n := 455) dL_law_453 rfl rfl ?_
      refine wp_if_ne (t := 470) (n := 458) dL_law_455 (by decide) rfl (fun hq => ?_) (fun hq => ?_)
      · refine wp_goto (t := 3329) dL_law_470 (by decide) ?_
        refine wp_lo (lo' := [some (.ref sa), some (.ref p), some (.ref m), some (.ref (m + 12)), some (.ref (m + 13)), some (.int (nI i0)), none, none, none, none]) (fun k v hk => ?_) ?_
        · match k, hk with
          | 0, hk => exact hk
          | 1, hk => exact hk
          | 2, hk => exact hk
          | 3, hk => exact hk
          | 4, hk => exact hk
          | 5, hk => exact hk
          | 6, hk => exact absurd hk (by simp [ax_gl])
          | 7, hk => exact absurd hk (by simp [ax_gl])
          | 8, hk => exact absurd hk (by simp [ax_gl])
          | 9, hk => exact absurd hk (by simp [ax_gl])
          | k + 10, hk => exact absurd hk (by simp [ax_gl])
        exact wp_big (rm := (10, 196, c0, s0)) (Nat.le_refl _) (Nat.le_refl _) (Nat.le_add_right _ _) (Nat.le_add_right _ _) (k h2 hsim)
      · exact absurd hq hk
    · exact absurd rfl hc
  have TO : ∀ (X Y : Nat) (h2 : AH) (r : Int32) (fo2 : Nat → Int64), Sim Γ h2 p m sa N S → (∃ tl at' bg e9 ea lr cm, ModC h2 m (m + 1) 0 tl at' bg e9 ea lr cm) → h2.2 (m + 12) = some (.inl (.long, 1, .inr (.inl fo2))) → fo2 0 = r.toInt64 → WP Γ ML_law (10, 196, c0 + X, s0 + Y) 440 [some (.ref sa), some (.ref p), some (.ref m), some (.ref (m + 12)), some (.ref (m + 13)), some (.int (nI i0)), some (.int 0), none, none, none] [.int r] h2 Q := by
    intro X Y h2 r fo2 hsim hm2 ho2 hv2
    obtain ⟨tl2, at2, bg2, e2, ea2, lr2, cm2, m2⟩ := hm2
    have m20 := m2
    unfold ModC at m2
    have fin : ∀ l7 : Option Value, WP Γ ML_law (10, 196, c0 + (X - 0), s0 + (Y - 0)) 470 [some (.ref sa), some (.ref p), some (.ref m), some (.ref (m + 12)), some (.ref (m + 13)), some (.int (nI i0)), some (.int 0), l7, none, none] [] h2 Q := by
      intro l7
      refine wp_goto (t := 3329) dL_law_470 (by decide) ?_
      refine wp_lo (lo' := [some (.ref sa), some (.ref p), some (.ref m), some (.ref (m + 12)), some (.ref (m + 13)), some (.int (nI i0)), none, none, none, none]) (fun k v hk => ?_) ?_
      · match k, hk with
        | 0, hk => exact hk
        | 1, hk => exact hk
        | 2, hk => exact hk
        | 3, hk => exact hk
        | 4, hk => exact hk
        | 5, hk => exact hk
        | 6, hk => exact absurd hk (by simp [ax_gl])
        | 7, hk => exact absurd hk (by simp [ax_gl])
        | 8, hk => exact absurd hk (by simp [ax_gl])
        | 9, hk => exact absurd hk (by simp [ax_gl])
        | k + 10, hk => exact absurd hk (by simp [ax_gl])
      exact wp_big (rm := (10, 196, c0, s0)) (Nat.le_refl _) (Nat.le_refl _) (Nat.le_add_right _ _) (Nat.le_add_right _ _) (k h2 hsim)
    refine wp_istore (n := 442) dL_law_440 rfl rfl rfl rfl ?_
    refine wp_aload_n (n := 443) dL_law_442 rfl rfl ?_
    refine wp_callVs (n := 446) (rm' := (0, 0, 0, 0)) (c0 := c0) (s0 := s0) rfl dL_law_443 rfl mlL_156 [] rfl rfl m2 rfl rfl rfl (Nat.le_of_ble_eq_true rfl) rfl ?_
    refine s_X10_thrown m20 ?_
    show WP Γ _ _ _ _ _ _ _
    refine wp_iload (n := 448) dL_law_446 rfl rfl ?_
    refine wp_icmp_eq (t := 453) (n := 451) dL_law_448 (by decide) rfl (fun hc => ?_) (fun hc => ?_)
    · refine wp_iload (n := 455) dL_law_453 rfl rfl ?_
      refine wp_if_ne (t := 470) (n := 458) dL_law_455 (by decide) rfl (fun hq => ?_) (fun hq => ?_)
      · exact absurd rfl hq
      · refine wp_aload_n (n := 459) dL_law_458 rfl rfl ?_
        refine wp_iconst (n := 460) (v := 0) dL_law_459 rfl (by decide) ?_
        refine wp_lald (n := 461) 0 dL_law_460 rfl ho2 rfl (by omega) (by omega) ?_
        rw [hv2]
        refine wp_iload (n := 463) dL_law_461 rfl rfl ?_
        refine wp_i2l (n := 464) dL_law_463 rfl ?_
        refine wp_lcmp (n := 465) dL_law_464 rfl ?_
        rw [lg_self]
        refine wp_if_eq (t := 470) (n := 468) dL_law_465 (by decide) rfl (fun hu => ?_) (fun hu => ?_)
        · exact fin _
        · exact absurd rfl hu
    · exact absurd rfl hc
  have MC : ∀ (X Y : Nat) (h3 : AH) (kk : Int32), h3.2 m = h.2 m → h3.2 sa = h.2 sa → WP Γ MX10_nameByte (2, 43, 0, 0) 0 [some (.ref m), some (.int (S (i0 + 1))), some (.int (S (i0 + 2))), none] [] h3 (ax_K Γ ML_law (10, 196, c0 + (X - 0), s0 + (Y - 0)) 440 [some (.ref sa), some (.ref p), some (.ref m), some (.ref (m + 12)), some (.ref (m + 13)), some (.int (nI i0)), some (.int kk), none, none, none] [] Q) → WP Γ ML_law (10, 196, c0 + X, s0 + Y) 422 [some (.ref sa), some (.ref p), some (.ref m), some (.ref (m + 12)), some (.ref (m + 13)), some (.int (nI i0)), none, none, none, none] [.int kk] h3 Q := by
    intro X Y h3 kk e1 e2 kk3
    have mC3' := ModC.mv e1 mC
    unfold ModC at mC3'
    have hsa3 := e2.trans hsa
    refine wp_istore (n := 424) dL_law_422 rfl rfl rfl rfl ?_
    refine wp_aload_n (n := 425) dL_law_424 rfl rfl ?_
    refine wp_aload_n (n := 426) dL_law_425 rfl rfl ?_
    refine wp_iload (n := 428) dL_law_426 rfl rfl ?_
    refine wp_iconst (n := 429) (v := nI 1) dL_law_428 rfl (by decide) ?_
    refine wp_iadd (n := 430) dL_law_429 rfl ?_
    refine wp_iald (n := 431) (i0 + 1) dL_law_430 rfl (by repeat first | assumption | exact ax_set_self _ _ _ | exact ax_newA_self _ _ _ | refine (ax_set_ne _ _ (by omega)).trans ?_ | refine (ax_newA_ne _ _ _ (by omega)).trans ?_) (by simp only [nI_zero, nI_mul, nI_add]) (by omega) (by omega) ?_
    refine wp_aload_n (n := 432) dL_law_431 rfl rfl ?_
    refine wp_iload (n := 434) dL_law_432 rfl rfl ?_
    refine wp_iconst (n := 435) (v := nI 2) dL_law_434 rfl (by decide) ?_
    refine wp_iadd (n := 436) dL_law_435 rfl ?_
    refine wp_iald (n := 437) (i0 + 2) dL_law_436 rfl (by repeat first | assumption | exact ax_set_self _ _ _ | exact ax_newA_self _ _ _ | refine (ax_set_ne _ _ (by omega)).trans ?_ | refine (ax_newA_ne _ _ _ (by omega)).trans ?_) (by simp only [nI_zero, nI_mul, nI_add]) (by omega) (by omega) ?_
    refine wp_callVs (n := 440) (rm' := (2, 43, 0, 0)) (c0 := c0) (s0 := s0) rfl dL_law_437 rfl mlL_183 [.int (S (i0 + 1)), .int (S (i0 + 2))] rfl rfl mC3' rfl rfl rfl (Nat.le_of_ble_eq_true rfl) rfl ?_
    exact kk3
  refine wp_aload_n (n := 406) dL_law_405 rfl rfl ?_
  refine wp_aload_n (n := 407) dL_law_406 rfl rfl ?_
  refine wp_iload (n := 409) dL_law_407 rfl rfl ?_
  refine wp_iconst (n := 410) (v := nI 1) dL_law_409 rfl (by decide) ?_
  refine wp_iadd (n := 411) dL_law_410 rfl ?_
  refine wp_iald (n := 412) (i0 + 1) dL_law_411 rfl (by repeat first | assumption | exact ax_set_self _ _ _ | exact ax_newA_self _ _ _ | refine (ax_set_ne _ _ (by omega)).trans ?_ | refine (ax_newA_ne _ _ _ (by omega)).trans ?_) (by simp only [nI_zero, nI_mul, nI_add]) (by omega) (by omega) ?_
  refine wp_aload_n (n := 413) dL_law_412 rfl rfl ?_
  refine wp_iload (n := 415) dL_law_413 rfl rfl ?_
  refine wp_iconst (n := 416) (v := nI 2) dL_law_415 rfl (by decide) ?_
  refine wp_iadd (n := 417) dL_law_416 rfl ?_
  refine wp_iald (n := 418) (i0 + 2) dL_law_417 rfl (by repeat first | assumption | exact ax_set_self _ _ _ | exact ax_newA_self _ _ _ | refine (ax_set_ne _ _ (by omega)).trans ?_ | refine (ax_newA_ne _ _ _ (by omega)).trans ?_) (by simp only [nI_zero, nI_mul, nI_add]) (by omega) (by omega) ?_
  refine wp_aload_n (n := 419) dL_law_418 rfl rfl ?_
  refine wp_callSH (n := 422) (rm' := (8, 138, 1, 6)) (c0 := c0) (s0 := s0) (C := 20) (S := 4409) rfl dL_law_419 rfl mwL_180 [.ref p, .int (S (i0 + 1)), .int (S (i0 + 2)), .ref (m + 12)] rfl rfl rfl rfl (Nat.le_of_ble_eq_true rfl) rfl ?_
  refine s_L_nameByte hF' (by omega) ?_
  refine s_X9_nameByte hF hL0 (by omega) (fun j hj => by obtain ⟨_, _, _, u, _, a, b, _⟩ := IP j hj; exact ⟨u, b, a⟩) (fun c1 n1 hn1 => ?_) (fun j u hj ej eu hu => ?_)
  · refine Or.inr (Or.inl ⟨rfl, rfl, ?_⟩)
    show WP Γ _ _ _ _ _ _ _
    have B : Bet p m h h _ := Bet.n (p := p) ho hn1
    refine MC _ _ _ _ (B.1 _ (by omega)) (B.1 _ (by omega)) ?_
    refine s_X10_nameByte (ModC.mv (B.1 _ (by omega)) mC) ((B.1 _ (by omega)).trans mR) hr0 hI0 (by omega) (by omega) (fun d1 h2 fr2 m2 => ?_) (fun i hi ei h2 fr2 m2 => ?_)
    · show WP Γ _ _ _ _ _ _ _
      exact TE _ _ h2 _ _ (by decide) (fin_q hA hs0 hM0 hP0 c10 hm B fr2 ⟨_, _, _, _, _, _, m2⟩) ⟨_, _, _, _, _, _, _, m2⟩
    · have d1 : inN (S (i0 + 1)) np = true := by rw [ei]; exact inN_of hi (by omega)
      exact absurd (c1.symm.trans d1) (by decide)
  · refine ⟨fo, o1, fun fo1 hv => ?_⟩
    show WP Γ _ _ _ _ _ _ _
    have B : Bet p m h h _ := Bet.o fo1 ho hm (fun _ _ => rfl)
    have c1 : inN (S (i0 + 1)) np = true := by rw [ej]; exact inN_of hj (by omega)
    refine MC _ _ _ _ (B.1 _ (by omega)) (B.1 _ (by omega)) ?_
    refine s_X10_nameByte (ModC.mv (B.1 _ (by omega)) mC) ((B.1 _ (by omega)).trans mR) hr0 hI0 (by omega) (by omega) (fun d1 h2 fr2 m2 => ?_) (fun i hi ei h2 fr2 m2 => ?_)
    · exact absurd (c1.symm.trans d1) (by decide)
    · have d1 : inN (S (i0 + 1)) np = true := by rw [ei]; exact inN_of hi (by omega)
      show WP Γ _ _ _ _ _ _ _
      obtain rfl : j = i := (nI_eq9 (by omega) (by omega)).mp (ej.symm.trans ei)
      rw [← eu] at hv
      exact TO _ _ h2 _ fo1 (fin_q hA hs0 hM0 hP0 c10 hm B fr2 ⟨_, _, _, _, _, _, m2⟩) ⟨_, _, _, _, _, _, _, m2⟩ ((fr2.2 _ (by omega)).trans (ax_set_self _ _ _)) hv
theorem cs_bestSwap (hA : Γ.2.1 ≤ p) (hs : ScrP Γ h sa N S) (ho : OutP h m) (c1 : ClsP h p m b D er bs len f (mkK np qu ra re le ln nb pl tm ne rw bk nh hw nc cw t y) KS) (hP : PurP len f (mkK np qu ra re le ln nb pl tm ne rw bk nh hw nc cw t y) KS) (hM : ModP h m er bs len f (mkK np qu ra re le ln nb pl tm ne rw bk nh hw nc cw t y) KS) (hi : i0 + 5 ≤ N) (k : ∀ h', Sim Γ h' p m sa N S → WP Γ ML_law (10, 196, c0, s0) 3329 [some (.ref sa), some (.ref p), some (.ref m), some (.ref (m + 12)), some (.ref (m + 13)), some (.int (nI i0)), none, none, none, none] [] h' Q) : WP Γ ML_law (10, 196, c0 + 20, s0 + 4409) 1940 [some (.ref sa), some (.ref p), some (.ref m), some (.ref (m + 12)), some (.ref (m + 13)), some (.int (nI i0)), none, none, none, none] [] h Q := by
  have hs0 := hs
  have c10 := c1
  have hP0 := hP
  have hM0 := hM
  obtain ⟨hsa, hsl, hN, hfree⟩ := hs
  obtain ⟨⟨fo, o1⟩, fd, o2⟩ := ho
  obtain ⟨hF, hT, hR3, hBat, hSna, ⟨pk, hL⟩, hX, hbD, hm, hz, hsn, hap⟩ := c1
  obtain ⟨hlen, hI, hIS⟩ := hP
  obtain ⟨⟨th, at', bg, e9, ea, cm, mC⟩, ⟨R, mR, hr⟩, ⟨R2, mR2⟩, ⟨R3, mR3⟩, ⟨RE, mE, hre⟩, ⟨RA, mRA⟩, ⟨mpk, mP⟩, ⟨B, mB, hB⟩, ⟨CM, mK⟩, CC, CE, SV, mCC, mCE, mSV, hsv, hsr⟩ := hM
  have hI0 : Inv np qu ra re le ln nb pl tm ne rw bk nh hw nc cw t y := hI
  have hr0 : RowR R np qu ra re le ln nb pl tm ne rw bk nh hw nc cw t y := hr
  have hL0 : LedP h b np qu ra re le ln nb pl tm ne rw bk nh hw nc cw t y pk := hL
  have hre0 : ∀ j, j < np → RE j = re j := hre
  obtain ⟨⟨s1, s2, s3, s4, s5, s6, s7, s8, tn, s9, s10⟩, IM, IP, IJ, IR, IC⟩ := hI0
  have hI0 : Inv np qu ra re le ln nb pl tm ne rw bk nh hw nc cw t y := hI
  have hF' := hF
  unfold FacC at hF'
  have ho : OutP h m := ⟨⟨fo, o1⟩, fd, o2⟩
  have TE : ∀ (X Y : Nat) (h2 : AH) (kk : Int32) (v9 : Int32), ¬ kk = 0 → Sim Γ h2 p m sa N S → (∃ tl at' bg e9 ea lr cm, ModC h2 m (m + 1) kk tl at' bg e9 ea lr cm) → WP Γ ML_law (10, 196, c0 + X, s0 + Y) 1963 [some (.ref sa), some (.ref p), some (.ref m), some (.ref (m + 12)), some (.ref (m + 13)), some (.int (nI i0)), some (.int kk), none, none, none] [.int v9] h2 Q := by
    intro X Y h2 kk v9 hk hsim hm2
    obtain ⟨tl2, at2, bg2, e2, ea2, lr2, cm2, m2⟩ := hm2
    have m20 := m2
    unfold ModC at m2
    refine wp_istore (n := 1965) dL_law_1963 rfl rfl rfl rfl ?_
    refine wp_aload_n (n := 1966) dL_law_1965 rfl rfl ?_
    refine wp_callVs (n := 1969) (rm' := (0, 0, 0, 0)) (c0 := c0) (s0 := s0) rfl dL_law_1966 rfl mlL_156 [] rfl rfl m2 rfl rfl rfl (Nat.le_of_ble_eq_true rfl) rfl ?_
    refine s_X10_thrown m20 ?_
    show WP Γ _ _ _ _ _ _ _
    refine wp_iload (n := 1971) dL_law_1969 rfl rfl ?_
    refine wp_icmp_eq (t := 1976) (n := 1974) dL_law_1971 (by decide) rfl (fun hc => ?_) (fun hc => ?_)
    · refine wp_iload (n := 1978) dL_law_1976 rfl rfl ?_
      refine wp_if_ne (t := 1993) (n := 1981) dL_law_1978 (by decide) rfl (fun hq => ?_) (fun hq => ?_)
      · refine wp_goto (t := 3329) dL_law_1993 (by decide) ?_
        refine wp_lo (lo' := [some (.ref sa), some (.ref p), some (.ref m), some (.ref (m + 12)), some (.ref (m + 13)), some (.int (nI i0)), none, none, none, none]) (fun k v hk => ?_) ?_
        · match k, hk with
          | 0, hk => exact hk
          | 1, hk => exact hk
          | 2, hk => exact hk
          | 3, hk => exact hk
          | 4, hk => exact hk
          | 5, hk => exact hk
          | 6, hk => exact absurd hk (by simp [ax_gl])
          | 7, hk => exact absurd hk (by simp [ax_gl])
          | 8, hk => exact absurd hk (by simp [ax_gl])
          | 9, hk => exact absurd hk (by simp [ax_gl])
          | k + 10, hk => exact absurd hk (by simp [ax_gl])
        exact wp_big (rm := (10, 196, c0, s0)) (Nat.le_refl _) (Nat.le_refl _) (Nat.le_add_right _ _) (Nat.le_add_right _ _) (k h2 hsim)
      · exact absurd hq hk
    · exact absurd rfl hc
  have TO : ∀ (X Y : Nat) (h2 : AH) (r : Int32) (fo2 : Nat → Int64), Sim Γ h2 p m sa N S → (∃ tl at' bg e9 ea lr cm, ModC h2 m (m + 1) 0 tl at' bg e9 ea lr cm) → h2.2 (m + 12) = some (.inl (.long, 1, .inr (.inl fo2))) → fo2 0 = r.toInt64 → WP Γ ML_law (10, 196, c0 + X, s0 + Y) 1963 [some (.ref sa), some (.ref p), some (.ref m), some (.ref (m + 12)), some (.ref (m + 13)), some (.int (nI i0)), some (.int 0), none, none, none] [.int r] h2 Q := by
    intro X Y h2 r fo2 hsim hm2 ho2 hv2
    obtain ⟨tl2, at2, bg2, e2, ea2, lr2, cm2, m2⟩ := hm2
    have m20 := m2
    unfold ModC at m2
    have fin : ∀ l7 : Option Value, WP Γ ML_law (10, 196, c0 + (X - 0), s0 + (Y - 0)) 1993 [some (.ref sa), some (.ref p), some (.ref m), some (.ref (m + 12)), some (.ref (m + 13)), some (.int (nI i0)), some (.int 0), l7, none, none] [] h2 Q := by
      intro l7
      refine wp_goto (t := 3329) dL_law_1993 (by decide) ?_
      refine wp_lo (lo' := [some (.ref sa), some (.ref p), some (.ref m), some (.ref (m + 12)), some (.ref (m + 13)), some (.int (nI i0)), none, none, none, none]) (fun k v hk => ?_) ?_
      · match k, hk with
        | 0, hk => exact hk
        | 1, hk => exact hk
        | 2, hk => exact hk
        | 3, hk => exact hk
        | 4, hk => exact hk
        | 5, hk => exact hk
        | 6, hk => exact absurd hk (by simp [ax_gl])
        | 7, hk => exact absurd hk (by simp [ax_gl])
        | 8, hk => exact absurd hk (by simp [ax_gl])
        | 9, hk => exact absurd hk (by simp [ax_gl])
        | k + 10, hk => exact absurd hk (by simp [ax_gl])
      exact wp_big (rm := (10, 196, c0, s0)) (Nat.le_refl _) (Nat.le_refl _) (Nat.le_add_right _ _) (Nat.le_add_right _ _) (k h2 hsim)
    refine wp_istore (n := 1965) dL_law_1963 rfl rfl rfl rfl ?_
    refine wp_aload_n (n := 1966) dL_law_1965 rfl rfl ?_
    refine wp_callVs (n := 1969) (rm' := (0, 0, 0, 0)) (c0 := c0) (s0 := s0) rfl dL_law_1966 rfl mlL_156 [] rfl rfl m2 rfl rfl rfl (Nat.le_of_ble_eq_true rfl) rfl ?_
    refine s_X10_thrown m20 ?_
    show WP Γ _ _ _ _ _ _ _
    refine wp_iload (n := 1971) dL_law_1969 rfl rfl ?_
    refine wp_icmp_eq (t := 1976) (n := 1974) dL_law_1971 (by decide) rfl (fun hc => ?_) (fun hc => ?_)
    · refine wp_iload (n := 1978) dL_law_1976 rfl rfl ?_
      refine wp_if_ne (t := 1993) (n := 1981) dL_law_1978 (by decide) rfl (fun hq => ?_) (fun hq => ?_)
      · exact absurd rfl hq
      · refine wp_aload_n (n := 1982) dL_law_1981 rfl rfl ?_
        refine wp_iconst (n := 1983) (v := 0) dL_law_1982 rfl (by decide) ?_
        refine wp_lald (n := 1984) 0 dL_law_1983 rfl ho2 rfl (by omega) (by omega) ?_
        rw [hv2]
        refine wp_iload (n := 1986) dL_law_1984 rfl rfl ?_
        refine wp_i2l (n := 1987) dL_law_1986 rfl ?_
        refine wp_lcmp (n := 1988) dL_law_1987 rfl ?_
        rw [lg_self]
        refine wp_if_eq (t := 1993) (n := 1991) dL_law_1988 (by decide) rfl (fun hu => ?_) (fun hu => ?_)
        · exact fin _
        · exact absurd rfl hu
    · exact absurd rfl hc
  have MC : ∀ (X Y : Nat) (h3 : AH) (kk : Int32), h3.2 m = h.2 m → h3.2 sa = h.2 sa → WP Γ MX10_bestSwap (2, 84, 0, 0) 0 [some (.ref m), some (.int (S (i0 + 1))), none, none, none, none, none] [] h3 (ax_K Γ ML_law (10, 196, c0 + (X - 0), s0 + (Y - 0)) 1963 [some (.ref sa), some (.ref p), some (.ref m), some (.ref (m + 12)), some (.ref (m + 13)), some (.int (nI i0)), some (.int kk), none, none, none] [] Q) → WP Γ ML_law (10, 196, c0 + X, s0 + Y) 1951 [some (.ref sa), some (.ref p), some (.ref m), some (.ref (m + 12)), some (.ref (m + 13)), some (.int (nI i0)), none, none, none, none] [.int kk] h3 Q := by
    intro X Y h3 kk e1 e2 kk3
    have mC3' := ModC.mv e1 mC
    unfold ModC at mC3'
    have hsa3 := e2.trans hsa
    refine wp_istore (n := 1953) dL_law_1951 rfl rfl rfl rfl ?_
    refine wp_aload_n (n := 1954) dL_law_1953 rfl rfl ?_
    refine wp_aload_n (n := 1955) dL_law_1954 rfl rfl ?_
    refine wp_iload (n := 1957) dL_law_1955 rfl rfl ?_
    refine wp_iconst (n := 1958) (v := nI 1) dL_law_1957 rfl (by decide) ?_
    refine wp_iadd (n := 1959) dL_law_1958 rfl ?_
    refine wp_iald (n := 1960) (i0 + 1) dL_law_1959 rfl (by repeat first | assumption | exact ax_set_self _ _ _ | exact ax_newA_self _ _ _ | refine (ax_set_ne _ _ (by omega)).trans ?_ | refine (ax_newA_ne _ _ _ (by omega)).trans ?_) (by simp only [nI_zero, nI_mul, nI_add]) (by omega) (by omega) ?_
    refine wp_callVs (n := 1963) (rm' := (2, 84, 0, 0)) (c0 := c0) (s0 := s0) rfl dL_law_1960 rfl mlL_263 [.int (S (i0 + 1))] rfl rfl mC3' rfl rfl rfl (Nat.le_of_ble_eq_true rfl) rfl ?_
    exact kk3
  refine wp_aload_n (n := 1941) dL_law_1940 rfl rfl ?_
  refine wp_aload_n (n := 1942) dL_law_1941 rfl rfl ?_
  refine wp_iload (n := 1944) dL_law_1942 rfl rfl ?_
  refine wp_iconst (n := 1945) (v := nI 1) dL_law_1944 rfl (by decide) ?_
  refine wp_iadd (n := 1946) dL_law_1945 rfl ?_
  refine wp_iald (n := 1947) (i0 + 1) dL_law_1946 rfl (by repeat first | assumption | exact ax_set_self _ _ _ | exact ax_newA_self _ _ _ | refine (ax_set_ne _ _ (by omega)).trans ?_ | refine (ax_newA_ne _ _ _ (by omega)).trans ?_) (by simp only [nI_zero, nI_mul, nI_add]) (by omega) (by omega) ?_
  refine wp_aload_n (n := 1948) dL_law_1947 rfl rfl ?_
  refine wp_callSH (n := 1951) (rm' := (8, 137, 1, 6)) (c0 := c0) (s0 := s0) (C := 20) (S := 4409) rfl dL_law_1948 rfl mwL_261 [.ref p, .int (S (i0 + 1)), .ref (m + 12)] rfl rfl rfl rfl (Nat.le_of_ble_eq_true rfl) rfl ?_
  refine s_L_bestSwap hF' (by omega) ?_
  refine s_X9_bestSwap hF hL0 (by omega) (by omega) (fun c1 n1 hn1 => ?_) (fun j hj ej => ?_)
  · refine Or.inr (Or.inl ⟨rfl, rfl, ?_⟩)
    show WP Γ _ _ _ _ _ _ _
    have B : Bet p m h h _ := Bet.n (p := p) ho hn1
    refine MC _ _ _ _ (B.1 _ (by omega)) (B.1 _ (by omega)) ?_
    refine s_X10_bestSwap (ModC.mv (B.1 _ (by omega)) mC) ((B.1 _ (by omega)).trans mR) hr0 hI0 (by omega) (by omega) (by omega) (fun d1 h2 fr2 m2 => ?_) (fun i hi ei h2 R9 fz fr2 m2 r9 e9' => ?_)
    · show WP Γ _ _ _ _ _ _ _
      exact TE _ _ h2 _ _ (by decide) (fin_q hA hs0 hM0 hP0 c10 hm B fr2 ⟨_, _, _, _, _, _, m2⟩) ⟨_, _, _, _, _, _, _, m2⟩
    · have d1 : inN (S (i0 + 1)) np = true := by rw [ei]; exact inN_of hi (by omega)
      exact absurd (c1.symm.trans d1) (by decide)
  · refine ⟨fo, o1, fun fo1 hv => ?_⟩
    show WP Γ _ _ _ _ _ _ _
    have B : Bet p m h h _ := Bet.o fo1 ho hm (fun _ _ => rfl)
    have c1 : inN (S (i0 + 1)) np = true := by rw [ej]; exact inN_of hj (by omega)
    refine MC _ _ _ _ (B.1 _ (by omega)) (B.1 _ (by omega)) ?_
    refine s_X10_bestSwap (ModC.mv (B.1 _ (by omega)) mC) ((B.1 _ (by omega)).trans mR) hr0 hI0 (by omega) (by omega) (by omega) (fun d1 h2 fr2 m2 => ?_) (fun i hi ei h2 R9 fz fr2 m2 r9 e9' => ?_)
    · exact absurd (c1.symm.trans d1) (by decide)
    · have d1 : inN (S (i0 + 1)) np = true := by rw [ei]; exact inN_of hi (by omega)
      show WP Γ _ _ _ _ _ _ _
      obtain rfl : j = i := (nI_eq9 (by omega) (by omega)).mp (ej.symm.trans ei)
      exact TO _ _ h2 _ fo1 (fin_s hA hs0 hM0 hP0 c10 hm B fz (fun c a b _ _ => fr2 c a b) ⟨_, _, _, _, _, _, m2⟩ ⟨R9, r9, by rw [show R9 = R from funext e9']; exact hr⟩ ⟨RE, (fr2 _ (by omega) (by omega)).trans ((B.1 _ (by omega)).trans mE), hre⟩ ⟨mpk, (fr2 _ (by omega) (by omega)).trans ((B.1 _ (by omega)).trans mP)⟩) ⟨_, _, _, _, _, _, _, m2⟩ ((fr2 _ (by omega) (by omega)).trans (ax_set_self _ _ _)) hv
theorem cs_entryBlock (hA : Γ.2.1 ≤ p) (hs : ScrP Γ h sa N S) (ho : OutP h m) (c1 : ClsP h p m b D er bs len f (mkK np qu ra re le ln nb pl tm ne rw bk nh hw nc cw t y) KS) (hP : PurP len f (mkK np qu ra re le ln nb pl tm ne rw bk nh hw nc cw t y) KS) (hM : ModP h m er bs len f (mkK np qu ra re le ln nb pl tm ne rw bk nh hw nc cw t y) KS) (hi : i0 + 5 ≤ N) (k : ∀ h', Sim Γ h' p m sa N S → WP Γ ML_law (10, 196, c0, s0) 3329 [some (.ref sa), some (.ref p), some (.ref m), some (.ref (m + 12)), some (.ref (m + 13)), some (.int (nI i0)), none, none, none, none] [] h' Q) : WP Γ ML_law (10, 196, c0 + 20, s0 + 4409) 2077 [some (.ref sa), some (.ref p), some (.ref m), some (.ref (m + 12)), some (.ref (m + 13)), some (.int (nI i0)), none, none, none, none] [] h Q := by
  have hs0 := hs
  have c10 := c1
  have hP0 := hP
  have hM0 := hM
  obtain ⟨hsa, hsl, hN, hfree⟩ := hs
  obtain ⟨⟨fo, o1⟩, fd, o2⟩ := ho
  obtain ⟨hF, hT, hR3, hBat, hSna, ⟨pk, hL⟩, hX, hbD, hm, hz, hsn, hap⟩ := c1
  obtain ⟨hlen, hI, hIS⟩ := hP
  obtain ⟨⟨th, at', bg, e9, ea, cm, mC⟩, ⟨R, mR, hr⟩, ⟨R2, mR2⟩, ⟨R3, mR3⟩, ⟨RE, mE, hre⟩, ⟨RA, mRA⟩, ⟨mpk, mP⟩, ⟨B, mB, hB⟩, ⟨CM, mK⟩, CC, CE, SV, mCC, mCE, mSV, hsv, hsr⟩ := hM
  have hI0 : Inv np qu ra re le ln nb pl tm ne rw bk nh hw nc cw t y := hI
  have hr0 : RowR R np qu ra re le ln nb pl tm ne rw bk nh hw nc cw t y := hr
  have hL0 : LedP h b np qu ra re le ln nb pl tm ne rw bk nh hw nc cw t y pk := hL
  have hre0 : ∀ j, j < np → RE j = re j := hre
  obtain ⟨⟨s1, s2, s3, s4, s5, s6, s7, s8, tn, s9, s10⟩, IM, IP, IJ, IR, IC⟩ := hI0
  have hI0 : Inv np qu ra re le ln nb pl tm ne rw bk nh hw nc cw t y := hI
  have hF' := hF
  unfold FacC at hF'
  have ho : OutP h m := ⟨⟨fo, o1⟩, fd, o2⟩
  have TE : ∀ (X Y : Nat) (h2 : AH) (kk : Int32) (v9 : Int32), ¬ kk = 0 → Sim Γ h2 p m sa N S → (∃ tl at' bg e9 ea lr cm, ModC h2 m (m + 1) kk tl at' bg e9 ea lr cm) → WP Γ ML_law (10, 196, c0 + X, s0 + Y) 2112 [some (.ref sa), some (.ref p), some (.ref m), some (.ref (m + 12)), some (.ref (m + 13)), some (.int (nI i0)), some (.int kk), none, none, none] [.int v9] h2 Q := by
    intro X Y h2 kk v9 hk hsim hm2
    obtain ⟨tl2, at2, bg2, e2, ea2, lr2, cm2, m2⟩ := hm2
    have m20 := m2
    unfold ModC at m2
    refine wp_istore (n := 2114) dL_law_2112 rfl rfl rfl rfl ?_
    refine wp_aload_n (n := 2115) dL_law_2114 rfl rfl ?_
    refine wp_callVs (n := 2118) (rm' := (0, 0, 0, 0)) (c0 := c0) (s0 := s0) rfl dL_law_2115 rfl mlL_156 [] rfl rfl m2 rfl rfl rfl (Nat.le_of_ble_eq_true rfl) rfl ?_
    refine s_X10_thrown m20 ?_
    show WP Γ _ _ _ _ _ _ _
    refine wp_iload (n := 2120) dL_law_2118 rfl rfl ?_
    refine wp_icmp_eq (t := 2125) (n := 2123) dL_law_2120 (by decide) rfl (fun hc => ?_) (fun hc => ?_)
    · refine wp_iload (n := 2127) dL_law_2125 rfl rfl ?_
      refine wp_if_ne (t := 2142) (n := 2130) dL_law_2127 (by decide) rfl (fun hq => ?_) (fun hq => ?_)
      · refine wp_goto (t := 3329) dL_law_2142 (by decide) ?_
        refine wp_lo (lo' := [some (.ref sa), some (.ref p), some (.ref m), some (.ref (m + 12)), some (.ref (m + 13)), some (.int (nI i0)), none, none, none, none]) (fun k v hk => ?_) ?_
        · match k, hk with
          | 0, hk => exact hk
          | 1, hk => exact hk
          | 2, hk => exact hk
          | 3, hk => exact hk
          | 4, hk => exact hk
          | 5, hk => exact hk
          | 6, hk => exact absurd hk (by simp [ax_gl])
          | 7, hk => exact absurd hk (by simp [ax_gl])
          | 8, hk => exact absurd hk (by simp [ax_gl])
          | 9, hk => exact absurd hk (by simp [ax_gl])
          | k + 10, hk => exact absurd hk (by simp [ax_gl])
        exact wp_big (rm := (10, 196, c0, s0)) (Nat.le_refl _) (Nat.le_refl _) (Nat.le_add_right _ _) (Nat.le_add_right _ _) (k h2 hsim)
      · exact absurd hq hk
    · exact absurd rfl hc
  have TO : ∀ (X Y : Nat) (h2 : AH) (r : Int32) (fo2 : Nat → Int64), Sim Γ h2 p m sa N S → (∃ tl at' bg e9 ea lr cm, ModC h2 m (m + 1) 0 tl at' bg e9 ea lr cm) → h2.2 (m + 12) = some (.inl (.long, 1, .inr (.inl fo2))) → fo2 0 = r.toInt64 → WP Γ ML_law (10, 196, c0 + X, s0 + Y) 2112 [some (.ref sa), some (.ref p), some (.ref m), some (.ref (m + 12)), some (.ref (m + 13)), some (.int (nI i0)), some (.int 0), none, none, none] [.int r] h2 Q := by
    intro X Y h2 r fo2 hsim hm2 ho2 hv2
    obtain ⟨tl2, at2, bg2, e2, ea2, lr2, cm2, m2⟩ := hm2
    have m20 := m2
    unfold ModC at m2
    have fin : ∀ l7 : Option Value, WP Γ ML_law (10, 196, c0 + (X - 0), s0 + (Y - 0)) 2142 [some (.ref sa), some (.ref p), some (.ref m), some (.ref (m + 12)), some (.ref (m + 13)), some (.int (nI i0)), some (.int 0), l7, none, none] [] h2 Q := by
      intro l7
      refine wp_goto (t := 3329) dL_law_2142 (by decide) ?_
      refine wp_lo (lo' := [some (.ref sa), some (.ref p), some (.ref m), some (.ref (m + 12)), some (.ref (m + 13)), some (.int (nI i0)), none, none, none, none]) (fun k v hk => ?_) ?_
      · match k, hk with
        | 0, hk => exact hk
        | 1, hk => exact hk
        | 2, hk => exact hk
        | 3, hk => exact hk
        | 4, hk => exact hk
        | 5, hk => exact hk
        | 6, hk => exact absurd hk (by simp [ax_gl])
        | 7, hk => exact absurd hk (by simp [ax_gl])
        | 8, hk => exact absurd hk (by simp [ax_gl])
        | 9, hk => exact absurd hk (by simp [ax_gl])
        | k + 10, hk => exact absurd hk (by simp [ax_gl])
      exact wp_big (rm := (10, 196, c0, s0)) (Nat.le_refl _) (Nat.le_refl _) (Nat.le_add_right _ _) (Nat.le_add_right _ _) (k h2 hsim)
    refine wp_istore (n := 2114) dL_law_2112 rfl rfl rfl rfl ?_
    refine wp_aload_n (n := 2115) dL_law_2114 rfl rfl ?_
    refine wp_callVs (n := 2118) (rm' := (0, 0, 0, 0)) (c0 := c0) (s0 := s0) rfl dL_law_2115 rfl mlL_156 [] rfl rfl m2 rfl rfl rfl (Nat.le_of_ble_eq_true rfl) rfl ?_
    refine s_X10_thrown m20 ?_
    show WP Γ _ _ _ _ _ _ _
    refine wp_iload (n := 2120) dL_law_2118 rfl rfl ?_
    refine wp_icmp_eq (t := 2125) (n := 2123) dL_law_2120 (by decide) rfl (fun hc => ?_) (fun hc => ?_)
    · refine wp_iload (n := 2127) dL_law_2125 rfl rfl ?_
      refine wp_if_ne (t := 2142) (n := 2130) dL_law_2127 (by decide) rfl (fun hq => ?_) (fun hq => ?_)
      · exact absurd rfl hq
      · refine wp_aload_n (n := 2131) dL_law_2130 rfl rfl ?_
        refine wp_iconst (n := 2132) (v := 0) dL_law_2131 rfl (by decide) ?_
        refine wp_lald (n := 2133) 0 dL_law_2132 rfl ho2 rfl (by omega) (by omega) ?_
        rw [hv2]
        refine wp_iload (n := 2135) dL_law_2133 rfl rfl ?_
        refine wp_i2l (n := 2136) dL_law_2135 rfl ?_
        refine wp_lcmp (n := 2137) dL_law_2136 rfl ?_
        rw [lg_self]
        refine wp_if_eq (t := 2142) (n := 2140) dL_law_2137 (by decide) rfl (fun hu => ?_) (fun hu => ?_)
        · exact fin _
        · exact absurd rfl hu
    · exact absurd rfl hc
  have MC : ∀ (X Y : Nat) (h3 : AH) (kk : Int32), h3.2 m = h.2 m → h3.2 sa = h.2 sa → WP Γ MX10_entryBlock (2, 44, 0, 0) 0 [some (.ref m), some (.int (S (i0 + 1))), some (.int (S (i0 + 2))), none, none] [] h3 (ax_K Γ ML_law (10, 196, c0 + (X - 0), s0 + (Y - 0)) 2112 [some (.ref sa), some (.ref p), some (.ref m), some (.ref (m + 12)), some (.ref (m + 13)), some (.int (nI i0)), some (.int kk), none, none, none] [] Q) → WP Γ ML_law (10, 196, c0 + X, s0 + Y) 2094 [some (.ref sa), some (.ref p), some (.ref m), some (.ref (m + 12)), some (.ref (m + 13)), some (.int (nI i0)), none, none, none, none] [.int kk] h3 Q := by
    intro X Y h3 kk e1 e2 kk3
    have mC3' := ModC.mv e1 mC
    unfold ModC at mC3'
    have hsa3 := e2.trans hsa
    refine wp_istore (n := 2096) dL_law_2094 rfl rfl rfl rfl ?_
    refine wp_aload_n (n := 2097) dL_law_2096 rfl rfl ?_
    refine wp_aload_n (n := 2098) dL_law_2097 rfl rfl ?_
    refine wp_iload (n := 2100) dL_law_2098 rfl rfl ?_
    refine wp_iconst (n := 2101) (v := nI 1) dL_law_2100 rfl (by decide) ?_
    refine wp_iadd (n := 2102) dL_law_2101 rfl ?_
    refine wp_iald (n := 2103) (i0 + 1) dL_law_2102 rfl (by repeat first | assumption | exact ax_set_self _ _ _ | exact ax_newA_self _ _ _ | refine (ax_set_ne _ _ (by omega)).trans ?_ | refine (ax_newA_ne _ _ _ (by omega)).trans ?_) (by simp only [nI_zero, nI_mul, nI_add]) (by omega) (by omega) ?_
    refine wp_aload_n (n := 2104) dL_law_2103 rfl rfl ?_
    refine wp_iload (n := 2106) dL_law_2104 rfl rfl ?_
    refine wp_iconst (n := 2107) (v := nI 2) dL_law_2106 rfl (by decide) ?_
    refine wp_iadd (n := 2108) dL_law_2107 rfl ?_
    refine wp_iald (n := 2109) (i0 + 2) dL_law_2108 rfl (by repeat first | assumption | exact ax_set_self _ _ _ | exact ax_newA_self _ _ _ | refine (ax_set_ne _ _ (by omega)).trans ?_ | refine (ax_newA_ne _ _ _ (by omega)).trans ?_) (by simp only [nI_zero, nI_mul, nI_add]) (by omega) (by omega) ?_
    refine wp_callVs (n := 2112) (rm' := (2, 44, 0, 0)) (c0 := c0) (s0 := s0) rfl dL_law_2109 rfl mlL_273 [.int (S (i0 + 1)), .int (S (i0 + 2))] rfl rfl mC3' rfl rfl rfl (Nat.le_of_ble_eq_true rfl) rfl ?_
    exact kk3
  refine wp_aload_n (n := 2078) dL_law_2077 rfl rfl ?_
  refine wp_aload_n (n := 2079) dL_law_2078 rfl rfl ?_
  refine wp_iload (n := 2081) dL_law_2079 rfl rfl ?_
  refine wp_iconst (n := 2082) (v := nI 1) dL_law_2081 rfl (by decide) ?_
  refine wp_iadd (n := 2083) dL_law_2082 rfl ?_
  refine wp_iald (n := 2084) (i0 + 1) dL_law_2083 rfl (by repeat first | assumption | exact ax_set_self _ _ _ | exact ax_newA_self _ _ _ | refine (ax_set_ne _ _ (by omega)).trans ?_ | refine (ax_newA_ne _ _ _ (by omega)).trans ?_) (by simp only [nI_zero, nI_mul, nI_add]) (by omega) (by omega) ?_
  refine wp_aload_n (n := 2085) dL_law_2084 rfl rfl ?_
  refine wp_iload (n := 2087) dL_law_2085 rfl rfl ?_
  refine wp_iconst (n := 2088) (v := nI 2) dL_law_2087 rfl (by decide) ?_
  refine wp_iadd (n := 2089) dL_law_2088 rfl ?_
  refine wp_iald (n := 2090) (i0 + 2) dL_law_2089 rfl (by repeat first | assumption | exact ax_set_self _ _ _ | exact ax_newA_self _ _ _ | refine (ax_set_ne _ _ (by omega)).trans ?_ | refine (ax_newA_ne _ _ _ (by omega)).trans ?_) (by simp only [nI_zero, nI_mul, nI_add]) (by omega) (by omega) ?_
  refine wp_aload_n (n := 2091) dL_law_2090 rfl rfl ?_
  refine wp_callSH (n := 2094) (rm' := (8, 138, 1, 6)) (c0 := c0) (s0 := s0) (C := 20) (S := 4409) rfl dL_law_2091 rfl mwL_271 [.ref p, .int (S (i0 + 1)), .int (S (i0 + 2)), .ref (m + 12)] rfl rfl rfl rfl (Nat.le_of_ble_eq_true rfl) rfl ?_
  refine s_L_entryBlock hF' (by omega) ?_
  refine s_X9_entryBlock hF hL0 (by omega) (by omega) (by omega) (by omega) (fun c1 n1 hn1 => ?_) (fun j hj ej h1 pk1 fr1 hpk hL1 => ?_)
  · refine Or.inr (Or.inl ⟨rfl, rfl, ?_⟩)
    show WP Γ _ _ _ _ _ _ _
    have B : Bet p m h h _ := Bet.n (p := p) ho hn1
    refine MC _ _ _ _ (B.1 _ (by omega)) (B.1 _ (by omega)) ?_
    refine s_X10_entryBlock (ModC.mv (B.1 _ (by omega)) mC) ((B.1 _ (by omega)).trans mR) hr0 hI0 (by omega) (by omega) (fun d1 h2 fr2 m2 => ?_) (fun i hi ei h2 fr2 m2 => ?_)
    · show WP Γ _ _ _ _ _ _ _
      exact TE _ _ h2 _ _ (by decide) (fin_q hA hs0 hM0 hP0 c10 hm B fr2 ⟨_, _, _, _, _, _, m2⟩) ⟨_, _, _, _, _, _, _, m2⟩
    · have d1 : inN (S (i0 + 1)) ne = true := by rw [ei]; exact inN_of hi (by omega)
      exact absurd (c1.symm.trans d1) (by decide)
  · refine ⟨fo, ((fr1.2 _ (by omega)).trans o1), fun fo1 hv => ?_⟩
    show WP Γ _ _ _ _ _ _ _
    have B : Bet p m h h1 _ := Bet.o fo1 ho hm (fun c hc => fr1.2 c (by omega))
    have c1 : inN (S (i0 + 1)) ne = true := by rw [ej]; exact inN_of hj (by omega)
    refine MC _ _ _ _ (B.1 _ (by omega)) (B.1 _ (by omega)) ?_
    refine s_X10_entryBlock (ModC.mv (B.1 _ (by omega)) mC) ((B.1 _ (by omega)).trans mR) hr0 hI0 (by omega) (by omega) (fun d1 h2 fr2 m2 => ?_) (fun i hi ei h2 fr2 m2 => ?_)
    · exact absurd (c1.symm.trans d1) (by decide)
    · have d1 : inN (S (i0 + 1)) ne = true := by rw [ei]; exact inN_of hi (by omega)
      show WP Γ _ _ _ _ _ _ _
      obtain rfl : j = i := (nI_eq9 (by omega) (by omega)).mp (ej.symm.trans ei)
      rw [nthR_congr (P' := blk bk j) nb 0 0 (fun d _ hd => by rw [hpk d (by omega)]; cases blk bk j d <;> rfl)] at hv
      exact TO _ _ h2 _ fo1 (fin_q hA hs0 hM0 hP0 (c10.led fr1 ⟨pk1, hL1⟩) hm B fr2 ⟨_, _, _, _, _, _, m2⟩) ⟨_, _, _, _, _, _, _, m2⟩ ((fr2.2 _ (by omega)).trans (ax_set_self _ _ _)) hv
theorem cs_largestTransfer (hA : Γ.2.1 ≤ p) (hs : ScrP Γ h sa N S) (ho : OutP h m) (c1 : ClsP h p m b D er bs len f (mkK np qu ra re le ln nb pl tm ne rw bk nh hw nc cw t y) KS) (hP : PurP len f (mkK np qu ra re le ln nb pl tm ne rw bk nh hw nc cw t y) KS) (hM : ModP h m er bs len f (mkK np qu ra re le ln nb pl tm ne rw bk nh hw nc cw t y) KS) (hi : i0 + 5 ≤ N) (k : ∀ h', Sim Γ h' p m sa N S → WP Γ ML_law (10, 196, c0, s0) 3329 [some (.ref sa), some (.ref p), some (.ref m), some (.ref (m + 12)), some (.ref (m + 13)), some (.int (nI i0)), none, none, none, none] [] h' Q) : WP Γ ML_law (10, 196, c0 + 20, s0 + 4409) 1347 [some (.ref sa), some (.ref p), some (.ref m), some (.ref (m + 12)), some (.ref (m + 13)), some (.int (nI i0)), none, none, none, none] [] h Q := by
  have hs0 := hs
  have c10 := c1
  have hP0 := hP
  have hM0 := hM
  obtain ⟨hsa, hsl, hN, hfree⟩ := hs
  obtain ⟨⟨fo, o1⟩, fd, o2⟩ := ho
  obtain ⟨hF, hT, hR3, hBat, hSna, ⟨pk, hL⟩, hX, hbD, hm, hz, hsn, hap⟩ := c1
  obtain ⟨hlen, hI, hIS⟩ := hP
  obtain ⟨⟨th, at', bg, e9, ea, cm, mC⟩, ⟨R, mR, hr⟩, ⟨R2, mR2⟩, ⟨R3, mR3⟩, ⟨RE, mE, hre⟩, ⟨RA, mRA⟩, ⟨mpk, mP⟩, ⟨B, mB, hB⟩, ⟨CM, mK⟩, CC, CE, SV, mCC, mCE, mSV, hsv, hsr⟩ := hM
  have hI0 : Inv np qu ra re le ln nb pl tm ne rw bk nh hw nc cw t y := hI
  have hr0 : RowR R np qu ra re le ln nb pl tm ne rw bk nh hw nc cw t y := hr
  have hL0 : LedP h b np qu ra re le ln nb pl tm ne rw bk nh hw nc cw t y pk := hL
  have hre0 : ∀ j, j < np → RE j = re j := hre
  obtain ⟨⟨s1, s2, s3, s4, s5, s6, s7, s8, tn, s9, s10⟩, IM, IP, IJ, IR, IC⟩ := hI0
  have hI0 : Inv np qu ra re le ln nb pl tm ne rw bk nh hw nc cw t y := hI
  have hF' := hF
  unfold FacC at hF'
  have ho : OutP h m := ⟨⟨fo, o1⟩, fd, o2⟩
  have TE : ∀ (X Y : Nat) (h2 : AH) (kk : Int32) (v9 : Int32), ¬ kk = 0 → Sim Γ h2 p m sa N S → (∃ tl at' bg e9 ea lr cm, ModC h2 m (m + 1) kk tl at' bg e9 ea lr cm) → WP Γ ML_law (10, 196, c0 + X, s0 + Y) 1382 [some (.ref sa), some (.ref p), some (.ref m), some (.ref (m + 12)), some (.ref (m + 13)), some (.int (nI i0)), some (.int kk), none, none, none] [.int v9] h2 Q := by
    intro X Y h2 kk v9 hk hsim hm2
    obtain ⟨tl2, at2, bg2, e2, ea2, lr2, cm2, m2⟩ := hm2
    have m20 := m2
    unfold ModC at m2
    refine wp_istore (n := 1384) dL_law_1382 rfl rfl rfl rfl ?_
    refine wp_aload_n (n := 1385) dL_law_1384 rfl rfl ?_
    refine wp_callVs (n := 1388) (rm' := (0, 0, 0, 0)) (c0 := c0) (s0 := s0) rfl dL_law_1385 rfl mlL_156 [] rfl rfl m2 rfl rfl rfl (Nat.le_of_ble_eq_true rfl) rfl ?_
    refine s_X10_thrown m20 ?_
    show WP Γ _ _ _ _ _ _ _
    refine wp_iload (n := 1390) dL_law_1388 rfl rfl ?_
    refine wp_icmp_eq (t := 1395) (n := 1393) dL_law_1390 (by decide) rfl (fun hc => ?_) (fun hc => ?_)
    · refine wp_iload (n := 1397) dL_law_1395 rfl rfl ?_
      refine wp_if_ne (t := 1412) (n := 1400) dL_law_1397 (by decide) rfl (fun hq => ?_) (fun hq => ?_)
      · refine wp_goto (t := 3329) dL_law_1412 (by decide) ?_
        refine wp_lo (lo' := [some (.ref sa), some (.ref p), some (.ref m), some (.ref (m + 12)), some (.ref (m + 13)), some (.int (nI i0)), none, none, none, none]) (fun k v hk => ?_) ?_
        · match k, hk with
          | 0, hk => exact hk
          | 1, hk => exact hk
          | 2, hk => exact hk
          | 3, hk => exact hk
          | 4, hk => exact hk
          | 5, hk => exact hk
          | 6, hk => exact absurd hk (by simp [ax_gl])
          | 7, hk => exact absurd hk (by simp [ax_gl])
          | 8, hk => exact absurd hk (by simp [ax_gl])
          | 9, hk => exact absurd hk (by simp [ax_gl])
          | k + 10, hk => exact absurd hk (by simp [ax_gl])
        exact wp_big (rm := (10, 196, c0, s0)) (Nat.le_refl _) (Nat.le_refl _) (Nat.le_add_right _ _) (Nat.le_add_right _ _) (k h2 hsim)
      · exact absurd hq hk
    · exact absurd rfl hc
  have TO : ∀ (X Y : Nat) (h2 : AH) (r : Int32) (fo2 : Nat → Int64), Sim Γ h2 p m sa N S → (∃ tl at' bg e9 ea lr cm, ModC h2 m (m + 1) 0 tl at' bg e9 ea lr cm) → h2.2 (m + 12) = some (.inl (.long, 1, .inr (.inl fo2))) → fo2 0 = r.toInt64 → WP Γ ML_law (10, 196, c0 + X, s0 + Y) 1382 [some (.ref sa), some (.ref p), some (.ref m), some (.ref (m + 12)), some (.ref (m + 13)), some (.int (nI i0)), some (.int 0), none, none, none] [.int r] h2 Q := by
    intro X Y h2 r fo2 hsim hm2 ho2 hv2
    obtain ⟨tl2, at2, bg2, e2, ea2, lr2, cm2, m2⟩ := hm2
    have m20 := m2
    unfold ModC at m2
    have fin : ∀ l7 : Option Value, WP Γ ML_law (10, 196, c0 + (X - 0), s0 + (Y - 0)) 1412 [some (.ref sa), some (.ref p), some (.ref m), some (.ref (m + 12)), some (.ref (m + 13)), some (.int (nI i0)), some (.int 0), l7, none, none] [] h2 Q := by
      intro l7
      refine wp_goto (t := 3329) dL_law_1412 (by decide) ?_
      refine wp_lo (lo' := [some (.ref sa), some (.ref p), some (.ref m), some (.ref (m + 12)), some (.ref (m + 13)), some (.int (nI i0)), none, none, none, none]) (fun k v hk => ?_) ?_
      · match k, hk with
        | 0, hk => exact hk
        | 1, hk => exact hk
        | 2, hk => exact hk
        | 3, hk => exact hk
        | 4, hk => exact hk
        | 5, hk => exact hk
        | 6, hk => exact absurd hk (by simp [ax_gl])
        | 7, hk => exact absurd hk (by simp [ax_gl])
        | 8, hk => exact absurd hk (by simp [ax_gl])
        | 9, hk => exact absurd hk (by simp [ax_gl])
        | k + 10, hk => exact absurd hk (by simp [ax_gl])
      exact wp_big (rm := (10, 196, c0, s0)) (Nat.le_refl _) (Nat.le_refl _) (Nat.le_add_right _ _) (Nat.le_add_right _ _) (k h2 hsim)
    refine wp_istore (n := 1384) dL_law_1382 rfl rfl rfl rfl ?_
    refine wp_aload_n (n := 1385) dL_law_1384 rfl rfl ?_
    refine wp_callVs (n := 1388) (rm' := (0, 0, 0, 0)) (c0 := c0) (s0 := s0) rfl dL_law_1385 rfl mlL_156 [] rfl rfl m2 rfl rfl rfl (Nat.le_of_ble_eq_true rfl) rfl ?_
    refine s_X10_thrown m20 ?_
    show WP Γ _ _ _ _ _ _ _
    refine wp_iload (n := 1390) dL_law_1388 rfl rfl ?_
    refine wp_icmp_eq (t := 1395) (n := 1393) dL_law_1390 (by decide) rfl (fun hc => ?_) (fun hc => ?_)
    · refine wp_iload (n := 1397) dL_law_1395 rfl rfl ?_
      refine wp_if_ne (t := 1412) (n := 1400) dL_law_1397 (by decide) rfl (fun hq => ?_) (fun hq => ?_)
      · exact absurd rfl hq
      · refine wp_aload_n (n := 1401) dL_law_1400 rfl rfl ?_
        refine wp_iconst (n := 1402) (v := 0) dL_law_1401 rfl (by decide) ?_
        refine wp_lald (n := 1403) 0 dL_law_1402 rfl ho2 rfl (by omega) (by omega) ?_
        rw [hv2]
        refine wp_iload (n := 1405) dL_law_1403 rfl rfl ?_
        refine wp_i2l (n := 1406) dL_law_1405 rfl ?_
        refine wp_lcmp (n := 1407) dL_law_1406 rfl ?_
        rw [lg_self]
        refine wp_if_eq (t := 1412) (n := 1410) dL_law_1407 (by decide) rfl (fun hu => ?_) (fun hu => ?_)
        · exact fin _
        · exact absurd rfl hu
    · exact absurd rfl hc
  have MC : ∀ (X Y : Nat) (h3 : AH) (kk : Int32), h3.2 m = h.2 m → h3.2 sa = h.2 sa → WP Γ MX10_largestTransfer (3, 67, 0, 0) 0 [some (.ref m), some (.int (S (i0 + 1))), some (.int (S (i0 + 2)))] [] h3 (ax_K Γ ML_law (10, 196, c0 + (X - 0), s0 + (Y - 0)) 1382 [some (.ref sa), some (.ref p), some (.ref m), some (.ref (m + 12)), some (.ref (m + 13)), some (.int (nI i0)), some (.int kk), none, none, none] [] Q) → WP Γ ML_law (10, 196, c0 + X, s0 + Y) 1364 [some (.ref sa), some (.ref p), some (.ref m), some (.ref (m + 12)), some (.ref (m + 13)), some (.int (nI i0)), none, none, none, none] [.int kk] h3 Q := by
    intro X Y h3 kk e1 e2 kk3
    have mC3' := ModC.mv e1 mC
    unfold ModC at mC3'
    have hsa3 := e2.trans hsa
    refine wp_istore (n := 1366) dL_law_1364 rfl rfl rfl rfl ?_
    refine wp_aload_n (n := 1367) dL_law_1366 rfl rfl ?_
    refine wp_aload_n (n := 1368) dL_law_1367 rfl rfl ?_
    refine wp_iload (n := 1370) dL_law_1368 rfl rfl ?_
    refine wp_iconst (n := 1371) (v := nI 1) dL_law_1370 rfl (by decide) ?_
    refine wp_iadd (n := 1372) dL_law_1371 rfl ?_
    refine wp_iald (n := 1373) (i0 + 1) dL_law_1372 rfl (by repeat first | assumption | exact ax_set_self _ _ _ | exact ax_newA_self _ _ _ | refine (ax_set_ne _ _ (by omega)).trans ?_ | refine (ax_newA_ne _ _ _ (by omega)).trans ?_) (by simp only [nI_zero, nI_mul, nI_add]) (by omega) (by omega) ?_
    refine wp_aload_n (n := 1374) dL_law_1373 rfl rfl ?_
    refine wp_iload (n := 1376) dL_law_1374 rfl rfl ?_
    refine wp_iconst (n := 1377) (v := nI 2) dL_law_1376 rfl (by decide) ?_
    refine wp_iadd (n := 1378) dL_law_1377 rfl ?_
    refine wp_iald (n := 1379) (i0 + 2) dL_law_1378 rfl (by repeat first | assumption | exact ax_set_self _ _ _ | exact ax_newA_self _ _ _ | refine (ax_set_ne _ _ (by omega)).trans ?_ | refine (ax_newA_ne _ _ _ (by omega)).trans ?_) (by simp only [nI_zero, nI_mul, nI_add]) (by omega) (by omega) ?_
    refine wp_callVs (n := 1382) (rm' := (3, 67, 0, 0)) (c0 := c0) (s0 := s0) rfl dL_law_1379 rfl mlL_235 [.int (S (i0 + 1)), .int (S (i0 + 2))] rfl rfl mC3' rfl rfl rfl (Nat.le_of_ble_eq_true rfl) rfl ?_
    exact kk3
  refine wp_aload_n (n := 1348) dL_law_1347 rfl rfl ?_
  refine wp_aload_n (n := 1349) dL_law_1348 rfl rfl ?_
  refine wp_iload (n := 1351) dL_law_1349 rfl rfl ?_
  refine wp_iconst (n := 1352) (v := nI 1) dL_law_1351 rfl (by decide) ?_
  refine wp_iadd (n := 1353) dL_law_1352 rfl ?_
  refine wp_iald (n := 1354) (i0 + 1) dL_law_1353 rfl (by repeat first | assumption | exact ax_set_self _ _ _ | exact ax_newA_self _ _ _ | refine (ax_set_ne _ _ (by omega)).trans ?_ | refine (ax_newA_ne _ _ _ (by omega)).trans ?_) (by simp only [nI_zero, nI_mul, nI_add]) (by omega) (by omega) ?_
  refine wp_aload_n (n := 1355) dL_law_1354 rfl rfl ?_
  refine wp_iload (n := 1357) dL_law_1355 rfl rfl ?_
  refine wp_iconst (n := 1358) (v := nI 2) dL_law_1357 rfl (by decide) ?_
  refine wp_iadd (n := 1359) dL_law_1358 rfl ?_
  refine wp_iald (n := 1360) (i0 + 2) dL_law_1359 rfl (by repeat first | assumption | exact ax_set_self _ _ _ | exact ax_newA_self _ _ _ | refine (ax_set_ne _ _ (by omega)).trans ?_ | refine (ax_newA_ne _ _ _ (by omega)).trans ?_) (by simp only [nI_zero, nI_mul, nI_add]) (by omega) (by omega) ?_
  refine wp_aload_n (n := 1361) dL_law_1360 rfl rfl ?_
  refine wp_callSH (n := 1364) (rm' := (9, 160, 3, 18)) (c0 := c0) (s0 := s0) (C := 20) (S := 4409) rfl dL_law_1361 rfl mwL_233 [.ref p, .int (S (i0 + 1)), .int (S (i0 + 2)), .ref (m + 12)] rfl rfl rfl rfl (Nat.le_of_ble_eq_true rfl) rfl ?_
  refine s_L_largestTransfer hF' (by omega) ?_
  refine s_X9_largestTransfer hF hL0 (by omega) (by omega) (by omega) (fun c1 n1 hn1 => ?_) (fun c1 c2 n1 hn1 => ?_) (fun i j hi hj ei ej hij => ?_)
  · refine Or.inr (Or.inr ⟨rfl, Or.inl ⟨rfl, ?_⟩⟩)
    show WP Γ _ _ _ _ _ _ _
    have B : Bet p m h h _ := Bet.n (p := p) ho hn1
    refine MC _ _ _ _ (B.1 _ (by omega)) (B.1 _ (by omega)) ?_
    refine s_X10_largestTransfer (ModC.mv (B.1 _ (by omega)) mC) ((B.1 _ (by omega)).trans mR) hr0 hI0 (by omega) (by omega) (fun d1 h2 fr2 m2 => ?_) (fun d1 d2 h2 fr2 m2 => ?_) (fun i2 hi2 ei2 j2 hj2 ej2 hij2 h2 fr2 m2 => ?_)
    · show WP Γ _ _ _ _ _ _ _
      exact TE _ _ h2 _ _ (by decide) (fin_q hA hs0 hM0 hP0 c10 hm B fr2 ⟨_, _, _, _, _, _, m2⟩) ⟨_, _, _, _, _, _, _, m2⟩
    · exact absurd (c1.symm.trans d1) (by decide)
    · have d1 : (inN (S (i0 + 1)) np && inN (S (i0 + 2)) np) = true := by rw [ei2, ej2, inN_of hi2 (by omega), inN_of hj2 (by omega)]; rfl
      have d2 : decide (¬ (S (i0 + 1)) = (S (i0 + 2))) = true := decide_eq_true hij2
      exact absurd (c1.symm.trans d1) (by decide)
  · refine Or.inr (Or.inr ⟨rfl, Or.inr ⟨rfl, ?_⟩⟩)
    show WP Γ _ _ _ _ _ _ _
    have B : Bet p m h h _ := Bet.n (p := p) ho hn1
    have c2 := decide_eq_false (p := ¬ (S (i0 + 1)) = (S (i0 + 2))) (fun q => q c2)
    refine MC _ _ _ _ (B.1 _ (by omega)) (B.1 _ (by omega)) ?_
    refine s_X10_largestTransfer (ModC.mv (B.1 _ (by omega)) mC) ((B.1 _ (by omega)).trans mR) hr0 hI0 (by omega) (by omega) (fun d1 h2 fr2 m2 => ?_) (fun d1 d2 h2 fr2 m2 => ?_) (fun i2 hi2 ei2 j2 hj2 ej2 hij2 h2 fr2 m2 => ?_)
    · exact absurd (c1.symm.trans d1) (by decide)
    · show WP Γ _ _ _ _ _ _ _
      exact TE _ _ h2 _ _ (by decide) (fin_q hA hs0 hM0 hP0 c10 hm B fr2 ⟨_, _, _, _, _, _, m2⟩) ⟨_, _, _, _, _, _, _, m2⟩
    · have d1 : (inN (S (i0 + 1)) np && inN (S (i0 + 2)) np) = true := by rw [ei2, ej2, inN_of hi2 (by omega), inN_of hj2 (by omega)]; rfl
      have d2 : decide (¬ (S (i0 + 1)) = (S (i0 + 2))) = true := decide_eq_true hij2
      exact absurd (c2.symm.trans d2) (by decide)
  · refine ⟨fo, o1, fun fo1 hv => ?_⟩
    show WP Γ _ _ _ _ _ _ _
    have B : Bet p m h h _ := Bet.o fo1 ho hm (fun _ _ => rfl)
    have c1 : (inN (S (i0 + 1)) np && inN (S (i0 + 2)) np) = true := by rw [ei, ej, inN_of hi (by omega), inN_of hj (by omega)]; rfl
    have c2 : decide (¬ (S (i0 + 1)) = (S (i0 + 2))) = true := decide_eq_true (fun q => hij ((nI_eq9 (by omega) (by omega)).mp (ei.symm.trans (q.trans ej))))
    refine MC _ _ _ _ (B.1 _ (by omega)) (B.1 _ (by omega)) ?_
    refine s_X10_largestTransfer (ModC.mv (B.1 _ (by omega)) mC) ((B.1 _ (by omega)).trans mR) hr0 hI0 (by omega) (by omega) (fun d1 h2 fr2 m2 => ?_) (fun d1 d2 h2 fr2 m2 => ?_) (fun i2 hi2 ei2 j2 hj2 ej2 hij2 h2 fr2 m2 => ?_)
    · exact absurd (c1.symm.trans d1) (by decide)
    · exact absurd (c2.symm.trans d2) (by decide)
    · have d1 : (inN (S (i0 + 1)) np && inN (S (i0 + 2)) np) = true := by rw [ei2, ej2, inN_of hi2 (by omega), inN_of hj2 (by omega)]; rfl
      have d2 : decide (¬ (S (i0 + 1)) = (S (i0 + 2))) = true := decide_eq_true hij2
      show WP Γ _ _ _ _ _ _ _
      obtain rfl : i = i2 := (nI_eq9 (by omega) (by omega)).mp (ei.symm.trans ei2)
      obtain rfl : j = j2 := (nI_eq9 (by omega) (by omega)).mp (ej.symm.trans ej2)
      exact TO _ _ h2 _ fo1 (fin_q hA hs0 hM0 hP0 c10 hm B fr2 ⟨_, _, _, _, _, _, m2⟩) ⟨_, _, _, _, _, _, _, m2⟩ ((fr2.2 _ (by omega)).trans (ax_set_self _ _ _)) hv
theorem cs_entryValue (hA : Γ.2.1 ≤ p) (hs : ScrP Γ h sa N S) (ho : OutP h m) (c1 : ClsP h p m b D er bs len f (mkK np qu ra re le ln nb pl tm ne rw bk nh hw nc cw t y) KS) (hP : PurP len f (mkK np qu ra re le ln nb pl tm ne rw bk nh hw nc cw t y) KS) (hM : ModP h m er bs len f (mkK np qu ra re le ln nb pl tm ne rw bk nh hw nc cw t y) KS) (hi : i0 + 5 ≤ N) (k : ∀ h', Sim Γ h' p m sa N S → WP Γ ML_law (10, 196, c0, s0) 3329 [some (.ref sa), some (.ref p), some (.ref m), some (.ref (m + 12)), some (.ref (m + 13)), some (.int (nI i0)), none, none, none, none] [] h' Q) : WP Γ ML_law (10, 196, c0 + 20, s0 + 4409) 2009 [some (.ref sa), some (.ref p), some (.ref m), some (.ref (m + 12)), some (.ref (m + 13)), some (.int (nI i0)), none, none, none, none] [] h Q := by
  have hs0 := hs
  have c10 := c1
  have hP0 := hP
  have hM0 := hM
  obtain ⟨hsa, hsl, hN, hfree⟩ := hs
  obtain ⟨⟨fo, o1⟩, fd, o2⟩ := ho
  obtain ⟨hF, hT, hR3, hBat, hSna, ⟨pk, hL⟩, hX, hbD, hm, hz, hsn, hap⟩ := c1
  obtain ⟨hlen, hI, hIS⟩ := hP
  obtain ⟨⟨th, at', bg, e9, ea, cm, mC⟩, ⟨R, mR, hr⟩, ⟨R2, mR2⟩, ⟨R3, mR3⟩, ⟨RE, mE, hre⟩, ⟨RA, mRA⟩, ⟨mpk, mP⟩, ⟨B, mB, hB⟩, ⟨CM, mK⟩, CC, CE, SV, mCC, mCE, mSV, hsv, hsr⟩ := hM
  have hI0 : Inv np qu ra re le ln nb pl tm ne rw bk nh hw nc cw t y := hI
  have hr0 : RowR R np qu ra re le ln nb pl tm ne rw bk nh hw nc cw t y := hr
  have hL0 : LedP h b np qu ra re le ln nb pl tm ne rw bk nh hw nc cw t y pk := hL
  have hre0 : ∀ j, j < np → RE j = re j := hre
  obtain ⟨⟨s1, s2, s3, s4, s5, s6, s7, s8, tn, s9, s10⟩, IM, IP, IJ, IR, IC⟩ := hI0
  have hI0 : Inv np qu ra re le ln nb pl tm ne rw bk nh hw nc cw t y := hI
  have hF' := hF
  unfold FacC at hF'
  have ho : OutP h m := ⟨⟨fo, o1⟩, fd, o2⟩
  have TE : ∀ (X Y : Nat) (h2 : AH) (kk : Int32) (v9 : Int32), ¬ kk = 0 → Sim Γ h2 p m sa N S → (∃ tl at' bg e9 ea lr cm, ModC h2 m (m + 1) kk tl at' bg e9 ea lr cm) → WP Γ ML_law (10, 196, c0 + X, s0 + Y) 2044 [some (.ref sa), some (.ref p), some (.ref m), some (.ref (m + 12)), some (.ref (m + 13)), some (.int (nI i0)), some (.int kk), none, none, none] [.int v9] h2 Q := by
    intro X Y h2 kk v9 hk hsim hm2
    obtain ⟨tl2, at2, bg2, e2, ea2, lr2, cm2, m2⟩ := hm2
    have m20 := m2
    unfold ModC at m2
    refine wp_istore (n := 2046) dL_law_2044 rfl rfl rfl rfl ?_
    refine wp_aload_n (n := 2047) dL_law_2046 rfl rfl ?_
    refine wp_callVs (n := 2050) (rm' := (0, 0, 0, 0)) (c0 := c0) (s0 := s0) rfl dL_law_2047 rfl mlL_156 [] rfl rfl m2 rfl rfl rfl (Nat.le_of_ble_eq_true rfl) rfl ?_
    refine s_X10_thrown m20 ?_
    show WP Γ _ _ _ _ _ _ _
    refine wp_iload (n := 2052) dL_law_2050 rfl rfl ?_
    refine wp_icmp_eq (t := 2057) (n := 2055) dL_law_2052 (by decide) rfl (fun hc => ?_) (fun hc => ?_)
    · refine wp_iload (n := 2059) dL_law_2057 rfl rfl ?_
      refine wp_if_ne (t := 2074) (n := 2062) dL_law_2059 (by decide) rfl (fun hq => ?_) (fun hq => ?_)
      · refine wp_goto (t := 3329) dL_law_2074 (by decide) ?_
        refine wp_lo (lo' := [some (.ref sa), some (.ref p), some (.ref m), some (.ref (m + 12)), some (.ref (m + 13)), some (.int (nI i0)), none, none, none, none]) (fun k v hk => ?_) ?_
        · match k, hk with
          | 0, hk => exact hk
          | 1, hk => exact hk
          | 2, hk => exact hk
          | 3, hk => exact hk
          | 4, hk => exact hk
          | 5, hk => exact hk
          | 6, hk => exact absurd hk (by simp [ax_gl])
          | 7, hk => exact absurd hk (by simp [ax_gl])
          | 8, hk => exact absurd hk (by simp [ax_gl])
          | 9, hk => exact absurd hk (by simp [ax_gl])
          | k + 10, hk => exact absurd hk (by simp [ax_gl])
        exact wp_big (rm := (10, 196, c0, s0)) (Nat.le_refl _) (Nat.le_refl _) (Nat.le_add_right _ _) (Nat.le_add_right _ _) (k h2 hsim)
      · exact absurd hq hk
    · exact absurd rfl hc
  have TO : ∀ (X Y : Nat) (h2 : AH) (r : Int32) (fo2 : Nat → Int64), Sim Γ h2 p m sa N S → (∃ tl at' bg e9 ea lr cm, ModC h2 m (m + 1) 0 tl at' bg e9 ea lr cm) → h2.2 (m + 12) = some (.inl (.long, 1, .inr (.inl fo2))) → fo2 0 = r.toInt64 → WP Γ ML_law (10, 196, c0 + X, s0 + Y) 2044 [some (.ref sa), some (.ref p), some (.ref m), some (.ref (m + 12)), some (.ref (m + 13)), some (.int (nI i0)), some (.int 0), none, none, none] [.int r] h2 Q := by
    intro X Y h2 r fo2 hsim hm2 ho2 hv2
    obtain ⟨tl2, at2, bg2, e2, ea2, lr2, cm2, m2⟩ := hm2
    have m20 := m2
    unfold ModC at m2
    have fin : ∀ l7 : Option Value, WP Γ ML_law (10, 196, c0 + (X - 0), s0 + (Y - 0)) 2074 [some (.ref sa), some (.ref p), some (.ref m), some (.ref (m + 12)), some (.ref (m + 13)), some (.int (nI i0)), some (.int 0), l7, none, none] [] h2 Q := by
      intro l7
      refine wp_goto (t := 3329) dL_law_2074 (by decide) ?_
      refine wp_lo (lo' := [some (.ref sa), some (.ref p), some (.ref m), some (.ref (m + 12)), some (.ref (m + 13)), some (.int (nI i0)), none, none, none, none]) (fun k v hk => ?_) ?_
      · match k, hk with
        | 0, hk => exact hk
        | 1, hk => exact hk
        | 2, hk => exact hk
        | 3, hk => exact hk
        | 4, hk => exact hk
        | 5, hk => exact hk
        | 6, hk => exact absurd hk (by simp [ax_gl])
        | 7, hk => exact absurd hk (by simp [ax_gl])
        | 8, hk => exact absurd hk (by simp [ax_gl])
        | 9, hk => exact absurd hk (by simp [ax_gl])
        | k + 10, hk => exact absurd hk (by simp [ax_gl])
      exact wp_big (rm := (10, 196, c0, s0)) (Nat.le_refl _) (Nat.le_refl _) (Nat.le_add_right _ _) (Nat.le_add_right _ _) (k h2 hsim)
    refine wp_istore (n := 2046) dL_law_2044 rfl rfl rfl rfl ?_
    refine wp_aload_n (n := 2047) dL_law_2046 rfl rfl ?_
    refine wp_callVs (n := 2050) (rm' := (0, 0, 0, 0)) (c0 := c0) (s0 := s0) rfl dL_law_2047 rfl mlL_156 [] rfl rfl m2 rfl rfl rfl (Nat.le_of_ble_eq_true rfl) rfl ?_
    refine s_X10_thrown m20 ?_
    show WP Γ _ _ _ _ _ _ _
    refine wp_iload (n := 2052) dL_law_2050 rfl rfl ?_
    refine wp_icmp_eq (t := 2057) (n := 2055) dL_law_2052 (by decide) rfl (fun hc => ?_) (fun hc => ?_)
    · refine wp_iload (n := 2059) dL_law_2057 rfl rfl ?_
      refine wp_if_ne (t := 2074) (n := 2062) dL_law_2059 (by decide) rfl (fun hq => ?_) (fun hq => ?_)
      · exact absurd rfl hq
      · refine wp_aload_n (n := 2063) dL_law_2062 rfl rfl ?_
        refine wp_iconst (n := 2064) (v := 0) dL_law_2063 rfl (by decide) ?_
        refine wp_lald (n := 2065) 0 dL_law_2064 rfl ho2 rfl (by omega) (by omega) ?_
        rw [hv2]
        refine wp_iload (n := 2067) dL_law_2065 rfl rfl ?_
        refine wp_i2l (n := 2068) dL_law_2067 rfl ?_
        refine wp_lcmp (n := 2069) dL_law_2068 rfl ?_
        rw [lg_self]
        refine wp_if_eq (t := 2074) (n := 2072) dL_law_2069 (by decide) rfl (fun hu => ?_) (fun hu => ?_)
        · exact fin _
        · exact absurd rfl hu
    · exact absurd rfl hc
  have MC : ∀ (X Y : Nat) (h3 : AH) (kk : Int32), h3.2 m = h.2 m → h3.2 sa = h.2 sa → WP Γ MX10_entryValue (2, 43, 0, 0) 0 [some (.ref m), some (.int (S (i0 + 1))), some (.int (S (i0 + 2)))] [] h3 (ax_K Γ ML_law (10, 196, c0 + (X - 0), s0 + (Y - 0)) 2044 [some (.ref sa), some (.ref p), some (.ref m), some (.ref (m + 12)), some (.ref (m + 13)), some (.int (nI i0)), some (.int kk), none, none, none] [] Q) → WP Γ ML_law (10, 196, c0 + X, s0 + Y) 2026 [some (.ref sa), some (.ref p), some (.ref m), some (.ref (m + 12)), some (.ref (m + 13)), some (.int (nI i0)), none, none, none, none] [.int kk] h3 Q := by
    intro X Y h3 kk e1 e2 kk3
    have mC3' := ModC.mv e1 mC
    unfold ModC at mC3'
    have hsa3 := e2.trans hsa
    refine wp_istore (n := 2028) dL_law_2026 rfl rfl rfl rfl ?_
    refine wp_aload_n (n := 2029) dL_law_2028 rfl rfl ?_
    refine wp_aload_n (n := 2030) dL_law_2029 rfl rfl ?_
    refine wp_iload (n := 2032) dL_law_2030 rfl rfl ?_
    refine wp_iconst (n := 2033) (v := nI 1) dL_law_2032 rfl (by decide) ?_
    refine wp_iadd (n := 2034) dL_law_2033 rfl ?_
    refine wp_iald (n := 2035) (i0 + 1) dL_law_2034 rfl (by repeat first | assumption | exact ax_set_self _ _ _ | exact ax_newA_self _ _ _ | refine (ax_set_ne _ _ (by omega)).trans ?_ | refine (ax_newA_ne _ _ _ (by omega)).trans ?_) (by simp only [nI_zero, nI_mul, nI_add]) (by omega) (by omega) ?_
    refine wp_aload_n (n := 2036) dL_law_2035 rfl rfl ?_
    refine wp_iload (n := 2038) dL_law_2036 rfl rfl ?_
    refine wp_iconst (n := 2039) (v := nI 2) dL_law_2038 rfl (by decide) ?_
    refine wp_iadd (n := 2040) dL_law_2039 rfl ?_
    refine wp_iald (n := 2041) (i0 + 2) dL_law_2040 rfl (by repeat first | assumption | exact ax_set_self _ _ _ | exact ax_newA_self _ _ _ | refine (ax_set_ne _ _ (by omega)).trans ?_ | refine (ax_newA_ne _ _ _ (by omega)).trans ?_) (by simp only [nI_zero, nI_mul, nI_add]) (by omega) (by omega) ?_
    refine wp_callVs (n := 2044) (rm' := (2, 43, 0, 0)) (c0 := c0) (s0 := s0) rfl dL_law_2041 rfl mlL_270 [.int (S (i0 + 1)), .int (S (i0 + 2))] rfl rfl mC3' rfl rfl rfl (Nat.le_of_ble_eq_true rfl) rfl ?_
    exact kk3
  refine wp_aload_n (n := 2010) dL_law_2009 rfl rfl ?_
  refine wp_aload_n (n := 2011) dL_law_2010 rfl rfl ?_
  refine wp_iload (n := 2013) dL_law_2011 rfl rfl ?_
  refine wp_iconst (n := 2014) (v := nI 1) dL_law_2013 rfl (by decide) ?_
  refine wp_iadd (n := 2015) dL_law_2014 rfl ?_
  refine wp_iald (n := 2016) (i0 + 1) dL_law_2015 rfl (by repeat first | assumption | exact ax_set_self _ _ _ | exact ax_newA_self _ _ _ | refine (ax_set_ne _ _ (by omega)).trans ?_ | refine (ax_newA_ne _ _ _ (by omega)).trans ?_) (by simp only [nI_zero, nI_mul, nI_add]) (by omega) (by omega) ?_
  refine wp_aload_n (n := 2017) dL_law_2016 rfl rfl ?_
  refine wp_iload (n := 2019) dL_law_2017 rfl rfl ?_
  refine wp_iconst (n := 2020) (v := nI 2) dL_law_2019 rfl (by decide) ?_
  refine wp_iadd (n := 2021) dL_law_2020 rfl ?_
  refine wp_iald (n := 2022) (i0 + 2) dL_law_2021 rfl (by repeat first | assumption | exact ax_set_self _ _ _ | exact ax_newA_self _ _ _ | refine (ax_set_ne _ _ (by omega)).trans ?_ | refine (ax_newA_ne _ _ _ (by omega)).trans ?_) (by simp only [nI_zero, nI_mul, nI_add]) (by omega) (by omega) ?_
  refine wp_aload_n (n := 2023) dL_law_2022 rfl rfl ?_
  refine wp_callSH (n := 2026) (rm' := (8, 138, 2, 12)) (c0 := c0) (s0 := s0) (C := 20) (S := 4409) rfl dL_law_2023 rfl mwL_268 [.ref p, .int (S (i0 + 1)), .int (S (i0 + 2)), .ref (m + 12)] rfl rfl rfl rfl (Nat.le_of_ble_eq_true rfl) rfl ?_
  refine s_L_entryValue hF' (by omega) ?_
  refine s_X9_entryValue hF hL0 (by omega) (fun c1 n1 hn1 => ?_) (fun c1 c2 n1 hn1 => ?_) (fun i j hi hj ei ej => ?_)
  · refine Or.inr (Or.inr ⟨rfl, Or.inl ⟨rfl, ?_⟩⟩)
    show WP Γ _ _ _ _ _ _ _
    have B : Bet p m h h _ := Bet.n (p := p) ho hn1
    refine MC _ _ _ _ (B.1 _ (by omega)) (B.1 _ (by omega)) ?_
    refine s_X10_entryValue (ModC.mv (B.1 _ (by omega)) mC) ((B.1 _ (by omega)).trans mR) hr0 hI0 (by omega) (by omega) (fun d1 h2 fr2 m2 => ?_) (fun d1 d2 h2 fr2 m2 => ?_) (fun i2 hi2 ei2 j2 hj2 hk2 ej2 h2 fr2 m2 => ?_)
    · show WP Γ _ _ _ _ _ _ _
      exact TE _ _ h2 _ _ (by decide) (fin_q hA hs0 hM0 hP0 c10 hm B fr2 ⟨_, _, _, _, _, _, m2⟩) ⟨_, _, _, _, _, _, _, m2⟩
    · exact absurd (c1.symm.trans d1) (by decide)
    · have d1 : inN (S (i0 + 1)) ne = true := by rw [ei2]; exact inN_of hi2 (by omega)
      have d2 : inI (S (i0 + 2)) 0 6 = true := by rw [ej2]; exact inI_of hj2 hk2 (by decide)
      exact absurd (c1.symm.trans d1) (by decide)
  · refine Or.inr (Or.inr ⟨rfl, Or.inr ⟨rfl, ?_⟩⟩)
    show WP Γ _ _ _ _ _ _ _
    have B : Bet p m h h _ := Bet.n (p := p) ho hn1
    have c2 := (inN_inI (n := 6) (by decide)).symm.trans c2
    refine MC _ _ _ _ (B.1 _ (by omega)) (B.1 _ (by omega)) ?_
    refine s_X10_entryValue (ModC.mv (B.1 _ (by omega)) mC) ((B.1 _ (by omega)).trans mR) hr0 hI0 (by omega) (by omega) (fun d1 h2 fr2 m2 => ?_) (fun d1 d2 h2 fr2 m2 => ?_) (fun i2 hi2 ei2 j2 hj2 hk2 ej2 h2 fr2 m2 => ?_)
    · exact absurd (c1.symm.trans d1) (by decide)
    · show WP Γ _ _ _ _ _ _ _
      exact TE _ _ h2 _ _ (by decide) (fin_q hA hs0 hM0 hP0 c10 hm B fr2 ⟨_, _, _, _, _, _, m2⟩) ⟨_, _, _, _, _, _, _, m2⟩
    · have d1 : inN (S (i0 + 1)) ne = true := by rw [ei2]; exact inN_of hi2 (by omega)
      have d2 : inI (S (i0 + 2)) 0 6 = true := by rw [ej2]; exact inI_of hj2 hk2 (by decide)
      exact absurd (c2.symm.trans d2) (by decide)
  · refine ⟨fo, o1, fun fo1 hv => ?_⟩
    show WP Γ _ _ _ _ _ _ _
    have B : Bet p m h h _ := Bet.o fo1 ho hm (fun _ _ => rfl)
    have c1 : inN (S (i0 + 1)) ne = true := by rw [ei]; exact inN_of hi (by omega)
    have c2 : inI (S (i0 + 2)) 0 6 = true := by rw [ej]; exact inI_of (by omega) (by omega) (by decide)
    refine MC _ _ _ _ (B.1 _ (by omega)) (B.1 _ (by omega)) ?_
    refine s_X10_entryValue (ModC.mv (B.1 _ (by omega)) mC) ((B.1 _ (by omega)).trans mR) hr0 hI0 (by omega) (by omega) (fun d1 h2 fr2 m2 => ?_) (fun d1 d2 h2 fr2 m2 => ?_) (fun i2 hi2 ei2 j2 hj2 hk2 ej2 h2 fr2 m2 => ?_)
    · exact absurd (c1.symm.trans d1) (by decide)
    · exact absurd (c2.symm.trans d2) (by decide)
    · have d1 : inN (S (i0 + 1)) ne = true := by rw [ei2]; exact inN_of hi2 (by omega)
      have d2 : inI (S (i0 + 2)) 0 6 = true := by rw [ej2]; exact inI_of hj2 hk2 (by decide)
      show WP Γ _ _ _ _ _ _ _
      obtain rfl : i = i2 := (nI_eq9 (by omega) (by omega)).mp (ei.symm.trans ei2)
      obtain rfl : j = j2 := (nI_eq9 (by omega) (by omega)).mp (ej.symm.trans ej2)
      exact TO _ _ h2 _ fo1 (fin_q hA hs0 hM0 hP0 c10 hm B fr2 ⟨_, _, _, _, _, _, m2⟩) ⟨_, _, _, _, _, _, _, m2⟩ ((fr2.2 _ (by omega)).trans (ax_set_self _ _ _)) hv
theorem cs_reservationValue (hA : Γ.2.1 ≤ p) (hs : ScrP Γ h sa N S) (ho : OutP h m) (c1 : ClsP h p m b D er bs len f (mkK np qu ra re le ln nb pl tm ne rw bk nh hw nc cw t y) KS) (hP : PurP len f (mkK np qu ra re le ln nb pl tm ne rw bk nh hw nc cw t y) KS) (hM : ModP h m er bs len f (mkK np qu ra re le ln nb pl tm ne rw bk nh hw nc cw t y) KS) (hi : i0 + 5 ≤ N) (k : ∀ h', Sim Γ h' p m sa N S → WP Γ ML_law (10, 196, c0, s0) 3329 [some (.ref sa), some (.ref p), some (.ref m), some (.ref (m + 12)), some (.ref (m + 13)), some (.int (nI i0)), none, none, none, none] [] h' Q) : WP Γ ML_law (10, 196, c0 + 20, s0 + 4409) 2546 [some (.ref sa), some (.ref p), some (.ref m), some (.ref (m + 12)), some (.ref (m + 13)), some (.int (nI i0)), none, none, none, none] [] h Q := by
  have hs0 := hs
  have c10 := c1
  have hP0 := hP
  have hM0 := hM
  obtain ⟨hsa, hsl, hN, hfree⟩ := hs
  obtain ⟨⟨fo, o1⟩, fd, o2⟩ := ho
  obtain ⟨hF, hT, hR3, hBat, hSna, ⟨pk, hL⟩, hX, hbD, hm, hz, hsn, hap⟩ := c1
  obtain ⟨hlen, hI, hIS⟩ := hP
  obtain ⟨⟨th, at', bg, e9, ea, cm, mC⟩, ⟨R, mR, hr⟩, ⟨R2, mR2⟩, ⟨R3, mR3⟩, ⟨RE, mE, hre⟩, ⟨RA, mRA⟩, ⟨mpk, mP⟩, ⟨B, mB, hB⟩, ⟨CM, mK⟩, CC, CE, SV, mCC, mCE, mSV, hsv, hsr⟩ := hM
  have hI0 : Inv np qu ra re le ln nb pl tm ne rw bk nh hw nc cw t y := hI
  have hr0 : RowR R np qu ra re le ln nb pl tm ne rw bk nh hw nc cw t y := hr
  have hL0 : LedP h b np qu ra re le ln nb pl tm ne rw bk nh hw nc cw t y pk := hL
  have hre0 : ∀ j, j < np → RE j = re j := hre
  obtain ⟨⟨s1, s2, s3, s4, s5, s6, s7, s8, tn, s9, s10⟩, IM, IP, IJ, IR, IC⟩ := hI0
  have hI0 : Inv np qu ra re le ln nb pl tm ne rw bk nh hw nc cw t y := hI
  have hF' := hF
  unfold FacC at hF'
  have ho : OutP h m := ⟨⟨fo, o1⟩, fd, o2⟩
  have TE : ∀ (X Y : Nat) (h2 : AH) (kk : Int32) (v9 : Int32), ¬ kk = 0 → Sim Γ h2 p m sa N S → (∃ tl at' bg e9 ea lr cm, ModC h2 m (m + 1) kk tl at' bg e9 ea lr cm) → WP Γ ML_law (10, 196, c0 + X, s0 + Y) 2581 [some (.ref sa), some (.ref p), some (.ref m), some (.ref (m + 12)), some (.ref (m + 13)), some (.int (nI i0)), some (.int kk), none, none, none] [.int v9] h2 Q := by
    intro X Y h2 kk v9 hk hsim hm2
    obtain ⟨tl2, at2, bg2, e2, ea2, lr2, cm2, m2⟩ := hm2
    have m20 := m2
    unfold ModC at m2
    refine wp_istore (n := 2583) dL_law_2581 rfl rfl rfl rfl ?_
    refine wp_aload_n (n := 2584) dL_law_2583 rfl rfl ?_
    refine wp_callVs (n := 2587) (rm' := (0, 0, 0, 0)) (c0 := c0) (s0 := s0) rfl dL_law_2584 rfl mlL_156 [] rfl rfl m2 rfl rfl rfl (Nat.le_of_ble_eq_true rfl) rfl ?_
    refine s_X10_thrown m20 ?_
    show WP Γ _ _ _ _ _ _ _
    refine wp_iload (n := 2589) dL_law_2587 rfl rfl ?_
    refine wp_icmp_eq (t := 2594) (n := 2592) dL_law_2589 (by decide) rfl (fun hc => ?_) (fun hc => ?_)
    · refine wp_iload (n := 2596) dL_law_2594 rfl rfl ?_
      refine wp_if_ne (t := 2611) (n := 2599) dL_law_2596 (by decide) rfl (fun hq => ?_) (fun hq => ?_)
      · refine wp_goto (t := 3329) dL_law_2611 (by decide) ?_
        refine wp_lo (lo' := [some (.ref sa), some (.ref p), some (.ref m), some (.ref (m + 12)), some (.ref (m + 13)), some (.int (nI i0)), none, none, none, none]) (fun k v hk => ?_) ?_
        · match k, hk with
          | 0, hk => exact hk
          | 1, hk => exact hk
          | 2, hk => exact hk
          | 3, hk => exact hk
          | 4, hk => exact hk
          | 5, hk => exact hk
          | 6, hk => exact absurd hk (by simp [ax_gl])
          | 7, hk => exact absurd hk (by simp [ax_gl])
          | 8, hk => exact absurd hk (by simp [ax_gl])
          | 9, hk => exact absurd hk (by simp [ax_gl])
          | k + 10, hk => exact absurd hk (by simp [ax_gl])
        exact wp_big (rm := (10, 196, c0, s0)) (Nat.le_refl _) (Nat.le_refl _) (Nat.le_add_right _ _) (Nat.le_add_right _ _) (k h2 hsim)
      · exact absurd hq hk
    · exact absurd rfl hc
  have TO : ∀ (X Y : Nat) (h2 : AH) (r : Int32) (fo2 : Nat → Int64), Sim Γ h2 p m sa N S → (∃ tl at' bg e9 ea lr cm, ModC h2 m (m + 1) 0 tl at' bg e9 ea lr cm) → h2.2 (m + 12) = some (.inl (.long, 1, .inr (.inl fo2))) → fo2 0 = r.toInt64 → WP Γ ML_law (10, 196, c0 + X, s0 + Y) 2581 [some (.ref sa), some (.ref p), some (.ref m), some (.ref (m + 12)), some (.ref (m + 13)), some (.int (nI i0)), some (.int 0), none, none, none] [.int r] h2 Q := by
    intro X Y h2 r fo2 hsim hm2 ho2 hv2
    obtain ⟨tl2, at2, bg2, e2, ea2, lr2, cm2, m2⟩ := hm2
    have m20 := m2
    unfold ModC at m2
    have fin : ∀ l7 : Option Value, WP Γ ML_law (10, 196, c0 + (X - 0), s0 + (Y - 0)) 2611 [some (.ref sa), some (.ref p), some (.ref m), some (.ref (m + 12)), some (.ref (m + 13)), some (.int (nI i0)), some (.int 0), l7, none, none] [] h2 Q := by
      intro l7
      refine wp_goto (t := 3329) dL_law_2611 (by decide) ?_
      refine wp_lo (lo' := [some (.ref sa), some (.ref p), some (.ref m), some (.ref (m + 12)), some (.ref (m + 13)), some (.int (nI i0)), none, none, none, none]) (fun k v hk => ?_) ?_
      · match k, hk with
        | 0, hk => exact hk
        | 1, hk => exact hk
        | 2, hk => exact hk
        | 3, hk => exact hk
        | 4, hk => exact hk
        | 5, hk => exact hk
        | 6, hk => exact absurd hk (by simp [ax_gl])
        | 7, hk => exact absurd hk (by simp [ax_gl])
        | 8, hk => exact absurd hk (by simp [ax_gl])
        | 9, hk => exact absurd hk (by simp [ax_gl])
        | k + 10, hk => exact absurd hk (by simp [ax_gl])
      exact wp_big (rm := (10, 196, c0, s0)) (Nat.le_refl _) (Nat.le_refl _) (Nat.le_add_right _ _) (Nat.le_add_right _ _) (k h2 hsim)
    refine wp_istore (n := 2583) dL_law_2581 rfl rfl rfl rfl ?_
    refine wp_aload_n (n := 2584) dL_law_2583 rfl rfl ?_
    refine wp_callVs (n := 2587) (rm' := (0, 0, 0, 0)) (c0 := c0) (s0 := s0) rfl dL_law_2584 rfl mlL_156 [] rfl rfl m2 rfl rfl rfl (Nat.le_of_ble_eq_true rfl) rfl ?_
    refine s_X10_thrown m20 ?_
    show WP Γ _ _ _ _ _ _ _
    refine wp_iload (n := 2589) dL_law_2587 rfl rfl ?_
    refine wp_icmp_eq (t := 2594) (n := 2592) dL_law_2589 (by decide) rfl (fun hc => ?_) (fun hc => ?_)
    · refine wp_iload (n := 2596) dL_law_2594 rfl rfl ?_
      refine wp_if_ne (t := 2611) (n := 2599) dL_law_2596 (by decide) rfl (fun hq => ?_) (fun hq => ?_)
      · exact absurd rfl hq
      · refine wp_aload_n (n := 2600) dL_law_2599 rfl rfl ?_
        refine wp_iconst (n := 2601) (v := 0) dL_law_2600 rfl (by decide) ?_
        refine wp_lald (n := 2602) 0 dL_law_2601 rfl ho2 rfl (by omega) (by omega) ?_
        rw [hv2]
        refine wp_iload (n := 2604) dL_law_2602 rfl rfl ?_
        refine wp_i2l (n := 2605) dL_law_2604 rfl ?_
        refine wp_lcmp (n := 2606) dL_law_2605 rfl ?_
        rw [lg_self]
        refine wp_if_eq (t := 2611) (n := 2609) dL_law_2606 (by decide) rfl (fun hu => ?_) (fun hu => ?_)
        · exact fin _
        · exact absurd rfl hu
    · exact absurd rfl hc
  have MC : ∀ (X Y : Nat) (h3 : AH) (kk : Int32), h3.2 m = h.2 m → h3.2 sa = h.2 sa → WP Γ MX10_reservationValue (2, 43, 0, 0) 0 [some (.ref m), some (.int (S (i0 + 1))), some (.int (S (i0 + 2)))] [] h3 (ax_K Γ ML_law (10, 196, c0 + (X - 0), s0 + (Y - 0)) 2581 [some (.ref sa), some (.ref p), some (.ref m), some (.ref (m + 12)), some (.ref (m + 13)), some (.int (nI i0)), some (.int kk), none, none, none] [] Q) → WP Γ ML_law (10, 196, c0 + X, s0 + Y) 2563 [some (.ref sa), some (.ref p), some (.ref m), some (.ref (m + 12)), some (.ref (m + 13)), some (.int (nI i0)), none, none, none, none] [.int kk] h3 Q := by
    intro X Y h3 kk e1 e2 kk3
    have mC3' := ModC.mv e1 mC
    unfold ModC at mC3'
    have hsa3 := e2.trans hsa
    refine wp_istore (n := 2565) dL_law_2563 rfl rfl rfl rfl ?_
    refine wp_aload_n (n := 2566) dL_law_2565 rfl rfl ?_
    refine wp_aload_n (n := 2567) dL_law_2566 rfl rfl ?_
    refine wp_iload (n := 2569) dL_law_2567 rfl rfl ?_
    refine wp_iconst (n := 2570) (v := nI 1) dL_law_2569 rfl (by decide) ?_
    refine wp_iadd (n := 2571) dL_law_2570 rfl ?_
    refine wp_iald (n := 2572) (i0 + 1) dL_law_2571 rfl (by repeat first | assumption | exact ax_set_self _ _ _ | exact ax_newA_self _ _ _ | refine (ax_set_ne _ _ (by omega)).trans ?_ | refine (ax_newA_ne _ _ _ (by omega)).trans ?_) (by simp only [nI_zero, nI_mul, nI_add]) (by omega) (by omega) ?_
    refine wp_aload_n (n := 2573) dL_law_2572 rfl rfl ?_
    refine wp_iload (n := 2575) dL_law_2573 rfl rfl ?_
    refine wp_iconst (n := 2576) (v := nI 2) dL_law_2575 rfl (by decide) ?_
    refine wp_iadd (n := 2577) dL_law_2576 rfl ?_
    refine wp_iald (n := 2578) (i0 + 2) dL_law_2577 rfl (by repeat first | assumption | exact ax_set_self _ _ _ | exact ax_newA_self _ _ _ | refine (ax_set_ne _ _ (by omega)).trans ?_ | refine (ax_newA_ne _ _ _ (by omega)).trans ?_) (by simp only [nI_zero, nI_mul, nI_add]) (by omega) (by omega) ?_
    refine wp_callVs (n := 2581) (rm' := (2, 43, 0, 0)) (c0 := c0) (s0 := s0) rfl dL_law_2578 rfl mlL_295 [.int (S (i0 + 1)), .int (S (i0 + 2))] rfl rfl mC3' rfl rfl rfl (Nat.le_of_ble_eq_true rfl) rfl ?_
    exact kk3
  refine wp_aload_n (n := 2547) dL_law_2546 rfl rfl ?_
  refine wp_aload_n (n := 2548) dL_law_2547 rfl rfl ?_
  refine wp_iload (n := 2550) dL_law_2548 rfl rfl ?_
  refine wp_iconst (n := 2551) (v := nI 1) dL_law_2550 rfl (by decide) ?_
  refine wp_iadd (n := 2552) dL_law_2551 rfl ?_
  refine wp_iald (n := 2553) (i0 + 1) dL_law_2552 rfl (by repeat first | assumption | exact ax_set_self _ _ _ | exact ax_newA_self _ _ _ | refine (ax_set_ne _ _ (by omega)).trans ?_ | refine (ax_newA_ne _ _ _ (by omega)).trans ?_) (by simp only [nI_zero, nI_mul, nI_add]) (by omega) (by omega) ?_
  refine wp_aload_n (n := 2554) dL_law_2553 rfl rfl ?_
  refine wp_iload (n := 2556) dL_law_2554 rfl rfl ?_
  refine wp_iconst (n := 2557) (v := nI 2) dL_law_2556 rfl (by decide) ?_
  refine wp_iadd (n := 2558) dL_law_2557 rfl ?_
  refine wp_iald (n := 2559) (i0 + 2) dL_law_2558 rfl (by repeat first | assumption | exact ax_set_self _ _ _ | exact ax_newA_self _ _ _ | refine (ax_set_ne _ _ (by omega)).trans ?_ | refine (ax_newA_ne _ _ _ (by omega)).trans ?_) (by simp only [nI_zero, nI_mul, nI_add]) (by omega) (by omega) ?_
  refine wp_aload_n (n := 2560) dL_law_2559 rfl rfl ?_
  refine wp_callSH (n := 2563) (rm' := (8, 138, 2, 12)) (c0 := c0) (s0 := s0) (C := 20) (S := 4409) rfl dL_law_2560 rfl mwL_293 [.ref p, .int (S (i0 + 1)), .int (S (i0 + 2)), .ref (m + 12)] rfl rfl rfl rfl (Nat.le_of_ble_eq_true rfl) rfl ?_
  refine s_L_reservationValue hF' (by omega) ?_
  refine s_X9_reservationValue hF hL0 (by omega) (fun c1 n1 hn1 => ?_) (fun c1 c2 n1 hn1 => ?_) (fun i j hi hj ei ej => ?_)
  · refine Or.inr (Or.inr ⟨rfl, Or.inl ⟨rfl, ?_⟩⟩)
    show WP Γ _ _ _ _ _ _ _
    have B : Bet p m h h _ := Bet.n (p := p) ho hn1
    refine MC _ _ _ _ (B.1 _ (by omega)) (B.1 _ (by omega)) ?_
    refine s_X10_reservationValue (ModC.mv (B.1 _ (by omega)) mC) ((B.1 _ (by omega)).trans mR) hr0 hI0 (by omega) (by omega) (fun d1 h2 fr2 m2 => ?_) (fun d1 d2 h2 fr2 m2 => ?_) (fun i2 hi2 ei2 j2 hj2 hk2 ej2 h2 fr2 m2 => ?_)
    · show WP Γ _ _ _ _ _ _ _
      exact TE _ _ h2 _ _ (by decide) (fin_q hA hs0 hM0 hP0 c10 hm B fr2 ⟨_, _, _, _, _, _, m2⟩) ⟨_, _, _, _, _, _, _, m2⟩
    · exact absurd (c1.symm.trans d1) (by decide)
    · have d1 : inN (S (i0 + 1)) nh = true := by rw [ei2]; exact inN_of hi2 (by omega)
      have d2 : inI (S (i0 + 2)) 0 4 = true := by rw [ej2]; exact inI_of hj2 hk2 (by decide)
      exact absurd (c1.symm.trans d1) (by decide)
  · refine Or.inr (Or.inr ⟨rfl, Or.inr ⟨rfl, ?_⟩⟩)
    show WP Γ _ _ _ _ _ _ _
    have B : Bet p m h h _ := Bet.n (p := p) ho hn1
    have c2 := (inN_inI (n := 4) (by decide)).symm.trans c2
    refine MC _ _ _ _ (B.1 _ (by omega)) (B.1 _ (by omega)) ?_
    refine s_X10_reservationValue (ModC.mv (B.1 _ (by omega)) mC) ((B.1 _ (by omega)).trans mR) hr0 hI0 (by omega) (by omega) (fun d1 h2 fr2 m2 => ?_) (fun d1 d2 h2 fr2 m2 => ?_) (fun i2 hi2 ei2 j2 hj2 hk2 ej2 h2 fr2 m2 => ?_)
    · exact absurd (c1.symm.trans d1) (by decide)
    · show WP Γ _ _ _ _ _ _ _
      exact TE _ _ h2 _ _ (by decide) (fin_q hA hs0 hM0 hP0 c10 hm B fr2 ⟨_, _, _, _, _, _, m2⟩) ⟨_, _, _, _, _, _, _, m2⟩
    · have d1 : inN (S (i0 + 1)) nh = true := by rw [ei2]; exact inN_of hi2 (by omega)
      have d2 : inI (S (i0 + 2)) 0 4 = true := by rw [ej2]; exact inI_of hj2 hk2 (by decide)
      exact absurd (c2.symm.trans d2) (by decide)
  · refine ⟨fo, o1, fun fo1 hv => ?_⟩
    show WP Γ _ _ _ _ _ _ _
    have B : Bet p m h h _ := Bet.o fo1 ho hm (fun _ _ => rfl)
    have c1 : inN (S (i0 + 1)) nh = true := by rw [ei]; exact inN_of hi (by omega)
    have c2 : inI (S (i0 + 2)) 0 4 = true := by rw [ej]; exact inI_of (by omega) (by omega) (by decide)
    refine MC _ _ _ _ (B.1 _ (by omega)) (B.1 _ (by omega)) ?_
    refine s_X10_reservationValue (ModC.mv (B.1 _ (by omega)) mC) ((B.1 _ (by omega)).trans mR) hr0 hI0 (by omega) (by omega) (fun d1 h2 fr2 m2 => ?_) (fun d1 d2 h2 fr2 m2 => ?_) (fun i2 hi2 ei2 j2 hj2 hk2 ej2 h2 fr2 m2 => ?_)
    · exact absurd (c1.symm.trans d1) (by decide)
    · exact absurd (c2.symm.trans d2) (by decide)
    · have d1 : inN (S (i0 + 1)) nh = true := by rw [ei2]; exact inN_of hi2 (by omega)
      have d2 : inI (S (i0 + 2)) 0 4 = true := by rw [ej2]; exact inI_of hj2 hk2 (by decide)
      show WP Γ _ _ _ _ _ _ _
      obtain rfl : i = i2 := (nI_eq9 (by omega) (by omega)).mp (ei.symm.trans ei2)
      obtain rfl : j = j2 := (nI_eq9 (by omega) (by omega)).mp (ej.symm.trans ej2)
      exact TO _ _ h2 _ fo1 (fin_q hA hs0 hM0 hP0 c10 hm B fr2 ⟨_, _, _, _, _, _, m2⟩) ⟨_, _, _, _, _, _, _, m2⟩ ((fr2.2 _ (by omega)).trans (ax_set_self _ _ _)) hv
end
