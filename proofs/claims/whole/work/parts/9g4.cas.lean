/-! ===== the law: cases ===== -/
section
variable {Γ : GE} {h : AH} {Q : PO} {p m b D sa N len i0 c0 s0 np nb ne nh nc y : Nat} {er : Int32} {bs S : FI} {f : Nat → Option Nat} {KS : Nat → KL} {qu ra le ln pl tm rw hw cw : FI} {re : Nat → UInt32} {bk : Nat → Int64} {t : Int32}
theorem cs_wouldPick (hA : Γ.2.1 ≤ p) (hs : ScrP Γ h sa N S) (ho : OutP h m) (c1 : ClsP h p m b D er bs len f (mkK np qu ra re le ln nb pl tm ne rw bk nh hw nc cw t y) KS) (hP : PurP len f (mkK np qu ra re le ln nb pl tm ne rw bk nh hw nc cw t y) KS) (hM : ModP h m er bs len f (mkK np qu ra re le ln nb pl tm ne rw bk nh hw nc cw t y) KS) (hi : i0 + 5 ≤ N) (k : ∀ h', Sim Γ h' p m sa N S → WP Γ ML_law (10, 196, c0, s0) 3329 [some (.ref sa), some (.ref p), some (.ref m), some (.ref (m + 12)), some (.ref (m + 13)), some (.int (nI i0)), none, none, none, none] [] h' Q) : WP Γ ML_law (10, 196, c0 + 20, s0 + 4409) 1595 [some (.ref sa), some (.ref p), some (.ref m), some (.ref (m + 12)), some (.ref (m + 13)), some (.int (nI i0)), none, none, none, none] [] h Q := by
  have hs0 := hs
  have c10 := c1
  have hP0 := hP
  have hM0 := hM
  obtain ⟨hsa, hsl, hN, hfree⟩ := hs
  obtain ⟨⟨fo, o1⟩, fd, o2⟩ := ho
  obtain ⟨hF, hT, hR3, hBat, hSna, ⟨pk, hL⟩, hX, hbD, hm, hz, hsn, hap⟩ := c1
  obtain ⟨hlen, hI, hIS⟩ := hP
  obtain ⟨⟨th, at', bg, e9, ea, cm, mC⟩, ⟨R, mR, hr⟩, ⟨R2, mR2⟩, ⟨R3, mR3⟩, ⟨RE, mE, hre⟩, ⟨RA, mRA⟩, ⟨mpk, mP⟩, ⟨B, mB, hB⟩, ⟨CM, mK⟩, CC, CE, SV, mCC, mCE, mSV, hsv, hsr⟩ := hM
  have hI0 : Inv np qu ra re le ln nb pl tm ne rw bk nh hw nc cw t y := hI
  have hr0 : RowR R np qu ra re le ln nb pl tm ne rw bk nh hw nc cw t y := hr
  have hL0 : LedP h b np qu ra re le ln nb pl tm ne rw bk nh hw nc cw t y pk := hL
  have hre0 : ∀ j, j < np → RE j = re j := hre
  obtain ⟨⟨s1, s2, s3, s4, s5, s6, s7, s8, tn, s9, s10⟩, IM, IP, IJ, IR, IC⟩ := hI0
  have hI0 : Inv np qu ra re le ln nb pl tm ne rw bk nh hw nc cw t y := hI
  have hF' := hF
  unfold FacC at hF'
  have ho : OutP h m := ⟨⟨fo, o1⟩, fd, o2⟩
  have TE : ∀ (X Y : Nat) (h2 : AH) (kk : Int32) (v9 : Int32), ¬ kk = 0 → Sim Γ h2 p m sa N S → (∃ tl at' bg e9 ea lr cm, ModC h2 m (m + 1) kk tl at' bg e9 ea lr cm) → WP Γ ML_law (10, 196, c0 + X, s0 + Y) 1642 [some (.ref sa), some (.ref p), some (.ref m), some (.ref (m + 12)), some (.ref (m + 13)), some (.int (nI i0)), some (.int kk), none, none, none] [.int v9] h2 Q := by
    intro X Y h2 kk v9 hk hsim hm2
    obtain ⟨tl2, at2, bg2, e2, ea2, lr2, cm2, m2⟩ := hm2
    have m20 := m2
    unfold ModC at m2
    refine wp_istore (n := 1644) dL_law_1642 rfl rfl rfl rfl ?_
    refine wp_aload_n (n := 1645) dL_law_1644 rfl rfl ?_
    refine wp_callVs (n := 1648) (rm' := (0, 0, 0, 0)) (c0 := c0) (s0 := s0) rfl dL_law_1645 rfl mlL_156 [] rfl rfl m2 rfl rfl rfl (Nat.le_of_ble_eq_true rfl) rfl ?_
    refine s_X10_thrown m20 ?_
    show WP Γ _ _ _ _ _ _ _
    refine wp_iload (n := 1650) dL_law_1648 rfl rfl ?_
    refine wp_icmp_eq (t := 1655) (n := 1653) dL_law_1650 (by decide) rfl (fun hc => ?_) (fun hc => ?_)
    · refine wp_iload (n := 1657) dL_law_1655 rfl rfl ?_
      refine wp_if_ne (t := 1672) (n := 1660) dL_law_1657 (by decide) rfl (fun hq => ?_) (fun hq => ?_)
      · refine wp_goto (t := 3329) dL_law_1672 (by decide) ?_
        refine wp_lo (lo' := [some (.ref sa), some (.ref p), some (.ref m), some (.ref (m + 12)), some (.ref (m + 13)), some (.int (nI i0)), none, none, none, none]) (fun k v hk => ?_) ?_
        · match k, hk with
          | 0, hk => exact hk
          | 1, hk => exact hk
          | 2, hk => exact hk
          | 3, hk => exact hk
          | 4, hk => exact hk
          | 5, hk => exact hk
          | 6, hk => exact absurd hk (by simp [ax_gl])
          | 7, hk => exact absurd hk (by simp [ax_gl])
          | 8, hk => exact absurd hk (by simp [ax_gl])
          | 9, hk => exact absurd hk (by simp [ax_gl])
          | k + 10, hk => exact absurd hk (by simp [ax_gl])
        exact wp_big (rm := (10, 196, c0, s0)) (Nat.le_refl _) (Nat.le_refl _) (Nat.le_add_right _ _) (Nat.le_add_right _ _) (k h2 hsim)
      · exact absurd hq hk
    · exact absurd rfl hc
  have TO : ∀ (X Y : Nat) (h2 : AH) (r : Int32) (fo2 : Nat → Int64), Sim Γ h2 p m sa N S → (∃ tl at' bg e9 ea lr cm, ModC h2 m (m + 1) 0 tl at' bg e9 ea lr cm) → h2.2 (m + 12) = some (.inl (.long, 1, .inr (.inl fo2))) → fo2 0 = r.toInt64 → WP Γ ML_law (10, 196, c0 + X, s0 + Y) 1642 [some (.ref sa), some (.ref p), some (.ref m), some (.ref (m + 12)), some (.ref (m + 13)), some (.int (nI i0)), some (.int 0), none, none, none] [.int r] h2 Q := by
    intro X Y h2 r fo2 hsim hm2 ho2 hv2
    obtain ⟨tl2, at2, bg2, e2, ea2, lr2, cm2, m2⟩ := hm2
    have m20 := m2
    unfold ModC at m2
    have fin : ∀ l7 : Option Value, WP Γ ML_law (10, 196, c0 + (X - 0), s0 + (Y - 0)) 1672 [some (.ref sa), some (.ref p), some (.ref m), some (.ref (m + 12)), some (.ref (m + 13)), some (.int (nI i0)), some (.int 0), l7, none, none] [] h2 Q := by
      intro l7
      refine wp_goto (t := 3329) dL_law_1672 (by decide) ?_
      refine wp_lo (lo' := [some (.ref sa), some (.ref p), some (.ref m), some (.ref (m + 12)), some (.ref (m + 13)), some (.int (nI i0)), none, none, none, none]) (fun k v hk => ?_) ?_
      · match k, hk with
        | 0, hk => exact hk
        | 1, hk => exact hk
        | 2, hk => exact hk
        | 3, hk => exact hk
        | 4, hk => exact hk
        | 5, hk => exact hk
        | 6, hk => exact absurd hk (by simp [ax_gl])
        | 7, hk => exact absurd hk (by simp [ax_gl])
        | 8, hk => exact absurd hk (by simp [ax_gl])
        | 9, hk => exact absurd hk (by simp [ax_gl])
        | k + 10, hk => exact absurd hk (by simp [ax_gl])
      exact wp_big (rm := (10, 196, c0, s0)) (Nat.le_refl _) (Nat.le_refl _) (Nat.le_add_right _ _) (Nat.le_add_right _ _) (k h2 hsim)
    refine wp_istore (n := 1644) dL_law_1642 rfl rfl rfl rfl ?_
    refine wp_aload_n (n := 1645) dL_law_1644 rfl rfl ?_
    refine wp_callVs (n := 1648) (rm' := (0, 0, 0, 0)) (c0 := c0) (s0 := s0) rfl dL_law_1645 rfl mlL_156 [] rfl rfl m2 rfl rfl rfl (Nat.le_of_ble_eq_true rfl) rfl ?_
    refine s_X10_thrown m20 ?_
    show WP Γ _ _ _ _ _ _ _
    refine wp_iload (n := 1650) dL_law_1648 rfl rfl ?_
    refine wp_icmp_eq (t := 1655) (n := 1653) dL_law_1650 (by decide) rfl (fun hc => ?_) (fun hc => ?_)
    · refine wp_iload (n := 1657) dL_law_1655 rfl rfl ?_
      refine wp_if_ne (t := 1672) (n := 1660) dL_law_1657 (by decide) rfl (fun hq => ?_) (fun hq => ?_)
      · exact absurd rfl hq
      · refine wp_aload_n (n := 1661) dL_law_1660 rfl rfl ?_
        refine wp_iconst (n := 1662) (v := 0) dL_law_1661 rfl (by decide) ?_
        refine wp_lald (n := 1663) 0 dL_law_1662 rfl ho2 rfl (by omega) (by omega) ?_
        rw [hv2]
        refine wp_iload (n := 1665) dL_law_1663 rfl rfl ?_
        refine wp_i2l (n := 1666) dL_law_1665 rfl ?_
        refine wp_lcmp (n := 1667) dL_law_1666 rfl ?_
        rw [lg_self]
        refine wp_if_eq (t := 1672) (n := 1670) dL_law_1667 (by decide) rfl (fun hu => ?_) (fun hu => ?_)
        · exact fin _
        · exact absurd rfl hu
    · exact absurd rfl hc
  have MC : ∀ (X Y : Nat) (h3 : AH) (kk : Int32), h3.2 m = h.2 m → h3.2 sa = h.2 sa → WP Γ MX10_wouldPick (3, 73, 0, 0) 0 [some (.ref m), some (.int (S (i0 + 1))), some (.int (S (i0 + 2))), some (.int (S (i0 + 3))), none, none] [] h3 (ax_K Γ ML_law (10, 196, c0 + (X - 0), s0 + (Y - 0)) 1642 [some (.ref sa), some (.ref p), some (.ref m), some (.ref (m + 12)), some (.ref (m + 13)), some (.int (nI i0)), some (.int kk), none, none, none] [] Q) → WP Γ ML_law (10, 196, c0 + X, s0 + Y) 1618 [some (.ref sa), some (.ref p), some (.ref m), some (.ref (m + 12)), some (.ref (m + 13)), some (.int (nI i0)), none, none, none, none] [.int kk] h3 Q := by
    intro X Y h3 kk e1 e2 kk3
    have mC3' := ModC.mv e1 mC
    unfold ModC at mC3'
    have hsa3 := e2.trans hsa
    refine wp_istore (n := 1620) dL_law_1618 rfl rfl rfl rfl ?_
    refine wp_aload_n (n := 1621) dL_law_1620 rfl rfl ?_
    refine wp_aload_n (n := 1622) dL_law_1621 rfl rfl ?_
    refine wp_iload (n := 1624) dL_law_1622 rfl rfl ?_
    refine wp_iconst (n := 1625) (v := nI 1) dL_law_1624 rfl (by decide) ?_
    refine wp_iadd (n := 1626) dL_law_1625 rfl ?_
    refine wp_iald (n := 1627) (i0 + 1) dL_law_1626 rfl (by repeat first | assumption | exact ax_set_self _ _ _ | exact ax_newA_self _ _ _ | refine (ax_set_ne _ _ (by omega)).trans ?_ | refine (ax_newA_ne _ _ _ (by omega)).trans ?_) (by simp only [nI_zero, nI_mul, nI_add]) (by omega) (by omega) ?_
    refine wp_aload_n (n := 1628) dL_law_1627 rfl rfl ?_
    refine wp_iload (n := 1630) dL_law_1628 rfl rfl ?_
    refine wp_iconst (n := 1631) (v := nI 2) dL_law_1630 rfl (by decide) ?_
    refine wp_iadd (n := 1632) dL_law_1631 rfl ?_
    refine wp_iald (n := 1633) (i0 + 2) dL_law_1632 rfl (by repeat first | assumption | exact ax_set_self _ _ _ | exact ax_newA_self _ _ _ | refine (ax_set_ne _ _ (by omega)).trans ?_ | refine (ax_newA_ne _ _ _ (by omega)).trans ?_) (by simp only [nI_zero, nI_mul, nI_add]) (by omega) (by omega) ?_
    refine wp_aload_n (n := 1634) dL_law_1633 rfl rfl ?_
    refine wp_iload (n := 1636) dL_law_1634 rfl rfl ?_
    refine wp_iconst (n := 1637) (v := nI 3) dL_law_1636 rfl (by decide) ?_
    refine wp_iadd (n := 1638) dL_law_1637 rfl ?_
    refine wp_iald (n := 1639) (i0 + 3) dL_law_1638 rfl (by repeat first | assumption | exact ax_set_self _ _ _ | exact ax_newA_self _ _ _ | refine (ax_set_ne _ _ (by omega)).trans ?_ | refine (ax_newA_ne _ _ _ (by omega)).trans ?_) (by simp only [nI_zero, nI_mul, nI_add]) (by omega) (by omega) ?_
    refine wp_callVs (n := 1642) (rm' := (3, 73, 0, 0)) (c0 := c0) (s0 := s0) rfl dL_law_1639 rfl mlL_247 [.int (S (i0 + 1)), .int (S (i0 + 2)), .int (S (i0 + 3))] rfl rfl mC3' rfl rfl rfl (Nat.le_of_ble_eq_true rfl) rfl ?_
    exact kk3
  refine wp_aload_n (n := 1596) dL_law_1595 rfl rfl ?_
  refine wp_aload_n (n := 1597) dL_law_1596 rfl rfl ?_
  refine wp_iload (n := 1599) dL_law_1597 rfl rfl ?_
  refine wp_iconst (n := 1600) (v := nI 1) dL_law_1599 rfl (by decide) ?_
  refine wp_iadd (n := 1601) dL_law_1600 rfl ?_
  refine wp_iald (n := 1602) (i0 + 1) dL_law_1601 rfl (by repeat first | assumption | exact ax_set_self _ _ _ | exact ax_newA_self _ _ _ | refine (ax_set_ne _ _ (by omega)).trans ?_ | refine (ax_newA_ne _ _ _ (by omega)).trans ?_) (by simp only [nI_zero, nI_mul, nI_add]) (by omega) (by omega) ?_
  refine wp_aload_n (n := 1603) dL_law_1602 rfl rfl ?_
  refine wp_iload (n := 1605) dL_law_1603 rfl rfl ?_
  refine wp_iconst (n := 1606) (v := nI 2) dL_law_1605 rfl (by decide) ?_
  refine wp_iadd (n := 1607) dL_law_1606 rfl ?_
  refine wp_iald (n := 1608) (i0 + 2) dL_law_1607 rfl (by repeat first | assumption | exact ax_set_self _ _ _ | exact ax_newA_self _ _ _ | refine (ax_set_ne _ _ (by omega)).trans ?_ | refine (ax_newA_ne _ _ _ (by omega)).trans ?_) (by simp only [nI_zero, nI_mul, nI_add]) (by omega) (by omega) ?_
  refine wp_aload_n (n := 1609) dL_law_1608 rfl rfl ?_
  refine wp_iload (n := 1611) dL_law_1609 rfl rfl ?_
  refine wp_iconst (n := 1612) (v := nI 3) dL_law_1611 rfl (by decide) ?_
  refine wp_iadd (n := 1613) dL_law_1612 rfl ?_
  refine wp_iald (n := 1614) (i0 + 3) dL_law_1613 rfl (by repeat first | assumption | exact ax_set_self _ _ _ | exact ax_newA_self _ _ _ | refine (ax_set_ne _ _ (by omega)).trans ?_ | refine (ax_newA_ne _ _ _ (by omega)).trans ?_) (by simp only [nI_zero, nI_mul, nI_add]) (by omega) (by omega) ?_
  refine wp_aload_n (n := 1615) dL_law_1614 rfl rfl ?_
  refine wp_callSH (n := 1618) (rm' := (8, 139, 2, 12)) (c0 := c0) (s0 := s0) (C := 20) (S := 4409) rfl dL_law_1615 rfl mwL_245 [.ref p, .int (S (i0 + 1)), .int (S (i0 + 2)), .int (S (i0 + 3)), .ref (m + 12)] rfl rfl rfl rfl (Nat.le_of_ble_eq_true rfl) rfl ?_
  refine s_L_wouldPick hF' (by omega) ?_
  refine s_X9_wouldPick hF hL0 (by omega) (by omega) (by omega) (by omega) (by omega) (by omega) (by omega) (fun d hd => (IM d hd).2) (fun c1 n1 hn1 => ?_) (fun c1 c2 n1 hn1 => ?_) (fun j u hj ej hu0 hu1 eu hc => ?_) (fun j u hj ej hu0 hu1 eu hc h1 pk1 fr1 hpk hL1 => ?_)
  · refine Or.inr (Or.inr ⟨rfl, Or.inl ⟨rfl, ?_⟩⟩)
    show WP Γ _ _ _ _ _ _ _
    have B : Bet p m h h _ := Bet.n (p := p) ho hn1
    refine MC _ _ _ _ (B.1 _ (by omega)) (B.1 _ (by omega)) ?_
    refine s_X10_wouldPick (ModC.mv (B.1 _ (by omega)) mC) ((B.1 _ (by omega)).trans mR) hr0 hI0 (by omega) (by omega) ((B.1 _ (by omega)).trans mP) (by omega) (fun d1 h2 fr2 m2 => ?_) (fun d1 d2 h2 fr2 m2 => ?_) (fun j2 hj2 ej2 u2 hu02 hu12 eu2 hc2 h2 fr2 m2 => ?_) (fun j2 hj2 ej2 u2 hu02 hu12 eu2 hc2 hw0 h2 pk2 fz fr2 m2 p2 => ?_)
    · show WP Γ _ _ _ _ _ _ _
      exact TE _ _ h2 _ _ (by decide) (fin_q hA hs0 hM0 hP0 c10 hm B fr2 ⟨_, _, _, _, _, _, m2⟩) ⟨_, _, _, _, _, _, _, m2⟩
    · exact absurd (c1.symm.trans d1) (by decide)
    · have d1 : inN (S (i0 + 1)) np = true := by rw [ej2]; exact inN_of hj2 (by omega)
      have d2 : inI (S (i0 + 2)) 1 200 = true := by rw [eu2]; exact inI_of hu02 hu12 (by decide)
      exact absurd (c1.symm.trans d1) (by decide)
    · have d1 : inN (S (i0 + 1)) np = true := by rw [ej2]; exact inN_of hj2 (by omega)
      have d2 : inI (S (i0 + 2)) 1 200 = true := by rw [eu2]; exact inI_of hu02 hu12 (by decide)
      exact absurd (c1.symm.trans d1) (by decide)
  · refine Or.inr (Or.inr ⟨rfl, Or.inr ⟨rfl, ?_⟩⟩)
    show WP Γ _ _ _ _ _ _ _
    have B : Bet p m h h _ := Bet.n (p := p) ho hn1
    refine MC _ _ _ _ (B.1 _ (by omega)) (B.1 _ (by omega)) ?_
    refine s_X10_wouldPick (ModC.mv (B.1 _ (by omega)) mC) ((B.1 _ (by omega)).trans mR) hr0 hI0 (by omega) (by omega) ((B.1 _ (by omega)).trans mP) (by omega) (fun d1 h2 fr2 m2 => ?_) (fun d1 d2 h2 fr2 m2 => ?_) (fun j2 hj2 ej2 u2 hu02 hu12 eu2 hc2 h2 fr2 m2 => ?_) (fun j2 hj2 ej2 u2 hu02 hu12 eu2 hc2 hw0 h2 pk2 fz fr2 m2 p2 => ?_)
    · exact absurd (c1.symm.trans d1) (by decide)
    · show WP Γ _ _ _ _ _ _ _
      exact TE _ _ h2 _ _ (by decide) (fin_q hA hs0 hM0 hP0 c10 hm B fr2 ⟨_, _, _, _, _, _, m2⟩) ⟨_, _, _, _, _, _, _, m2⟩
    · have d1 : inN (S (i0 + 1)) np = true := by rw [ej2]; exact inN_of hj2 (by omega)
      have d2 : inI (S (i0 + 2)) 1 200 = true := by rw [eu2]; exact inI_of hu02 hu12 (by decide)
      exact absurd (c2.symm.trans d2) (by decide)
    · have d1 : inN (S (i0 + 1)) np = true := by rw [ej2]; exact inN_of hj2 (by omega)
      have d2 : inI (S (i0 + 2)) 1 200 = true := by rw [eu2]; exact inI_of hu02 hu12 (by decide)
      exact absurd (c2.symm.trans d2) (by decide)
  · refine ⟨fo, o1, fun fo1 hv => ?_⟩
    show WP Γ _ _ _ _ _ _ _
    have B : Bet p m h h _ := Bet.o fo1 ho hm (fun _ _ => rfl)
    have c1 : inN (S (i0 + 1)) np = true := by rw [ej]; exact inN_of hj (by omega)
    have c2 : inI (S (i0 + 2)) 1 200 = true := by rw [eu]; exact inI_of hu0 hu1 (by decide)
    refine MC _ _ _ _ (B.1 _ (by omega)) (B.1 _ (by omega)) ?_
    refine s_X10_wouldPick (ModC.mv (B.1 _ (by omega)) mC) ((B.1 _ (by omega)).trans mR) hr0 hI0 (by omega) (by omega) ((B.1 _ (by omega)).trans mP) (by omega) (fun d1 h2 fr2 m2 => ?_) (fun d1 d2 h2 fr2 m2 => ?_) (fun j2 hj2 ej2 u2 hu02 hu12 eu2 hc2 h2 fr2 m2 => ?_) (fun j2 hj2 ej2 u2 hu02 hu12 eu2 hc2 hw0 h2 pk2 fz fr2 m2 p2 => ?_)
    · exact absurd (c1.symm.trans d1) (by decide)
    · exact absurd (c2.symm.trans d2) (by decide)
    · have d1 : inN (S (i0 + 1)) np = true := by rw [ej2]; exact inN_of hj2 (by omega)
      have d2 : inI (S (i0 + 2)) 1 200 = true := by rw [eu2]; exact inI_of hu02 hu12 (by decide)
      show WP Γ _ _ _ _ _ _ _
      exact TO _ _ h2 _ fo1 (fin_q hA hs0 hM0 hP0 c10 hm B fr2 ⟨_, _, _, _, _, _, m2⟩) ⟨_, _, _, _, _, _, _, m2⟩ ((fr2.2 _ (by omega)).trans (ax_set_self _ _ _)) hv
    · have d1 : inN (S (i0 + 1)) np = true := by rw [ej2]; exact inN_of hj2 (by omega)
      have d2 : inI (S (i0 + 2)) 1 200 = true := by rw [eu2]; exact inI_of hu02 hu12 (by decide)
      obtain rfl : j = j2 := (nI_eq9 (by omega) (by omega)).mp (ej.symm.trans ej2)
      obtain rfl : u = u2 := (nI_eq9 (by omega) (by omega)).mp (eu.symm.trans eu2)
      omega
  · refine ⟨fo, ((fr1.2 _ (by omega)).trans o1), fun fo1 hv => ?_⟩
    show WP Γ _ _ _ _ _ _ _
    have B : Bet p m h h1 _ := Bet.o fo1 ho hm (fun c hc => fr1.2 c (by omega))
    have c1 : inN (S (i0 + 1)) np = true := by rw [ej]; exact inN_of hj (by omega)
    have c2 : inI (S (i0 + 2)) 1 200 = true := by rw [eu]; exact inI_of hu0 hu1 (by decide)
    refine MC _ _ _ _ (B.1 _ (by omega)) (B.1 _ (by omega)) ?_
    refine s_X10_wouldPick (ModC.mv (B.1 _ (by omega)) mC) ((B.1 _ (by omega)).trans mR) hr0 hI0 (by omega) (by omega) ((B.1 _ (by omega)).trans mP) (by omega) (fun d1 h2 fr2 m2 => ?_) (fun d1 d2 h2 fr2 m2 => ?_) (fun j2 hj2 ej2 u2 hu02 hu12 eu2 hc2 h2 fr2 m2 => ?_) (fun j2 hj2 ej2 u2 hu02 hu12 eu2 hc2 hw0 h2 pk2 fz fr2 m2 p2 => ?_)
    · exact absurd (c1.symm.trans d1) (by decide)
    · exact absurd (c2.symm.trans d2) (by decide)
    · have d1 : inN (S (i0 + 1)) np = true := by rw [ej2]; exact inN_of hj2 (by omega)
      have d2 : inI (S (i0 + 2)) 1 200 = true := by rw [eu2]; exact inI_of hu02 hu12 (by decide)
      show WP Γ _ _ _ _ _ _ _
      obtain rfl : j = j2 := (nI_eq9 (by omega) (by omega)).mp (ej.symm.trans ej2)
      obtain rfl : u = u2 := (nI_eq9 (by omega) (by omega)).mp (eu.symm.trans eu2)
      rcases hc2 with hc2 | hc2
      · omega
      · rw [nthR_neg hc2 nb 0 0 (by omega)] at hv
        exact TO _ _ h2 _ fo1 (fin_q hA hs0 hM0 hP0 (c10.led fr1 ⟨pk1, hL1⟩) hm B fr2 ⟨_, _, _, _, _, _, m2⟩) ⟨_, _, _, _, _, _, _, m2⟩ ((fr2.2 _ (by omega)).trans (ax_set_self _ _ _)) hv
    · have d1 : inN (S (i0 + 1)) np = true := by rw [ej2]; exact inN_of hj2 (by omega)
      have d2 : inI (S (i0 + 2)) 1 200 = true := by rw [eu2]; exact inI_of hu02 hu12 (by decide)
      show WP Γ _ _ _ _ _ _ _
      obtain rfl : j = j2 := (nI_eq9 (by omega) (by omega)).mp (ej.symm.trans ej2)
      obtain rfl : u = u2 := (nI_eq9 (by omega) (by omega)).mp (eu.symm.trans eu2)
      rw [nthR_congr (P' := selW y pl tm nb (nI j) u) nb 0 0 (fun d _ hd => by rw [hpk d (by omega)]; cases selW y pl tm nb (nI j) u d <;> rfl)] at hv
      exact TO _ _ h2 _ fo1 (fin_s hA hs0 hM0 hP0 (c10.led fr1 ⟨pk1, hL1⟩) hm B fz (fun c a _ _ b => fr2 c a b) ⟨_, _, _, _, _, _, m2⟩ ⟨R, (fr2 _ (by omega) (by omega)).trans ((B.1 _ (by omega)).trans mR), hr⟩ ⟨RE, (fr2 _ (by omega) (by omega)).trans ((B.1 _ (by omega)).trans mE), hre⟩ ⟨pk2, p2⟩) ⟨_, _, _, _, _, _, _, m2⟩ ((fr2 _ (by omega) (by omega)).trans (ax_set_self _ _ _)) hv
end
