/-! ===== the law: cases ===== -/
section
variable {Γ : GE} {h : AH} {Q : PO} {p m b D sa N len i0 c0 s0 np nb ne nh nc y : Nat} {er : Int32} {bs S : FI} {f : Nat → Option Nat} {KS : Nat → KL} {qu ra le ln pl tm rw hw cw : FI} {re : Nat → UInt32} {bk : Nat → Int64} {t : Int32}
theorem cs_setPick (hA : Γ.2.1 ≤ p) (hs : ScrP Γ h sa N S) (ho : OutP h m) (c1 : ClsP h p m b D er bs len f (mkK np qu ra re le ln nb pl tm ne rw bk nh hw nc cw t y) KS) (hP : PurP len f (mkK np qu ra re le ln nb pl tm ne rw bk nh hw nc cw t y) KS) (hM : ModP h m er bs len f (mkK np qu ra re le ln nb pl tm ne rw bk nh hw nc cw t y) KS) (hi : i0 + 5 ≤ N) (k : ∀ h', Sim Γ h' p m sa N S → WP Γ ML_law (10, 196, c0, s0) 3329 [some (.ref sa), some (.ref p), some (.ref m), some (.ref (m + 12)), some (.ref (m + 13)), some (.int (nI i0)), none, none, none, none] [] h' Q) : WP Γ ML_law (10, 196, c0 + 20, s0 + 4409) 542 [some (.ref sa), some (.ref p), some (.ref m), some (.ref (m + 12)), some (.ref (m + 13)), some (.int (nI i0)), none, none, none, none] [] h Q := by
  have hs0 := hs
  have c10 := c1
  have hP0 := hP
  have hM0 := hM
  obtain ⟨hsa, hsl, hN, hfree⟩ := hs
  obtain ⟨⟨fo, o1⟩, fd, o2⟩ := ho
  obtain ⟨hF, hT, hR3, hBat, hSna, ⟨pk, hL⟩, hX, hbD, hm, hz, hsn, hap⟩ := c1
  obtain ⟨hlen, hI, hIS⟩ := hP
  obtain ⟨⟨th, at', bg, e9, ea, cm, mC⟩, ⟨R, mR, hr⟩, ⟨R2, mR2⟩, ⟨R3, mR3⟩, ⟨RE, mE, hre⟩, ⟨RA, mRA⟩, ⟨mpk, mP⟩, ⟨B, mB, hB⟩, ⟨CM, mK⟩, CC, CE, SV, mCC, mCE, mSV, hsv, hsr⟩ := hM
  have hI0 : Inv np qu ra re le ln nb pl tm ne rw bk nh hw nc cw t y := hI
  have hr0 : RowR R np qu ra re le ln nb pl tm ne rw bk nh hw nc cw t y := hr
  have hL0 : LedP h b np qu ra re le ln nb pl tm ne rw bk nh hw nc cw t y pk := hL
  have hre0 : ∀ j, j < np → RE j = re j := hre
  obtain ⟨⟨s1, s2, s3, s4, s5, s6, s7, s8, tn, s9, s10⟩, IM, IP, IJ, IR, IC⟩ := hI0
  have hI0 : Inv np qu ra re le ln nb pl tm ne rw bk nh hw nc cw t y := hI
  have hF' := hF
  unfold FacC at hF'
  have ho : OutP h m := ⟨⟨fo, o1⟩, fd, o2⟩
  have TE : ∀ (X Y : Nat) (h2 : AH) (kk : Int32) (v9 : Int32), ¬ kk = 0 → Sim Γ h2 p m sa N S → (∃ tl at' bg e9 ea lr cm, ModC h2 m (m + 1) kk tl at' bg e9 ea lr cm) → WP Γ ML_law (10, 196, c0 + X, s0 + Y) 565 [some (.ref sa), some (.ref p), some (.ref m), some (.ref (m + 12)), some (.ref (m + 13)), some (.int (nI i0)), some (.int kk), none, none, none] [.int v9] h2 Q := by
    intro X Y h2 kk v9 hk hsim hm2
    obtain ⟨tl2, at2, bg2, e2, ea2, lr2, cm2, m2⟩ := hm2
    have m20 := m2
    unfold ModC at m2
    refine wp_istore (n := 567) dL_law_565 rfl rfl rfl rfl ?_
    refine wp_aload_n (n := 568) dL_law_567 rfl rfl ?_
    refine wp_callVs (n := 571) (rm' := (0, 0, 0, 0)) (c0 := c0) (s0 := s0) rfl dL_law_568 rfl mlL_156 [] rfl rfl m2 rfl rfl rfl (Nat.le_of_ble_eq_true rfl) rfl ?_
    refine s_X10_thrown m20 ?_
    show WP Γ _ _ _ _ _ _ _
    refine wp_iload (n := 573) dL_law_571 rfl rfl ?_
    refine wp_icmp_eq (t := 578) (n := 576) dL_law_573 (by decide) rfl (fun hc => ?_) (fun hc => ?_)
    · refine wp_iload (n := 580) dL_law_578 rfl rfl ?_
      refine wp_if_ne (t := 595) (n := 583) dL_law_580 (by decide) rfl (fun hq => ?_) (fun hq => ?_)
      · refine wp_goto (t := 3329) dL_law_595 (by decide) ?_
        refine wp_lo (lo' := [some (.ref sa), some (.ref p), some (.ref m), some (.ref (m + 12)), some (.ref (m + 13)), some (.int (nI i0)), none, none, none, none]) (fun k v hk => ?_) ?_
        · match k, hk with
          | 0, hk => exact hk
          | 1, hk => exact hk
          | 2, hk => exact hk
          | 3, hk => exact hk
          | 4, hk => exact hk
          | 5, hk => exact hk
          | 6, hk => exact absurd hk (by simp [ax_gl])
          | 7, hk => exact absurd hk (by simp [ax_gl])
          | 8, hk => exact absurd hk (by simp [ax_gl])
          | 9, hk => exact absurd hk (by simp [ax_gl])
          | k + 10, hk => exact absurd hk (by simp [ax_gl])
        exact wp_big (rm := (10, 196, c0, s0)) (Nat.le_refl _) (Nat.le_refl _) (Nat.le_add_right _ _) (Nat.le_add_right _ _) (k h2 hsim)
      · exact absurd hq hk
    · exact absurd rfl hc
  have TO : ∀ (X Y : Nat) (h2 : AH) (r : Int32) (fo2 : Nat → Int64), Sim Γ h2 p m sa N S → (∃ tl at' bg e9 ea lr cm, ModC h2 m (m + 1) 0 tl at' bg e9 ea lr cm) → h2.2 (m + 12) = some (.inl (.long, 1, .inr (.inl fo2))) → fo2 0 = r.toInt64 → WP Γ ML_law (10, 196, c0 + X, s0 + Y) 565 [some (.ref sa), some (.ref p), some (.ref m), some (.ref (m + 12)), some (.ref (m + 13)), some (.int (nI i0)), some (.int 0), none, none, none] [.int r] h2 Q := by
    intro X Y h2 r fo2 hsim hm2 ho2 hv2
    obtain ⟨tl2, at2, bg2, e2, ea2, lr2, cm2, m2⟩ := hm2
    have m20 := m2
    unfold ModC at m2
    have fin : ∀ l7 : Option Value, WP Γ ML_law (10, 196, c0 + (X - 0), s0 + (Y - 0)) 595 [some (.ref sa), some (.ref p), some (.ref m), some (.ref (m + 12)), some (.ref (m + 13)), some (.int (nI i0)), some (.int 0), l7, none, none] [] h2 Q := by
      intro l7
      refine wp_goto (t := 3329) dL_law_595 (by decide) ?_
      refine wp_lo (lo' := [some (.ref sa), some (.ref p), some (.ref m), some (.ref (m + 12)), some (.ref (m + 13)), some (.int (nI i0)), none, none, none, none]) (fun k v hk => ?_) ?_
      · match k, hk with
        | 0, hk => exact hk
        | 1, hk => exact hk
        | 2, hk => exact hk
        | 3, hk => exact hk
        | 4, hk => exact hk
        | 5, hk => exact hk
        | 6, hk => exact absurd hk (by simp [ax_gl])
        | 7, hk => exact absurd hk (by simp [ax_gl])
        | 8, hk => exact absurd hk (by simp [ax_gl])
        | 9, hk => exact absurd hk (by simp [ax_gl])
        | k + 10, hk => exact absurd hk (by simp [ax_gl])
      exact wp_big (rm := (10, 196, c0, s0)) (Nat.le_refl _) (Nat.le_refl _) (Nat.le_add_right _ _) (Nat.le_add_right _ _) (k h2 hsim)
    refine wp_istore (n := 567) dL_law_565 rfl rfl rfl rfl ?_
    refine wp_aload_n (n := 568) dL_law_567 rfl rfl ?_
    refine wp_callVs (n := 571) (rm' := (0, 0, 0, 0)) (c0 := c0) (s0 := s0) rfl dL_law_568 rfl mlL_156 [] rfl rfl m2 rfl rfl rfl (Nat.le_of_ble_eq_true rfl) rfl ?_
    refine s_X10_thrown m20 ?_
    show WP Γ _ _ _ _ _ _ _
    refine wp_iload (n := 573) dL_law_571 rfl rfl ?_
    refine wp_icmp_eq (t := 578) (n := 576) dL_law_573 (by decide) rfl (fun hc => ?_) (fun hc => ?_)
    · refine wp_iload (n := 580) dL_law_578 rfl rfl ?_
      refine wp_if_ne (t := 595) (n := 583) dL_law_580 (by decide) rfl (fun hq => ?_) (fun hq => ?_)
      · exact absurd rfl hq
      · refine wp_aload_n (n := 584) dL_law_583 rfl rfl ?_
        refine wp_iconst (n := 585) (v := 0) dL_law_584 rfl (by decide) ?_
        refine wp_lald (n := 586) 0 dL_law_585 rfl ho2 rfl (by omega) (by omega) ?_
        rw [hv2]
        refine wp_iload (n := 588) dL_law_586 rfl rfl ?_
        refine wp_i2l (n := 589) dL_law_588 rfl ?_
        refine wp_lcmp (n := 590) dL_law_589 rfl ?_
        rw [lg_self]
        refine wp_if_eq (t := 595) (n := 593) dL_law_590 (by decide) rfl (fun hu => ?_) (fun hu => ?_)
        · exact fin _
        · exact absurd rfl hu
    · exact absurd rfl hc
  have MC : ∀ (X Y : Nat) (h3 : AH) (kk : Int32), h3.2 m = h.2 m → h3.2 sa = h.2 sa → WP Γ MX10_setPick (1, 22, 0, 0) 0 [some (.ref m), some (.int (S (i0 + 1))), none] [] h3 (ax_K Γ ML_law (10, 196, c0 + (X - 0), s0 + (Y - 0)) 565 [some (.ref sa), some (.ref p), some (.ref m), some (.ref (m + 12)), some (.ref (m + 13)), some (.int (nI i0)), some (.int kk), none, none, none] [] Q) → WP Γ ML_law (10, 196, c0 + X, s0 + Y) 553 [some (.ref sa), some (.ref p), some (.ref m), some (.ref (m + 12)), some (.ref (m + 13)), some (.int (nI i0)), none, none, none, none] [.int kk] h3 Q := by
    intro X Y h3 kk e1 e2 kk3
    have mC3' := ModC.mv e1 mC
    unfold ModC at mC3'
    have hsa3 := e2.trans hsa
    refine wp_istore (n := 555) dL_law_553 rfl rfl rfl rfl ?_
    refine wp_aload_n (n := 556) dL_law_555 rfl rfl ?_
    refine wp_aload_n (n := 557) dL_law_556 rfl rfl ?_
    refine wp_iload (n := 559) dL_law_557 rfl rfl ?_
    refine wp_iconst (n := 560) (v := nI 1) dL_law_559 rfl (by decide) ?_
    refine wp_iadd (n := 561) dL_law_560 rfl ?_
    refine wp_iald (n := 562) (i0 + 1) dL_law_561 rfl (by repeat first | assumption | exact ax_set_self _ _ _ | exact ax_newA_self _ _ _ | refine (ax_set_ne _ _ (by omega)).trans ?_ | refine (ax_newA_ne _ _ _ (by omega)).trans ?_) (by simp only [nI_zero, nI_mul, nI_add]) (by omega) (by omega) ?_
    refine wp_callVs (n := 565) (rm' := (1, 22, 0, 0)) (c0 := c0) (s0 := s0) rfl dL_law_562 rfl mlL_193 [.int (S (i0 + 1))] rfl rfl mC3' rfl rfl rfl (Nat.le_of_ble_eq_true rfl) rfl ?_
    exact kk3
  refine wp_aload_n (n := 543) dL_law_542 rfl rfl ?_
  refine wp_aload_n (n := 544) dL_law_543 rfl rfl ?_
  refine wp_iload (n := 546) dL_law_544 rfl rfl ?_
  refine wp_iconst (n := 547) (v := nI 1) dL_law_546 rfl (by decide) ?_
  refine wp_iadd (n := 548) dL_law_547 rfl ?_
  refine wp_iald (n := 549) (i0 + 1) dL_law_548 rfl (by repeat first | assumption | exact ax_set_self _ _ _ | exact ax_newA_self _ _ _ | refine (ax_set_ne _ _ (by omega)).trans ?_ | refine (ax_newA_ne _ _ _ (by omega)).trans ?_) (by simp only [nI_zero, nI_mul, nI_add]) (by omega) (by omega) ?_
  refine wp_aload_n (n := 550) dL_law_549 rfl rfl ?_
  refine wp_callSH (n := 553) (rm' := (7, 117, 1, 6)) (c0 := c0) (s0 := s0) (C := 20) (S := 4409) rfl dL_law_550 rfl mwL_191 [.ref p, .int (S (i0 + 1)), .ref (m + 12)] rfl rfl rfl rfl (Nat.le_of_ble_eq_true rfl) rfl ?_
  refine s_L_setPick hF' (by omega) ?_
  refine s_X9_setPick hF hL0 (by omega) (fun c1 n1 hn1 => ?_) (fun u h1 hu eu fr1 hL1 => ?_)
  · refine Or.inl ⟨rfl, rfl, ?_⟩
    show WP Γ _ _ _ _ _ _ _
    have B : Bet p m h h _ := Bet.n (p := p) ho hn1
    refine MC _ _ _ _ (B.1 _ (by omega)) (B.1 _ (by omega)) ?_
    refine s_X10_setPick (ModC.mv (B.1 _ (by omega)) mC) ((B.1 _ (by omega)).trans mR) hr0 (by omega) (by omega) (by omega) (fun d1 h2 fr2 m2 => ?_) (fun u2 hu2 eu2 h2 R9 fz fr2 m2 r9 hr9 => ?_)
    · show WP Γ _ _ _ _ _ _ _
      exact TE _ _ h2 _ _ (by decide) (fin_q hA hs0 hM0 hP0 c10 hm B fr2 ⟨_, _, _, _, _, _, m2⟩) ⟨_, _, _, _, _, _, _, m2⟩
    · have d1 : inI (S (i0 + 1)) 0 3 = true := by rw [eu2]; exact inI_of (by omega) hu2 (by decide)
      exact absurd (c1.symm.trans d1) (by decide)
  · refine ⟨fo, ((fr1.2 _ (by omega)).trans o1), fun fo1 hv => ?_⟩
    show WP Γ _ _ _ _ _ _ _
    have B : Bet p m h h1 _ := Bet.o fo1 ho hm (fun c hc => fr1.2 c (by omega))
    have c1 : inI (S (i0 + 1)) 0 3 = true := by rw [eu]; exact inI_of (by omega) hu (by decide)
    refine MC _ _ _ _ (B.1 _ (by omega)) (B.1 _ (by omega)) ?_
    refine s_X10_setPick (ModC.mv (B.1 _ (by omega)) mC) ((B.1 _ (by omega)).trans mR) hr0 (by omega) (by omega) (by omega) (fun d1 h2 fr2 m2 => ?_) (fun u2 hu2 eu2 h2 R9 fz fr2 m2 r9 hr9 => ?_)
    · exact absurd (c1.symm.trans d1) (by decide)
    · have d1 : inI (S (i0 + 1)) 0 3 = true := by rw [eu2]; exact inI_of (by omega) hu2 (by decide)
      show WP Γ _ _ _ _ _ _ _
      obtain rfl : u = u2 := (nI_eq9 (by omega) (by omega)).mp (eu.symm.trans eu2)
      exact TO _ _ h2 _ fo1 (fin_s (K' := mkK np qu ra re le ln nb pl tm ne rw bk nh hw nc cw t u) hA hs0 hM0 ⟨hlen, hI0.way hu, hIS⟩ (c10.led fr1 ⟨pk, hL1⟩) hm B fz (fun c a b _ _ => fr2 c a b) ⟨_, _, _, _, _, _, m2⟩ ⟨R9, r9, hr9⟩ ⟨RE, (fr2 _ (by omega) (by omega)).trans ((B.1 _ (by omega)).trans mE), hre0⟩ ⟨mpk, (fr2 _ (by omega) (by omega)).trans ((B.1 _ (by omega)).trans mP)⟩) ⟨_, _, _, _, _, _, _, m2⟩ ((fr2 _ (by omega) (by omega)).trans (ax_set_self _ _ _)) hv
theorem cs_transfer (hA : Γ.2.1 ≤ p) (hs : ScrP Γ h sa N S) (ho : OutP h m) (c1 : ClsP h p m b D er bs len f (mkK np qu ra re le ln nb pl tm ne rw bk nh hw nc cw t y) KS) (hP : PurP len f (mkK np qu ra re le ln nb pl tm ne rw bk nh hw nc cw t y) KS) (hM : ModP h m er bs len f (mkK np qu ra re le ln nb pl tm ne rw bk nh hw nc cw t y) KS) (hi : i0 + 5 ≤ N) (k : ∀ h', Sim Γ h' p m sa N S → WP Γ ML_law (10, 196, c0, s0) 3329 [some (.ref sa), some (.ref p), some (.ref m), some (.ref (m + 12)), some (.ref (m + 13)), some (.int (nI i0)), none, none, none, none] [] h' Q) : WP Γ ML_law (10, 196, c0 + 20, s0 + 4409) 598 [some (.ref sa), some (.ref p), some (.ref m), some (.ref (m + 12)), some (.ref (m + 13)), some (.int (nI i0)), none, none, none, none] [] h Q := by
  have hs0 := hs
  have c10 := c1
  have hP0 := hP
  have hM0 := hM
  obtain ⟨hsa, hsl, hN, hfree⟩ := hs
  obtain ⟨⟨fo, o1⟩, fd, o2⟩ := ho
  obtain ⟨hF, hT, hR3, hBat, hSna, ⟨pk, hL⟩, hX, hbD, hm, hz, hsn, hap⟩ := c1
  obtain ⟨hlen, hI, hIS⟩ := hP
  obtain ⟨⟨th, at', bg, e9, ea, cm, mC⟩, ⟨R, mR, hr⟩, ⟨R2, mR2⟩, ⟨R3, mR3⟩, ⟨RE, mE, hre⟩, ⟨RA, mRA⟩, ⟨mpk, mP⟩, ⟨B, mB, hB⟩, ⟨CM, mK⟩, CC, CE, SV, mCC, mCE, mSV, hsv, hsr⟩ := hM
  have hI0 : Inv np qu ra re le ln nb pl tm ne rw bk nh hw nc cw t y := hI
  have hr0 : RowR R np qu ra re le ln nb pl tm ne rw bk nh hw nc cw t y := hr
  have hL0 : LedP h b np qu ra re le ln nb pl tm ne rw bk nh hw nc cw t y pk := hL
  have hre0 : ∀ j, j < np → RE j = re j := hre
  obtain ⟨⟨s1, s2, s3, s4, s5, s6, s7, s8, tn, s9, s10⟩, IM, IP, IJ, IR, IC⟩ := hI0
  have hI0 : Inv np qu ra re le ln nb pl tm ne rw bk nh hw nc cw t y := hI
  have hF' := hF
  unfold FacC at hF'
  have ho : OutP h m := ⟨⟨fo, o1⟩, fd, o2⟩
  have TE : ∀ (X Y : Nat) (h2 : AH) (kk : Int32) (v9 : Int32), ¬ kk = 0 → Sim Γ h2 p m sa N S → (∃ tl at' bg e9 ea lr cm, ModC h2 m (m + 1) kk tl at' bg e9 ea lr cm) → WP Γ ML_law (10, 196, c0 + X, s0 + Y) 657 [some (.ref sa), some (.ref p), some (.ref m), some (.ref (m + 12)), some (.ref (m + 13)), some (.int (nI i0)), some (.int kk), none, none, none] [.int v9] h2 Q := by
    intro X Y h2 kk v9 hk hsim hm2
    obtain ⟨tl2, at2, bg2, e2, ea2, lr2, cm2, m2⟩ := hm2
    have m20 := m2
    unfold ModC at m2
    refine wp_istore (n := 659) dL_law_657 rfl rfl rfl rfl ?_
    refine wp_aload_n (n := 660) dL_law_659 rfl rfl ?_
    refine wp_callVs (n := 663) (rm' := (0, 0, 0, 0)) (c0 := c0) (s0 := s0) rfl dL_law_660 rfl mlL_156 [] rfl rfl m2 rfl rfl rfl (Nat.le_of_ble_eq_true rfl) rfl ?_
    refine s_X10_thrown m20 ?_
    show WP Γ _ _ _ _ _ _ _
    refine wp_iload (n := 665) dL_law_663 rfl rfl ?_
    refine wp_icmp_eq (t := 670) (n := 668) dL_law_665 (by decide) rfl (fun hc => ?_) (fun hc => ?_)
    · refine wp_iload (n := 672) dL_law_670 rfl rfl ?_
      refine wp_if_ne (t := 687) (n := 675) dL_law_672 (by decide) rfl (fun hq => ?_) (fun hq => ?_)
      · refine wp_goto (t := 3329) dL_law_687 (by decide) ?_
        refine wp_lo (lo' := [some (.ref sa), some (.ref p), some (.ref m), some (.ref (m + 12)), some (.ref (m + 13)), some (.int (nI i0)), none, none, none, none]) (fun k v hk => ?_) ?_
        · match k, hk with
          | 0, hk => exact hk
          | 1, hk => exact hk
          | 2, hk => exact hk
          | 3, hk => exact hk
          | 4, hk => exact hk
          | 5, hk => exact hk
          | 6, hk => exact absurd hk (by simp [ax_gl])
          | 7, hk => exact absurd hk (by simp [ax_gl])
          | 8, hk => exact absurd hk (by simp [ax_gl])
          | 9, hk => exact absurd hk (by simp [ax_gl])
          | k + 10, hk => exact absurd hk (by simp [ax_gl])
        exact wp_big (rm := (10, 196, c0, s0)) (Nat.le_refl _) (Nat.le_refl _) (Nat.le_add_right _ _) (Nat.le_add_right _ _) (k h2 hsim)
      · exact absurd hq hk
    · exact absurd rfl hc
  have TO : ∀ (X Y : Nat) (h2 : AH) (r : Int32) (fo2 : Nat → Int64), Sim Γ h2 p m sa N S → (∃ tl at' bg e9 ea lr cm, ModC h2 m (m + 1) 0 tl at' bg e9 ea lr cm) → h2.2 (m + 12) = some (.inl (.long, 1, .inr (.inl fo2))) → fo2 0 = r.toInt64 → WP Γ ML_law (10, 196, c0 + X, s0 + Y) 657 [some (.ref sa), some (.ref p), some (.ref m), some (.ref (m + 12)), some (.ref (m + 13)), some (.int (nI i0)), some (.int 0), none, none, none] [.int r] h2 Q := by
    intro X Y h2 r fo2 hsim hm2 ho2 hv2
    obtain ⟨tl2, at2, bg2, e2, ea2, lr2, cm2, m2⟩ := hm2
    have m20 := m2
    unfold ModC at m2
    have fin : ∀ l7 : Option Value, WP Γ ML_law (10, 196, c0 + (X - 0), s0 + (Y - 0)) 687 [some (.ref sa), some (.ref p), some (.ref m), some (.ref (m + 12)), some (.ref (m + 13)), some (.int (nI i0)), some (.int 0), l7, none, none] [] h2 Q := by
      intro l7
      refine wp_goto (t := 3329) dL_law_687 (by decide) ?_
      refine wp_lo (lo' := [some (.ref sa), some (.ref p), some (.ref m), some (.ref (m + 12)), some (.ref (m + 13)), some (.int (nI i0)), none, none, none, none]) (fun k v hk => ?_) ?_
      · match k, hk with
        | 0, hk => exact hk
        | 1, hk => exact hk
        | 2, hk => exact hk
        | 3, hk => exact hk
        | 4, hk => exact hk
        | 5, hk => exact hk
        | 6, hk => exact absurd hk (by simp [ax_gl])
        | 7, hk => exact absurd hk (by simp [ax_gl])
        | 8, hk => exact absurd hk (by simp [ax_gl])
        | 9, hk => exact absurd hk (by simp [ax_gl])
        | k + 10, hk => exact absurd hk (by simp [ax_gl])
      exact wp_big (rm := (10, 196, c0, s0)) (Nat.le_refl _) (Nat.le_refl _) (Nat.le_add_right _ _) (Nat.le_add_right _ _) (k h2 hsim)
    refine wp_istore (n := 659) dL_law_657 rfl rfl rfl rfl ?_
    refine wp_aload_n (n := 660) dL_law_659 rfl rfl ?_
    refine wp_callVs (n := 663) (rm' := (0, 0, 0, 0)) (c0 := c0) (s0 := s0) rfl dL_law_660 rfl mlL_156 [] rfl rfl m2 rfl rfl rfl (Nat.le_of_ble_eq_true rfl) rfl ?_
    refine s_X10_thrown m20 ?_
    show WP Γ _ _ _ _ _ _ _
    refine wp_iload (n := 665) dL_law_663 rfl rfl ?_
    refine wp_icmp_eq (t := 670) (n := 668) dL_law_665 (by decide) rfl (fun hc => ?_) (fun hc => ?_)
    · refine wp_iload (n := 672) dL_law_670 rfl rfl ?_
      refine wp_if_ne (t := 687) (n := 675) dL_law_672 (by decide) rfl (fun hq => ?_) (fun hq => ?_)
      · exact absurd rfl hq
      · refine wp_aload_n (n := 676) dL_law_675 rfl rfl ?_
        refine wp_iconst (n := 677) (v := 0) dL_law_676 rfl (by decide) ?_
        refine wp_lald (n := 678) 0 dL_law_677 rfl ho2 rfl (by omega) (by omega) ?_
        rw [hv2]
        refine wp_iload (n := 680) dL_law_678 rfl rfl ?_
        refine wp_i2l (n := 681) dL_law_680 rfl ?_
        refine wp_lcmp (n := 682) dL_law_681 rfl ?_
        rw [lg_self]
        refine wp_if_eq (t := 687) (n := 685) dL_law_682 (by decide) rfl (fun hu => ?_) (fun hu => ?_)
        · exact fin _
        · exact absurd rfl hu
    · exact absurd rfl hc
  have MC : ∀ (X Y : Nat) (h3 : AH) (kk : Int32), h3.2 m = h.2 m → h3.2 sa = h.2 sa → WP Γ MX10_transfer (5, 115, 0, 0) 0 [some (.ref m), some (.int (S (i0 + 1))), some (.int (S (i0 + 2))), some (.int (S (i0 + 3))), some (.int (S (i0 + 4)))] [] h3 (ax_K Γ ML_law (10, 196, c0 + (X - 0), s0 + (Y - 0)) 657 [some (.ref sa), some (.ref p), some (.ref m), some (.ref (m + 12)), some (.ref (m + 13)), some (.int (nI i0)), some (.int kk), none, none, none] [] Q) → WP Γ ML_law (10, 196, c0 + X, s0 + Y) 627 [some (.ref sa), some (.ref p), some (.ref m), some (.ref (m + 12)), some (.ref (m + 13)), some (.int (nI i0)), none, none, none, none] [.int kk] h3 Q := by
    intro X Y h3 kk e1 e2 kk3
    have mC3' := ModC.mv e1 mC
    unfold ModC at mC3'
    have hsa3 := e2.trans hsa
    refine wp_istore (n := 629) dL_law_627 rfl rfl rfl rfl ?_
    refine wp_aload_n (n := 630) dL_law_629 rfl rfl ?_
    refine wp_aload_n (n := 631) dL_law_630 rfl rfl ?_
    refine wp_iload (n := 633) dL_law_631 rfl rfl ?_
    refine wp_iconst (n := 634) (v := nI 1) dL_law_633 rfl (by decide) ?_
    refine wp_iadd (n := 635) dL_law_634 rfl ?_
    refine wp_iald (n := 636) (i0 + 1) dL_law_635 rfl (by repeat first | assumption | exact ax_set_self _ _ _ | exact ax_newA_self _ _ _ | refine (ax_set_ne _ _ (by omega)).trans ?_ | refine (ax_newA_ne _ _ _ (by omega)).trans ?_) (by simp only [nI_zero, nI_mul, nI_add]) (by omega) (by omega) ?_
    refine wp_aload_n (n := 637) dL_law_636 rfl rfl ?_
    refine wp_iload (n := 639) dL_law_637 rfl rfl ?_
    refine wp_iconst (n := 640) (v := nI 2) dL_law_639 rfl (by decide) ?_
    refine wp_iadd (n := 641) dL_law_640 rfl ?_
    refine wp_iald (n := 642) (i0 + 2) dL_law_641 rfl (by repeat first | assumption | exact ax_set_self _ _ _ | exact ax_newA_self _ _ _ | refine (ax_set_ne _ _ (by omega)).trans ?_ | refine (ax_newA_ne _ _ _ (by omega)).trans ?_) (by simp only [nI_zero, nI_mul, nI_add]) (by omega) (by omega) ?_
    refine wp_aload_n (n := 643) dL_law_642 rfl rfl ?_
    refine wp_iload (n := 645) dL_law_643 rfl rfl ?_
    refine wp_iconst (n := 646) (v := nI 3) dL_law_645 rfl (by decide) ?_
    refine wp_iadd (n := 647) dL_law_646 rfl ?_
    refine wp_iald (n := 648) (i0 + 3) dL_law_647 rfl (by repeat first | assumption | exact ax_set_self _ _ _ | exact ax_newA_self _ _ _ | refine (ax_set_ne _ _ (by omega)).trans ?_ | refine (ax_newA_ne _ _ _ (by omega)).trans ?_) (by simp only [nI_zero, nI_mul, nI_add]) (by omega) (by omega) ?_
    refine wp_aload_n (n := 649) dL_law_648 rfl rfl ?_
    refine wp_iload (n := 651) dL_law_649 rfl rfl ?_
    refine wp_iconst (n := 652) (v := nI 4) dL_law_651 rfl (by decide) ?_
    refine wp_iadd (n := 653) dL_law_652 rfl ?_
    refine wp_iald (n := 654) (i0 + 4) dL_law_653 rfl (by repeat first | assumption | exact ax_set_self _ _ _ | exact ax_newA_self _ _ _ | refine (ax_set_ne _ _ (by omega)).trans ?_ | refine (ax_newA_ne _ _ _ (by omega)).trans ?_) (by simp only [nI_zero, nI_mul, nI_add]) (by omega) (by omega) ?_
    refine wp_callVs (n := 657) (rm' := (5, 115, 0, 0)) (c0 := c0) (s0 := s0) rfl dL_law_654 rfl mlL_197 [.int (S (i0 + 1)), .int (S (i0 + 2)), .int (S (i0 + 3)), .int (S (i0 + 4))] rfl rfl mC3' rfl rfl rfl (Nat.le_of_ble_eq_true rfl) rfl ?_
    exact kk3
  refine wp_aload_n (n := 599) dL_law_598 rfl rfl ?_
  refine wp_aload_n (n := 600) dL_law_599 rfl rfl ?_
  refine wp_iload (n := 602) dL_law_600 rfl rfl ?_
  refine wp_iconst (n := 603) (v := nI 1) dL_law_602 rfl (by decide) ?_
  refine wp_iadd (n := 604) dL_law_603 rfl ?_
  refine wp_iald (n := 605) (i0 + 1) dL_law_604 rfl (by repeat first | assumption | exact ax_set_self _ _ _ | exact ax_newA_self _ _ _ | refine (ax_set_ne _ _ (by omega)).trans ?_ | refine (ax_newA_ne _ _ _ (by omega)).trans ?_) (by simp only [nI_zero, nI_mul, nI_add]) (by omega) (by omega) ?_
  refine wp_aload_n (n := 606) dL_law_605 rfl rfl ?_
  refine wp_iload (n := 608) dL_law_606 rfl rfl ?_
  refine wp_iconst (n := 609) (v := nI 2) dL_law_608 rfl (by decide) ?_
  refine wp_iadd (n := 610) dL_law_609 rfl ?_
  refine wp_iald (n := 611) (i0 + 2) dL_law_610 rfl (by repeat first | assumption | exact ax_set_self _ _ _ | exact ax_newA_self _ _ _ | refine (ax_set_ne _ _ (by omega)).trans ?_ | refine (ax_newA_ne _ _ _ (by omega)).trans ?_) (by simp only [nI_zero, nI_mul, nI_add]) (by omega) (by omega) ?_
  refine wp_aload_n (n := 612) dL_law_611 rfl rfl ?_
  refine wp_iload (n := 614) dL_law_612 rfl rfl ?_
  refine wp_iconst (n := 615) (v := nI 3) dL_law_614 rfl (by decide) ?_
  refine wp_iadd (n := 616) dL_law_615 rfl ?_
  refine wp_iald (n := 617) (i0 + 3) dL_law_616 rfl (by repeat first | assumption | exact ax_set_self _ _ _ | exact ax_newA_self _ _ _ | refine (ax_set_ne _ _ (by omega)).trans ?_ | refine (ax_newA_ne _ _ _ (by omega)).trans ?_) (by simp only [nI_zero, nI_mul, nI_add]) (by omega) (by omega) ?_
  refine wp_aload_n (n := 618) dL_law_617 rfl rfl ?_
  refine wp_iload (n := 620) dL_law_618 rfl rfl ?_
  refine wp_iconst (n := 621) (v := nI 4) dL_law_620 rfl (by decide) ?_
  refine wp_iadd (n := 622) dL_law_621 rfl ?_
  refine wp_iald (n := 623) (i0 + 4) dL_law_622 rfl (by repeat first | assumption | exact ax_set_self _ _ _ | exact ax_newA_self _ _ _ | refine (ax_set_ne _ _ (by omega)).trans ?_ | refine (ax_newA_ne _ _ _ (by omega)).trans ?_) (by simp only [nI_zero, nI_mul, nI_add]) (by omega) (by omega) ?_
  refine wp_aload_n (n := 624) dL_law_623 rfl rfl ?_
  refine wp_callSH (n := 627) (rm' := (9, 162, 5, 30)) (c0 := c0) (s0 := s0) (C := 20) (S := 4409) rfl dL_law_624 rfl mwL_194 [.ref p, .int (S (i0 + 1)), .int (S (i0 + 2)), .int (S (i0 + 3)), .int (S (i0 + 4)), .ref (m + 12)] rfl rfl rfl rfl (Nat.le_of_ble_eq_true rfl) rfl ?_
  refine s_L_transfer hF' (by omega) ?_
  refine s_X9_transfer hF hL0 (by omega) (by omega) (by omega) (by omega) (by omega) (by omega) (fun d hd => (IM d hd).2) (fun c1 n1 hn1 => ?_) (fun c1 c2 n1 hn1 => ?_) (fun i j u hi hj ei ej hij hu0 hu1 eu hv9 r er9 hr9 => ?_) (fun i j u hi hj ei ej hij hu0 hu1 eu hv9 hne hob h1 bk1 pk1 fr1 hpk hL1 hbok => ?_)
  · refine Or.inr (Or.inr ⟨rfl, Or.inl ⟨rfl, ?_⟩⟩)
    show WP Γ _ _ _ _ _ _ _
    have B : Bet p m h h _ := Bet.n (p := p) ho hn1
    refine MC _ _ _ _ (B.1 _ (by omega)) (B.1 _ (by omega)) ?_
    refine s_X10_transfer (ModC.mv (B.1 _ (by omega)) mC) ((B.1 _ (by omega)).trans mR) ((B.1 _ (by omega)).trans mP) hr0 hI0 (by omega) (by omega) (by omega) (by omega) (fun d1 h2 fr2 m2 => ?_) (fun d1 d2 h2 fr2 m2 => ?_) (fun i2 j2 u2 hi2 hj2 ei2 ej2 hij2 hu02 hu12 eu2 hv92 r2 er2 hr2 h2 fr2 m2 => ?_) (fun i2 j2 u2 hi2 hj2 ei2 ej2 hij2 hu02 hu12 eu2 hv92 hne2 hob2 h2 R9 pk2 fz fr2 m2 r9 p2 hK => ?_)
    · show WP Γ _ _ _ _ _ _ _
      exact TE _ _ h2 _ _ (by decide) (fin_q hA hs0 hM0 hP0 c10 hm B fr2 ⟨_, _, _, _, _, _, m2⟩) ⟨_, _, _, _, _, _, _, m2⟩
    · exact absurd (c1.symm.trans d1) (by decide)
    · have d1 : (inN (S (i0 + 1)) np && inN (S (i0 + 2)) np) = true := by rw [ei2, ej2, inN_of hi2 (by omega), inN_of hj2 (by omega)]; rfl
      have d2 : (decide (¬ (S (i0 + 1)) = (S (i0 + 2))) && inI (S (i0 + 3)) 1 200 && inI (S (i0 + 4)) 0 9) = true := by rw [decide_eq_true (show ¬ (S (i0 + 1)) = (S (i0 + 2)) from fun q => hij2 ((nI_eq9 (by omega) (by omega)).mp (ei2.symm.trans (q.trans ej2)))), eu2, inI_of hu02 hu12 (by decide), hv92]; rfl
      exact absurd (c1.symm.trans d1) (by decide)
    · have d1 : (inN (S (i0 + 1)) np && inN (S (i0 + 2)) np) = true := by rw [ei2, ej2, inN_of hi2 (by omega), inN_of hj2 (by omega)]; rfl
      have d2 : (decide (¬ (S (i0 + 1)) = (S (i0 + 2))) && inI (S (i0 + 3)) 1 200 && inI (S (i0 + 4)) 0 9) = true := by rw [decide_eq_true (show ¬ (S (i0 + 1)) = (S (i0 + 2)) from fun q => hij2 ((nI_eq9 (by omega) (by omega)).mp (ei2.symm.trans (q.trans ej2)))), eu2, inI_of hu02 hu12 (by decide), hv92]; rfl
      exact absurd (c1.symm.trans d1) (by decide)
  · refine Or.inr (Or.inr ⟨rfl, Or.inr ⟨rfl, ?_⟩⟩)
    show WP Γ _ _ _ _ _ _ _
    have B : Bet p m h h _ := Bet.n (p := p) ho hn1
    refine MC _ _ _ _ (B.1 _ (by omega)) (B.1 _ (by omega)) ?_
    refine s_X10_transfer (ModC.mv (B.1 _ (by omega)) mC) ((B.1 _ (by omega)).trans mR) ((B.1 _ (by omega)).trans mP) hr0 hI0 (by omega) (by omega) (by omega) (by omega) (fun d1 h2 fr2 m2 => ?_) (fun d1 d2 h2 fr2 m2 => ?_) (fun i2 j2 u2 hi2 hj2 ei2 ej2 hij2 hu02 hu12 eu2 hv92 r2 er2 hr2 h2 fr2 m2 => ?_) (fun i2 j2 u2 hi2 hj2 ei2 ej2 hij2 hu02 hu12 eu2 hv92 hne2 hob2 h2 R9 pk2 fz fr2 m2 r9 p2 hK => ?_)
    · exact absurd (c1.symm.trans d1) (by decide)
    · show WP Γ _ _ _ _ _ _ _
      exact TE _ _ h2 _ _ (by decide) (fin_q hA hs0 hM0 hP0 c10 hm B fr2 ⟨_, _, _, _, _, _, m2⟩) ⟨_, _, _, _, _, _, _, m2⟩
    · have d1 : (inN (S (i0 + 1)) np && inN (S (i0 + 2)) np) = true := by rw [ei2, ej2, inN_of hi2 (by omega), inN_of hj2 (by omega)]; rfl
      have d2 : (decide (¬ (S (i0 + 1)) = (S (i0 + 2))) && inI (S (i0 + 3)) 1 200 && inI (S (i0 + 4)) 0 9) = true := by rw [decide_eq_true (show ¬ (S (i0 + 1)) = (S (i0 + 2)) from fun q => hij2 ((nI_eq9 (by omega) (by omega)).mp (ei2.symm.trans (q.trans ej2)))), eu2, inI_of hu02 hu12 (by decide), hv92]; rfl
      exact absurd (c2.symm.trans d2) (by decide)
    · have d1 : (inN (S (i0 + 1)) np && inN (S (i0 + 2)) np) = true := by rw [ei2, ej2, inN_of hi2 (by omega), inN_of hj2 (by omega)]; rfl
      have d2 : (decide (¬ (S (i0 + 1)) = (S (i0 + 2))) && inI (S (i0 + 3)) 1 200 && inI (S (i0 + 4)) 0 9) = true := by rw [decide_eq_true (show ¬ (S (i0 + 1)) = (S (i0 + 2)) from fun q => hij2 ((nI_eq9 (by omega) (by omega)).mp (ei2.symm.trans (q.trans ej2)))), eu2, inI_of hu02 hu12 (by decide), hv92]; rfl
      exact absurd (c2.symm.trans d2) (by decide)
  · refine ⟨fo, o1, fun fo1 hv => ?_⟩
    show WP Γ _ _ _ _ _ _ _
    have B : Bet p m h h _ := Bet.o fo1 ho hm (fun _ _ => rfl)
    have c1 : (inN (S (i0 + 1)) np && inN (S (i0 + 2)) np) = true := by rw [ei, ej, inN_of hi (by omega), inN_of hj (by omega)]; rfl
    have c2 : (decide (¬ (S (i0 + 1)) = (S (i0 + 2))) && inI (S (i0 + 3)) 1 200 && inI (S (i0 + 4)) 0 9) = true := by rw [decide_eq_true (show ¬ (S (i0 + 1)) = (S (i0 + 2)) from fun q => hij ((nI_eq9 (by omega) (by omega)).mp (ei.symm.trans (q.trans ej)))), eu, inI_of hu0 hu1 (by decide), hv9]; rfl
    refine MC _ _ _ _ (B.1 _ (by omega)) (B.1 _ (by omega)) ?_
    refine s_X10_transfer (ModC.mv (B.1 _ (by omega)) mC) ((B.1 _ (by omega)).trans mR) ((B.1 _ (by omega)).trans mP) hr0 hI0 (by omega) (by omega) (by omega) (by omega) (fun d1 h2 fr2 m2 => ?_) (fun d1 d2 h2 fr2 m2 => ?_) (fun i2 j2 u2 hi2 hj2 ei2 ej2 hij2 hu02 hu12 eu2 hv92 r2 er2 hr2 h2 fr2 m2 => ?_) (fun i2 j2 u2 hi2 hj2 ei2 ej2 hij2 hu02 hu12 eu2 hv92 hne2 hob2 h2 R9 pk2 fz fr2 m2 r9 p2 hK => ?_)
    · exact absurd (c1.symm.trans d1) (by decide)
    · exact absurd (c2.symm.trans d2) (by decide)
    · have d1 : (inN (S (i0 + 1)) np && inN (S (i0 + 2)) np) = true := by rw [ei2, ej2, inN_of hi2 (by omega), inN_of hj2 (by omega)]; rfl
      have d2 : (decide (¬ (S (i0 + 1)) = (S (i0 + 2))) && inI (S (i0 + 3)) 1 200 && inI (S (i0 + 4)) 0 9) = true := by rw [decide_eq_true (show ¬ (S (i0 + 1)) = (S (i0 + 2)) from fun q => hij2 ((nI_eq9 (by omega) (by omega)).mp (ei2.symm.trans (q.trans ej2)))), eu2, inI_of hu02 hu12 (by decide), hv92]; rfl
      show WP Γ _ _ _ _ _ _ _
      obtain rfl : i = i2 := (nI_eq9 (by omega) (by omega)).mp (ei.symm.trans ei2)
      obtain rfl : j = j2 := (nI_eq9 (by omega) (by omega)).mp (ej.symm.trans ej2)
      obtain rfl : u = u2 := (nI_eq9 (by omega) (by omega)).mp (eu.symm.trans eu2)
      obtain rfl : r = r2 := er9.trans er2.symm
      exact TO _ _ h2 _ fo1 (fin_q hA hs0 hM0 hP0 c10 hm B fr2 ⟨_, _, _, _, _, _, m2⟩) ⟨_, _, _, _, _, _, _, m2⟩ ((fr2.2 _ (by omega)).trans (ax_set_self _ _ _)) hv
    · have d1 : (inN (S (i0 + 1)) np && inN (S (i0 + 2)) np) = true := by rw [ei2, ej2, inN_of hi2 (by omega), inN_of hj2 (by omega)]; rfl
      have d2 : (decide (¬ (S (i0 + 1)) = (S (i0 + 2))) && inI (S (i0 + 3)) 1 200 && inI (S (i0 + 4)) 0 9) = true := by rw [decide_eq_true (show ¬ (S (i0 + 1)) = (S (i0 + 2)) from fun q => hij2 ((nI_eq9 (by omega) (by omega)).mp (ei2.symm.trans (q.trans ej2)))), eu2, inI_of hu02 hu12 (by decide), hv92]; rfl
      obtain rfl : i = i2 := (nI_eq9 (by omega) (by omega)).mp (ei.symm.trans ei2)
      obtain rfl : j = j2 := (nI_eq9 (by omega) (by omega)).mp (ej.symm.trans ej2)
      obtain rfl : u = u2 := (nI_eq9 (by omega) (by omega)).mp (eu.symm.trans eu2)
      rw [if_neg (by omega), hob2] at er9
      rw [er9] at hr9
      exact absurd hr9 (by decide)
  · refine ⟨fo, ((fr1.2 _ (by omega)).trans o1), fun fo1 hv => ?_⟩
    show WP Γ _ _ _ _ _ _ _
    have B : Bet p m h h1 _ := Bet.o fo1 ho hm (fun c hc => fr1.2 c (by omega))
    have c1 : (inN (S (i0 + 1)) np && inN (S (i0 + 2)) np) = true := by rw [ei, ej, inN_of hi (by omega), inN_of hj (by omega)]; rfl
    have c2 : (decide (¬ (S (i0 + 1)) = (S (i0 + 2))) && inI (S (i0 + 3)) 1 200 && inI (S (i0 + 4)) 0 9) = true := by rw [decide_eq_true (show ¬ (S (i0 + 1)) = (S (i0 + 2)) from fun q => hij ((nI_eq9 (by omega) (by omega)).mp (ei.symm.trans (q.trans ej)))), eu, inI_of hu0 hu1 (by decide), hv9]; rfl
    refine MC _ _ _ _ (B.1 _ (by omega)) (B.1 _ (by omega)) ?_
    refine s_X10_transfer (ModC.mv (B.1 _ (by omega)) mC) ((B.1 _ (by omega)).trans mR) ((B.1 _ (by omega)).trans mP) hr0 hI0 (by omega) (by omega) (by omega) (by omega) (fun d1 h2 fr2 m2 => ?_) (fun d1 d2 h2 fr2 m2 => ?_) (fun i2 j2 u2 hi2 hj2 ei2 ej2 hij2 hu02 hu12 eu2 hv92 r2 er2 hr2 h2 fr2 m2 => ?_) (fun i2 j2 u2 hi2 hj2 ei2 ej2 hij2 hu02 hu12 eu2 hv92 hne2 hob2 h2 R9 pk2 fz fr2 m2 r9 p2 hK => ?_)
    · exact absurd (c1.symm.trans d1) (by decide)
    · exact absurd (c2.symm.trans d2) (by decide)
    · have d1 : (inN (S (i0 + 1)) np && inN (S (i0 + 2)) np) = true := by rw [ei2, ej2, inN_of hi2 (by omega), inN_of hj2 (by omega)]; rfl
      have d2 : (decide (¬ (S (i0 + 1)) = (S (i0 + 2))) && inI (S (i0 + 3)) 1 200 && inI (S (i0 + 4)) 0 9) = true := by rw [decide_eq_true (show ¬ (S (i0 + 1)) = (S (i0 + 2)) from fun q => hij2 ((nI_eq9 (by omega) (by omega)).mp (ei2.symm.trans (q.trans ej2)))), eu2, inI_of hu02 hu12 (by decide), hv92]; rfl
      obtain rfl : i = i2 := (nI_eq9 (by omega) (by omega)).mp (ei.symm.trans ei2)
      obtain rfl : j = j2 := (nI_eq9 (by omega) (by omega)).mp (ej.symm.trans ej2)
      obtain rfl : u = u2 := (nI_eq9 (by omega) (by omega)).mp (eu.symm.trans eu2)
      rw [if_neg (by omega), hob] at er2
      rw [er2] at hr2
      exact absurd hr2 (by decide)
    · have d1 : (inN (S (i0 + 1)) np && inN (S (i0 + 2)) np) = true := by rw [ei2, ej2, inN_of hi2 (by omega), inN_of hj2 (by omega)]; rfl
      have d2 : (decide (¬ (S (i0 + 1)) = (S (i0 + 2))) && inI (S (i0 + 3)) 1 200 && inI (S (i0 + 4)) 0 9) = true := by rw [decide_eq_true (show ¬ (S (i0 + 1)) = (S (i0 + 2)) from fun q => hij2 ((nI_eq9 (by omega) (by omega)).mp (ei2.symm.trans (q.trans ej2)))), eu2, inI_of hu02 hu12 (by decide), hv92]; rfl
      show WP Γ _ _ _ _ _ _ _
      obtain rfl : i = i2 := (nI_eq9 (by omega) (by omega)).mp (ei.symm.trans ei2)
      obtain rfl : j = j2 := (nI_eq9 (by omega) (by omega)).mp (ej.symm.trans ej2)
      obtain rfl : u = u2 := (nI_eq9 (by omega) (by omega)).mp (eu.symm.trans eu2)
      have hMov : MovOk np qu ra re le ln nb pl tm ne rw bk nh hw nc cw t y (nI i) j u (S (i0 + 4)) (mkK np qu ra re le ln nb (putF pl nb pk1 (nI j)) (putF tm nb pk1 t) (ne + 1) (upd7 rw ne (nI i) (nI j) (nI u) (S (i0 + 4)) t 0 (-1)) bk1 nh hw nc cw t y) := ⟨hne, hob, bk1, pk1, hpk, hbok, rfl⟩
      exact TO _ _ h2 _ fo1 (fin_s (K' := mkK np qu ra re le ln nb (putF pl nb pk1 (nI j)) (putF tm nb pk1 t) (ne + 1) (upd7 rw ne (nI i) (nI j) (nI u) (S (i0 + 4)) t 0 (-1)) bk1 nh hw nc cw t y) hA hs0 hM0 ⟨hlen, hI0.mov hi hj hu1 hMov, hIS⟩ (c10.led fr1 ⟨_, hL1⟩) hm B fz (fun c a b _ d => fr2 c a b d) ⟨_, _, _, _, _, _, m2⟩ ⟨R9, r9, hK _ hMov⟩ ⟨RE, (fr2 _ (by omega) (by omega) (by omega)).trans ((B.1 _ (by omega)).trans mE), hre0⟩ ⟨pk2, p2⟩) ⟨_, _, _, _, _, _, _, m2⟩ ((fr2 _ (by omega) (by omega) (by omega)).trans (ax_set_self _ _ _)) hv
theorem cs_reserve (hA : Γ.2.1 ≤ p) (hs : ScrP Γ h sa N S) (ho : OutP h m) (c1 : ClsP h p m b D er bs len f (mkK np qu ra re le ln nb pl tm ne rw bk nh hw nc cw t y) KS) (hP : PurP len f (mkK np qu ra re le ln nb pl tm ne rw bk nh hw nc cw t y) KS) (hM : ModP h m er bs len f (mkK np qu ra re le ln nb pl tm ne rw bk nh hw nc cw t y) KS) (hi : i0 + 5 ≤ N) (k : ∀ h', Sim Γ h' p m sa N S → WP Γ ML_law (10, 196, c0, s0) 3329 [some (.ref sa), some (.ref p), some (.ref m), some (.ref (m + 12)), some (.ref (m + 13)), some (.int (nI i0)), none, none, none, none] [] h' Q) : WP Γ ML_law (10, 196, c0 + 20, s0 + 4409) 826 [some (.ref sa), some (.ref p), some (.ref m), some (.ref (m + 12)), some (.ref (m + 13)), some (.int (nI i0)), none, none, none, none] [] h Q := by
  have hs0 := hs
  have c10 := c1
  have hP0 := hP
  have hM0 := hM
  obtain ⟨hsa, hsl, hN, hfree⟩ := hs
  obtain ⟨⟨fo, o1⟩, fd, o2⟩ := ho
  obtain ⟨hF, hT, hR3, hBat, hSna, ⟨pk, hL⟩, hX, hbD, hm, hz, hsn, hap⟩ := c1
  obtain ⟨hlen, hI, hIS⟩ := hP
  obtain ⟨⟨th, at', bg, e9, ea, cm, mC⟩, ⟨R, mR, hr⟩, ⟨R2, mR2⟩, ⟨R3, mR3⟩, ⟨RE, mE, hre⟩, ⟨RA, mRA⟩, ⟨mpk, mP⟩, ⟨B, mB, hB⟩, ⟨CM, mK⟩, CC, CE, SV, mCC, mCE, mSV, hsv, hsr⟩ := hM
  have hI0 : Inv np qu ra re le ln nb pl tm ne rw bk nh hw nc cw t y := hI
  have hr0 : RowR R np qu ra re le ln nb pl tm ne rw bk nh hw nc cw t y := hr
  have hL0 : LedP h b np qu ra re le ln nb pl tm ne rw bk nh hw nc cw t y pk := hL
  have hre0 : ∀ j, j < np → RE j = re j := hre
  obtain ⟨⟨s1, s2, s3, s4, s5, s6, s7, s8, tn, s9, s10⟩, IM, IP, IJ, IR, IC⟩ := hI0
  have hI0 : Inv np qu ra re le ln nb pl tm ne rw bk nh hw nc cw t y := hI
  have hF' := hF
  unfold FacC at hF'
  have ho : OutP h m := ⟨⟨fo, o1⟩, fd, o2⟩
  have TE : ∀ (X Y : Nat) (h2 : AH) (kk : Int32) (v9 : Int32), ¬ kk = 0 → Sim Γ h2 p m sa N S → (∃ tl at' bg e9 ea lr cm, ModC h2 m (m + 1) kk tl at' bg e9 ea lr cm) → WP Γ ML_law (10, 196, c0 + X, s0 + Y) 885 [some (.ref sa), some (.ref p), some (.ref m), some (.ref (m + 12)), some (.ref (m + 13)), some (.int (nI i0)), some (.int kk), none, none, none] [.int v9] h2 Q := by
    intro X Y h2 kk v9 hk hsim hm2
    obtain ⟨tl2, at2, bg2, e2, ea2, lr2, cm2, m2⟩ := hm2
    have m20 := m2
    unfold ModC at m2
    refine wp_istore (n := 887) dL_law_885 rfl rfl rfl rfl ?_
    refine wp_aload_n (n := 888) dL_law_887 rfl rfl ?_
    refine wp_callVs (n := 891) (rm' := (0, 0, 0, 0)) (c0 := c0) (s0 := s0) rfl dL_law_888 rfl mlL_156 [] rfl rfl m2 rfl rfl rfl (Nat.le_of_ble_eq_true rfl) rfl ?_
    refine s_X10_thrown m20 ?_
    show WP Γ _ _ _ _ _ _ _
    refine wp_iload (n := 893) dL_law_891 rfl rfl ?_
    refine wp_icmp_eq (t := 898) (n := 896) dL_law_893 (by decide) rfl (fun hc => ?_) (fun hc => ?_)
    · refine wp_iload (n := 900) dL_law_898 rfl rfl ?_
      refine wp_if_ne (t := 915) (n := 903) dL_law_900 (by decide) rfl (fun hq => ?_) (fun hq => ?_)
      · refine wp_goto (t := 3329) dL_law_915 (by decide) ?_
        refine wp_lo (lo' := [some (.ref sa), some (.ref p), some (.ref m), some (.ref (m + 12)), some (.ref (m + 13)), some (.int (nI i0)), none, none, none, none]) (fun k v hk => ?_) ?_
        · match k, hk with
          | 0, hk => exact hk
          | 1, hk => exact hk
          | 2, hk => exact hk
          | 3, hk => exact hk
          | 4, hk => exact hk
          | 5, hk => exact hk
          | 6, hk => exact absurd hk (by simp [ax_gl])
          | 7, hk => exact absurd hk (by simp [ax_gl])
          | 8, hk => exact absurd hk (by simp [ax_gl])
          | 9, hk => exact absurd hk (by simp [ax_gl])
          | k + 10, hk => exact absurd hk (by simp [ax_gl])
        exact wp_big (rm := (10, 196, c0, s0)) (Nat.le_refl _) (Nat.le_refl _) (Nat.le_add_right _ _) (Nat.le_add_right _ _) (k h2 hsim)
      · exact absurd hq hk
    · exact absurd rfl hc
  have TO : ∀ (X Y : Nat) (h2 : AH) (r : Int32) (fo2 : Nat → Int64), Sim Γ h2 p m sa N S → (∃ tl at' bg e9 ea lr cm, ModC h2 m (m + 1) 0 tl at' bg e9 ea lr cm) → h2.2 (m + 12) = some (.inl (.long, 1, .inr (.inl fo2))) → fo2 0 = r.toInt64 → WP Γ ML_law (10, 196, c0 + X, s0 + Y) 885 [some (.ref sa), some (.ref p), some (.ref m), some (.ref (m + 12)), some (.ref (m + 13)), some (.int (nI i0)), some (.int 0), none, none, none] [.int r] h2 Q := by
    intro X Y h2 r fo2 hsim hm2 ho2 hv2
    obtain ⟨tl2, at2, bg2, e2, ea2, lr2, cm2, m2⟩ := hm2
    have m20 := m2
    unfold ModC at m2
    have fin : ∀ l7 : Option Value, WP Γ ML_law (10, 196, c0 + (X - 0), s0 + (Y - 0)) 915 [some (.ref sa), some (.ref p), some (.ref m), some (.ref (m + 12)), some (.ref (m + 13)), some (.int (nI i0)), some (.int 0), l7, none, none] [] h2 Q := by
      intro l7
      refine wp_goto (t := 3329) dL_law_915 (by decide) ?_
      refine wp_lo (lo' := [some (.ref sa), some (.ref p), some (.ref m), some (.ref (m + 12)), some (.ref (m + 13)), some (.int (nI i0)), none, none, none, none]) (fun k v hk => ?_) ?_
      · match k, hk with
        | 0, hk => exact hk
        | 1, hk => exact hk
        | 2, hk => exact hk
        | 3, hk => exact hk
        | 4, hk => exact hk
        | 5, hk => exact hk
        | 6, hk => exact absurd hk (by simp [ax_gl])
        | 7, hk => exact absurd hk (by simp [ax_gl])
        | 8, hk => exact absurd hk (by simp [ax_gl])
        | 9, hk => exact absurd hk (by simp [ax_gl])
        | k + 10, hk => exact absurd hk (by simp [ax_gl])
      exact wp_big (rm := (10, 196, c0, s0)) (Nat.le_refl _) (Nat.le_refl _) (Nat.le_add_right _ _) (Nat.le_add_right _ _) (k h2 hsim)
    refine wp_istore (n := 887) dL_law_885 rfl rfl rfl rfl ?_
    refine wp_aload_n (n := 888) dL_law_887 rfl rfl ?_
    refine wp_callVs (n := 891) (rm' := (0, 0, 0, 0)) (c0 := c0) (s0 := s0) rfl dL_law_888 rfl mlL_156 [] rfl rfl m2 rfl rfl rfl (Nat.le_of_ble_eq_true rfl) rfl ?_
    refine s_X10_thrown m20 ?_
    show WP Γ _ _ _ _ _ _ _
    refine wp_iload (n := 893) dL_law_891 rfl rfl ?_
    refine wp_icmp_eq (t := 898) (n := 896) dL_law_893 (by decide) rfl (fun hc => ?_) (fun hc => ?_)
    · refine wp_iload (n := 900) dL_law_898 rfl rfl ?_
      refine wp_if_ne (t := 915) (n := 903) dL_law_900 (by decide) rfl (fun hq => ?_) (fun hq => ?_)
      · exact absurd rfl hq
      · refine wp_aload_n (n := 904) dL_law_903 rfl rfl ?_
        refine wp_iconst (n := 905) (v := 0) dL_law_904 rfl (by decide) ?_
        refine wp_lald (n := 906) 0 dL_law_905 rfl ho2 rfl (by omega) (by omega) ?_
        rw [hv2]
        refine wp_iload (n := 908) dL_law_906 rfl rfl ?_
        refine wp_i2l (n := 909) dL_law_908 rfl ?_
        refine wp_lcmp (n := 910) dL_law_909 rfl ?_
        rw [lg_self]
        refine wp_if_eq (t := 915) (n := 913) dL_law_910 (by decide) rfl (fun hu => ?_) (fun hu => ?_)
        · exact fin _
        · exact absurd rfl hu
    · exact absurd rfl hc
  have MC : ∀ (X Y : Nat) (h3 : AH) (kk : Int32), h3.2 m = h.2 m → h3.2 sa = h.2 sa → WP Γ MX10_reserve (5, 116, 0, 0) 0 [some (.ref m), some (.int (S (i0 + 1))), some (.int (S (i0 + 2))), some (.int (S (i0 + 3))), some (.int (S (i0 + 4)))] [] h3 (ax_K Γ ML_law (10, 196, c0 + (X - 0), s0 + (Y - 0)) 885 [some (.ref sa), some (.ref p), some (.ref m), some (.ref (m + 12)), some (.ref (m + 13)), some (.int (nI i0)), some (.int kk), none, none, none] [] Q) → WP Γ ML_law (10, 196, c0 + X, s0 + Y) 855 [some (.ref sa), some (.ref p), some (.ref m), some (.ref (m + 12)), some (.ref (m + 13)), some (.int (nI i0)), none, none, none, none] [.int kk] h3 Q := by
    intro X Y h3 kk e1 e2 kk3
    have mC3' := ModC.mv e1 mC
    unfold ModC at mC3'
    have hsa3 := e2.trans hsa
    refine wp_istore (n := 857) dL_law_855 rfl rfl rfl rfl ?_
    refine wp_aload_n (n := 858) dL_law_857 rfl rfl ?_
    refine wp_aload_n (n := 859) dL_law_858 rfl rfl ?_
    refine wp_iload (n := 861) dL_law_859 rfl rfl ?_
    refine wp_iconst (n := 862) (v := nI 1) dL_law_861 rfl (by decide) ?_
    refine wp_iadd (n := 863) dL_law_862 rfl ?_
    refine wp_iald (n := 864) (i0 + 1) dL_law_863 rfl (by repeat first | assumption | exact ax_set_self _ _ _ | exact ax_newA_self _ _ _ | refine (ax_set_ne _ _ (by omega)).trans ?_ | refine (ax_newA_ne _ _ _ (by omega)).trans ?_) (by simp only [nI_zero, nI_mul, nI_add]) (by omega) (by omega) ?_
    refine wp_aload_n (n := 865) dL_law_864 rfl rfl ?_
    refine wp_iload (n := 867) dL_law_865 rfl rfl ?_
    refine wp_iconst (n := 868) (v := nI 2) dL_law_867 rfl (by decide) ?_
    refine wp_iadd (n := 869) dL_law_868 rfl ?_
    refine wp_iald (n := 870) (i0 + 2) dL_law_869 rfl (by repeat first | assumption | exact ax_set_self _ _ _ | exact ax_newA_self _ _ _ | refine (ax_set_ne _ _ (by omega)).trans ?_ | refine (ax_newA_ne _ _ _ (by omega)).trans ?_) (by simp only [nI_zero, nI_mul, nI_add]) (by omega) (by omega) ?_
    refine wp_aload_n (n := 871) dL_law_870 rfl rfl ?_
    refine wp_iload (n := 873) dL_law_871 rfl rfl ?_
    refine wp_iconst (n := 874) (v := nI 3) dL_law_873 rfl (by decide) ?_
    refine wp_iadd (n := 875) dL_law_874 rfl ?_
    refine wp_iald (n := 876) (i0 + 3) dL_law_875 rfl (by repeat first | assumption | exact ax_set_self _ _ _ | exact ax_newA_self _ _ _ | refine (ax_set_ne _ _ (by omega)).trans ?_ | refine (ax_newA_ne _ _ _ (by omega)).trans ?_) (by simp only [nI_zero, nI_mul, nI_add]) (by omega) (by omega) ?_
    refine wp_aload_n (n := 877) dL_law_876 rfl rfl ?_
    refine wp_iload (n := 879) dL_law_877 rfl rfl ?_
    refine wp_iconst (n := 880) (v := nI 4) dL_law_879 rfl (by decide) ?_
    refine wp_iadd (n := 881) dL_law_880 rfl ?_
    refine wp_iald (n := 882) (i0 + 4) dL_law_881 rfl (by repeat first | assumption | exact ax_set_self _ _ _ | exact ax_newA_self _ _ _ | refine (ax_set_ne _ _ (by omega)).trans ?_ | refine (ax_newA_ne _ _ _ (by omega)).trans ?_) (by simp only [nI_zero, nI_mul, nI_add]) (by omega) (by omega) ?_
    refine wp_callVs (n := 885) (rm' := (5, 116, 0, 0)) (c0 := c0) (s0 := s0) rfl dL_law_882 rfl mlL_207 [.int (S (i0 + 1)), .int (S (i0 + 2)), .int (S (i0 + 3)), .int (S (i0 + 4))] rfl rfl mC3' rfl rfl rfl (Nat.le_of_ble_eq_true rfl) rfl ?_
    exact kk3
  refine wp_aload_n (n := 827) dL_law_826 rfl rfl ?_
  refine wp_aload_n (n := 828) dL_law_827 rfl rfl ?_
  refine wp_iload (n := 830) dL_law_828 rfl rfl ?_
  refine wp_iconst (n := 831) (v := nI 1) dL_law_830 rfl (by decide) ?_
  refine wp_iadd (n := 832) dL_law_831 rfl ?_
  refine wp_iald (n := 833) (i0 + 1) dL_law_832 rfl (by repeat first | assumption | exact ax_set_self _ _ _ | exact ax_newA_self _ _ _ | refine (ax_set_ne _ _ (by omega)).trans ?_ | refine (ax_newA_ne _ _ _ (by omega)).trans ?_) (by simp only [nI_zero, nI_mul, nI_add]) (by omega) (by omega) ?_
  refine wp_aload_n (n := 834) dL_law_833 rfl rfl ?_
  refine wp_iload (n := 836) dL_law_834 rfl rfl ?_
  refine wp_iconst (n := 837) (v := nI 2) dL_law_836 rfl (by decide) ?_
  refine wp_iadd (n := 838) dL_law_837 rfl ?_
  refine wp_iald (n := 839) (i0 + 2) dL_law_838 rfl (by repeat first | assumption | exact ax_set_self _ _ _ | exact ax_newA_self _ _ _ | refine (ax_set_ne _ _ (by omega)).trans ?_ | refine (ax_newA_ne _ _ _ (by omega)).trans ?_) (by simp only [nI_zero, nI_mul, nI_add]) (by omega) (by omega) ?_
  refine wp_aload_n (n := 840) dL_law_839 rfl rfl ?_
  refine wp_iload (n := 842) dL_law_840 rfl rfl ?_
  refine wp_iconst (n := 843) (v := nI 3) dL_law_842 rfl (by decide) ?_
  refine wp_iadd (n := 844) dL_law_843 rfl ?_
  refine wp_iald (n := 845) (i0 + 3) dL_law_844 rfl (by repeat first | assumption | exact ax_set_self _ _ _ | exact ax_newA_self _ _ _ | refine (ax_set_ne _ _ (by omega)).trans ?_ | refine (ax_newA_ne _ _ _ (by omega)).trans ?_) (by simp only [nI_zero, nI_mul, nI_add]) (by omega) (by omega) ?_
  refine wp_aload_n (n := 846) dL_law_845 rfl rfl ?_
  refine wp_iload (n := 848) dL_law_846 rfl rfl ?_
  refine wp_iconst (n := 849) (v := nI 4) dL_law_848 rfl (by decide) ?_
  refine wp_iadd (n := 850) dL_law_849 rfl ?_
  refine wp_iald (n := 851) (i0 + 4) dL_law_850 rfl (by repeat first | assumption | exact ax_set_self _ _ _ | exact ax_newA_self _ _ _ | refine (ax_set_ne _ _ (by omega)).trans ?_ | refine (ax_newA_ne _ _ _ (by omega)).trans ?_) (by simp only [nI_zero, nI_mul, nI_add]) (by omega) (by omega) ?_
  refine wp_aload_n (n := 852) dL_law_851 rfl rfl ?_
  refine wp_callSH (n := 855) (rm' := (9, 162, 5, 30)) (c0 := c0) (s0 := s0) (C := 20) (S := 4409) rfl dL_law_852 rfl mwL_205 [.ref p, .int (S (i0 + 1)), .int (S (i0 + 2)), .int (S (i0 + 3)), .int (S (i0 + 4)), .ref (m + 12)] rfl rfl rfl rfl (Nat.le_of_ble_eq_true rfl) rfl ?_
  refine s_L_reserve hF' (by omega) ?_
  refine s_X9_reserve hF hL0 (by omega) (by omega) (by omega) (by omega) (by omega) (fun c1 n1 hn1 => ?_) (fun c1 c2 n1 hn1 => ?_) (fun i j u hi hj ei ej hij hu0 hu1 eu hv9 r er9 hr9 => ?_) (fun i j u n hi hj ei ej hij hu0 hu1 eu hn0 hn1 en hnh hob h1 fr1 hL1 => ?_)
  · refine Or.inr (Or.inr ⟨rfl, Or.inl ⟨rfl, ?_⟩⟩)
    show WP Γ _ _ _ _ _ _ _
    have B : Bet p m h h _ := Bet.n (p := p) ho hn1
    refine MC _ _ _ _ (B.1 _ (by omega)) (B.1 _ (by omega)) ?_
    refine s_X10_reserve (ModC.mv (B.1 _ (by omega)) mC) ((B.1 _ (by omega)).trans mR) hr0 hI0 (by omega) (by omega) (by omega) (fun d1 h2 fr2 m2 => ?_) (fun d1 d2 h2 fr2 m2 => ?_) (fun i2 j2 u2 hi2 hj2 ei2 ej2 hij2 hu02 hu12 eu2 hv92 r2 er2 hr2 h2 fr2 m2 => ?_) (fun i2 j2 u2 n2 hi2 hj2 ei2 ej2 hij2 hu02 hu12 eu2 hn02 hn12 en2 hnh2 hob2 h2 R9 fz fr2 m2 r9 hrr => ?_)
    · show WP Γ _ _ _ _ _ _ _
      exact TE _ _ h2 _ _ (by decide) (fin_q hA hs0 hM0 hP0 c10 hm B fr2 ⟨_, _, _, _, _, _, m2⟩) ⟨_, _, _, _, _, _, _, m2⟩
    · exact absurd (c1.symm.trans d1) (by decide)
    · have d1 : (inN (S (i0 + 1)) np && inN (S (i0 + 2)) np) = true := by rw [ei2, ej2, inN_of hi2 (by omega), inN_of hj2 (by omega)]; rfl
      have d2 : (decide (¬ (S (i0 + 1)) = (S (i0 + 2))) && inI (S (i0 + 3)) 1 200 && inI (S (i0 + 4)) 1 1000) = true := by rw [decide_eq_true (show ¬ (S (i0 + 1)) = (S (i0 + 2)) from fun q => hij2 ((nI_eq9 (by omega) (by omega)).mp (ei2.symm.trans (q.trans ej2)))), eu2, inI_of hu02 hu12 (by decide), hv92]; rfl
      exact absurd (c1.symm.trans d1) (by decide)
    · have d1 : (inN (S (i0 + 1)) np && inN (S (i0 + 2)) np) = true := by rw [ei2, ej2, inN_of hi2 (by omega), inN_of hj2 (by omega)]; rfl
      have d2 : (decide (¬ (S (i0 + 1)) = (S (i0 + 2))) && inI (S (i0 + 3)) 1 200 && inI (S (i0 + 4)) 1 1000) = true := by rw [decide_eq_true (show ¬ (S (i0 + 1)) = (S (i0 + 2)) from fun q => hij2 ((nI_eq9 (by omega) (by omega)).mp (ei2.symm.trans (q.trans ej2)))), eu2, inI_of hu02 hu12 (by decide), en2, inI_of hn02 hn12 (by decide)]; rfl
      exact absurd (c1.symm.trans d1) (by decide)
  · refine Or.inr (Or.inr ⟨rfl, Or.inr ⟨rfl, ?_⟩⟩)
    show WP Γ _ _ _ _ _ _ _
    have B : Bet p m h h _ := Bet.n (p := p) ho hn1
    refine MC _ _ _ _ (B.1 _ (by omega)) (B.1 _ (by omega)) ?_
    refine s_X10_reserve (ModC.mv (B.1 _ (by omega)) mC) ((B.1 _ (by omega)).trans mR) hr0 hI0 (by omega) (by omega) (by omega) (fun d1 h2 fr2 m2 => ?_) (fun d1 d2 h2 fr2 m2 => ?_) (fun i2 j2 u2 hi2 hj2 ei2 ej2 hij2 hu02 hu12 eu2 hv92 r2 er2 hr2 h2 fr2 m2 => ?_) (fun i2 j2 u2 n2 hi2 hj2 ei2 ej2 hij2 hu02 hu12 eu2 hn02 hn12 en2 hnh2 hob2 h2 R9 fz fr2 m2 r9 hrr => ?_)
    · exact absurd (c1.symm.trans d1) (by decide)
    · show WP Γ _ _ _ _ _ _ _
      exact TE _ _ h2 _ _ (by decide) (fin_q hA hs0 hM0 hP0 c10 hm B fr2 ⟨_, _, _, _, _, _, m2⟩) ⟨_, _, _, _, _, _, _, m2⟩
    · have d1 : (inN (S (i0 + 1)) np && inN (S (i0 + 2)) np) = true := by rw [ei2, ej2, inN_of hi2 (by omega), inN_of hj2 (by omega)]; rfl
      have d2 : (decide (¬ (S (i0 + 1)) = (S (i0 + 2))) && inI (S (i0 + 3)) 1 200 && inI (S (i0 + 4)) 1 1000) = true := by rw [decide_eq_true (show ¬ (S (i0 + 1)) = (S (i0 + 2)) from fun q => hij2 ((nI_eq9 (by omega) (by omega)).mp (ei2.symm.trans (q.trans ej2)))), eu2, inI_of hu02 hu12 (by decide), hv92]; rfl
      exact absurd (c2.symm.trans d2) (by decide)
    · have d1 : (inN (S (i0 + 1)) np && inN (S (i0 + 2)) np) = true := by rw [ei2, ej2, inN_of hi2 (by omega), inN_of hj2 (by omega)]; rfl
      have d2 : (decide (¬ (S (i0 + 1)) = (S (i0 + 2))) && inI (S (i0 + 3)) 1 200 && inI (S (i0 + 4)) 1 1000) = true := by rw [decide_eq_true (show ¬ (S (i0 + 1)) = (S (i0 + 2)) from fun q => hij2 ((nI_eq9 (by omega) (by omega)).mp (ei2.symm.trans (q.trans ej2)))), eu2, inI_of hu02 hu12 (by decide), en2, inI_of hn02 hn12 (by decide)]; rfl
      exact absurd (c2.symm.trans d2) (by decide)
  · refine ⟨fo, o1, fun fo1 hv => ?_⟩
    show WP Γ _ _ _ _ _ _ _
    have B : Bet p m h h _ := Bet.o fo1 ho hm (fun _ _ => rfl)
    have c1 : (inN (S (i0 + 1)) np && inN (S (i0 + 2)) np) = true := by rw [ei, ej, inN_of hi (by omega), inN_of hj (by omega)]; rfl
    have c2 : (decide (¬ (S (i0 + 1)) = (S (i0 + 2))) && inI (S (i0 + 3)) 1 200 && inI (S (i0 + 4)) 1 1000) = true := by rw [decide_eq_true (show ¬ (S (i0 + 1)) = (S (i0 + 2)) from fun q => hij ((nI_eq9 (by omega) (by omega)).mp (ei.symm.trans (q.trans ej)))), eu, inI_of hu0 hu1 (by decide), hv9]; rfl
    refine MC _ _ _ _ (B.1 _ (by omega)) (B.1 _ (by omega)) ?_
    refine s_X10_reserve (ModC.mv (B.1 _ (by omega)) mC) ((B.1 _ (by omega)).trans mR) hr0 hI0 (by omega) (by omega) (by omega) (fun d1 h2 fr2 m2 => ?_) (fun d1 d2 h2 fr2 m2 => ?_) (fun i2 j2 u2 hi2 hj2 ei2 ej2 hij2 hu02 hu12 eu2 hv92 r2 er2 hr2 h2 fr2 m2 => ?_) (fun i2 j2 u2 n2 hi2 hj2 ei2 ej2 hij2 hu02 hu12 eu2 hn02 hn12 en2 hnh2 hob2 h2 R9 fz fr2 m2 r9 hrr => ?_)
    · exact absurd (c1.symm.trans d1) (by decide)
    · exact absurd (c2.symm.trans d2) (by decide)
    · have d1 : (inN (S (i0 + 1)) np && inN (S (i0 + 2)) np) = true := by rw [ei2, ej2, inN_of hi2 (by omega), inN_of hj2 (by omega)]; rfl
      have d2 : (decide (¬ (S (i0 + 1)) = (S (i0 + 2))) && inI (S (i0 + 3)) 1 200 && inI (S (i0 + 4)) 1 1000) = true := by rw [decide_eq_true (show ¬ (S (i0 + 1)) = (S (i0 + 2)) from fun q => hij2 ((nI_eq9 (by omega) (by omega)).mp (ei2.symm.trans (q.trans ej2)))), eu2, inI_of hu02 hu12 (by decide), hv92]; rfl
      show WP Γ _ _ _ _ _ _ _
      obtain rfl : i = i2 := (nI_eq9 (by omega) (by omega)).mp (ei.symm.trans ei2)
      obtain rfl : j = j2 := (nI_eq9 (by omega) (by omega)).mp (ej.symm.trans ej2)
      obtain rfl : u = u2 := (nI_eq9 (by omega) (by omega)).mp (eu.symm.trans eu2)
      obtain rfl : r = r2 := er9.trans er2.symm
      exact TO _ _ h2 _ fo1 (fin_q hA hs0 hM0 hP0 c10 hm B fr2 ⟨_, _, _, _, _, _, m2⟩) ⟨_, _, _, _, _, _, _, m2⟩ ((fr2.2 _ (by omega)).trans (ax_set_self _ _ _)) hv
    · have d1 : (inN (S (i0 + 1)) np && inN (S (i0 + 2)) np) = true := by rw [ei2, ej2, inN_of hi2 (by omega), inN_of hj2 (by omega)]; rfl
      have d2 : (decide (¬ (S (i0 + 1)) = (S (i0 + 2))) && inI (S (i0 + 3)) 1 200 && inI (S (i0 + 4)) 1 1000) = true := by rw [decide_eq_true (show ¬ (S (i0 + 1)) = (S (i0 + 2)) from fun q => hij2 ((nI_eq9 (by omega) (by omega)).mp (ei2.symm.trans (q.trans ej2)))), eu2, inI_of hu02 hu12 (by decide), en2, inI_of hn02 hn12 (by decide)]; rfl
      obtain rfl : i = i2 := (nI_eq9 (by omega) (by omega)).mp (ei.symm.trans ei2)
      obtain rfl : j = j2 := (nI_eq9 (by omega) (by omega)).mp (ej.symm.trans ej2)
      obtain rfl : u = u2 := (nI_eq9 (by omega) (by omega)).mp (eu.symm.trans eu2)
      rw [if_neg (by omega), hob2] at er9
      rw [er9] at hr9
      exact absurd hr9 (by decide)
  · refine ⟨fo, ((fr1.2 _ (by omega)).trans o1), fun fo1 hv => ?_⟩
    show WP Γ _ _ _ _ _ _ _
    have B : Bet p m h h1 _ := Bet.o fo1 ho hm (fun c hc => fr1.2 c (by omega))
    have c1 : (inN (S (i0 + 1)) np && inN (S (i0 + 2)) np) = true := by rw [ei, ej, inN_of hi (by omega), inN_of hj (by omega)]; rfl
    have c2 : (decide (¬ (S (i0 + 1)) = (S (i0 + 2))) && inI (S (i0 + 3)) 1 200 && inI (S (i0 + 4)) 1 1000) = true := by rw [decide_eq_true (show ¬ (S (i0 + 1)) = (S (i0 + 2)) from fun q => hij ((nI_eq9 (by omega) (by omega)).mp (ei.symm.trans (q.trans ej)))), eu, inI_of hu0 hu1 (by decide), en, inI_of hn0 hn1 (by decide)]; rfl
    refine MC _ _ _ _ (B.1 _ (by omega)) (B.1 _ (by omega)) ?_
    refine s_X10_reserve (ModC.mv (B.1 _ (by omega)) mC) ((B.1 _ (by omega)).trans mR) hr0 hI0 (by omega) (by omega) (by omega) (fun d1 h2 fr2 m2 => ?_) (fun d1 d2 h2 fr2 m2 => ?_) (fun i2 j2 u2 hi2 hj2 ei2 ej2 hij2 hu02 hu12 eu2 hv92 r2 er2 hr2 h2 fr2 m2 => ?_) (fun i2 j2 u2 n2 hi2 hj2 ei2 ej2 hij2 hu02 hu12 eu2 hn02 hn12 en2 hnh2 hob2 h2 R9 fz fr2 m2 r9 hrr => ?_)
    · exact absurd (c1.symm.trans d1) (by decide)
    · exact absurd (c2.symm.trans d2) (by decide)
    · have d1 : (inN (S (i0 + 1)) np && inN (S (i0 + 2)) np) = true := by rw [ei2, ej2, inN_of hi2 (by omega), inN_of hj2 (by omega)]; rfl
      have d2 : (decide (¬ (S (i0 + 1)) = (S (i0 + 2))) && inI (S (i0 + 3)) 1 200 && inI (S (i0 + 4)) 1 1000) = true := by rw [decide_eq_true (show ¬ (S (i0 + 1)) = (S (i0 + 2)) from fun q => hij2 ((nI_eq9 (by omega) (by omega)).mp (ei2.symm.trans (q.trans ej2)))), eu2, inI_of hu02 hu12 (by decide), hv92]; rfl
      obtain rfl : i = i2 := (nI_eq9 (by omega) (by omega)).mp (ei.symm.trans ei2)
      obtain rfl : j = j2 := (nI_eq9 (by omega) (by omega)).mp (ej.symm.trans ej2)
      obtain rfl : u = u2 := (nI_eq9 (by omega) (by omega)).mp (eu.symm.trans eu2)
      rw [if_neg (by omega), hob] at er2
      rw [er2] at hr2
      exact absurd hr2 (by decide)
    · have d1 : (inN (S (i0 + 1)) np && inN (S (i0 + 2)) np) = true := by rw [ei2, ej2, inN_of hi2 (by omega), inN_of hj2 (by omega)]; rfl
      have d2 : (decide (¬ (S (i0 + 1)) = (S (i0 + 2))) && inI (S (i0 + 3)) 1 200 && inI (S (i0 + 4)) 1 1000) = true := by rw [decide_eq_true (show ¬ (S (i0 + 1)) = (S (i0 + 2)) from fun q => hij2 ((nI_eq9 (by omega) (by omega)).mp (ei2.symm.trans (q.trans ej2)))), eu2, inI_of hu02 hu12 (by decide), en2, inI_of hn02 hn12 (by decide)]; rfl
      show WP Γ _ _ _ _ _ _ _
      obtain rfl : i = i2 := (nI_eq9 (by omega) (by omega)).mp (ei.symm.trans ei2)
      obtain rfl : j = j2 := (nI_eq9 (by omega) (by omega)).mp (ej.symm.trans ej2)
      obtain rfl : u = u2 := (nI_eq9 (by omega) (by omega)).mp (eu.symm.trans eu2)
      obtain rfl : n = n2 := (nI_eq9 (by omega) (by omega)).mp (en.symm.trans en2)
      exact TO _ _ h2 _ fo1 (fin_s (K' := mkK np qu ra re le ln nb pl tm ne rw bk (nh + 1) (upd5 hw nh (nI i) (nI j) (nI u) (t + nI n) 0) nc cw t y) hA hs0 hM0 ⟨hlen, hI0.hold hi hj hu0 hu1 hnh, hIS⟩ (c10.led fr1 ⟨_, hL1⟩) hm B fz (fun c a b _ _ => fr2 c a b) ⟨_, _, _, _, _, _, m2⟩ ⟨R9, r9, hrr⟩ ⟨RE, (fr2 _ (by omega) (by omega)).trans ((B.1 _ (by omega)).trans mE), hre0⟩ ⟨mpk, (fr2 _ (by omega) (by omega)).trans ((B.1 _ (by omega)).trans mP)⟩) ⟨_, _, _, _, _, _, _, m2⟩ ((fr2 _ (by omega) (by omega)).trans (ax_set_self _ _ _)) hv
theorem cs_transferBlock (hA : Γ.2.1 ≤ p) (hs : ScrP Γ h sa N S) (ho : OutP h m) (c1 : ClsP h p m b D er bs len f (mkK np qu ra re le ln nb pl tm ne rw bk nh hw nc cw t y) KS) (hP : PurP len f (mkK np qu ra re le ln nb pl tm ne rw bk nh hw nc cw t y) KS) (hM : ModP h m er bs len f (mkK np qu ra re le ln nb pl tm ne rw bk nh hw nc cw t y) KS) (hi : i0 + 5 ≤ N) (k : ∀ h', Sim Γ h' p m sa N S → WP Γ ML_law (10, 196, c0, s0) 3329 [some (.ref sa), some (.ref p), some (.ref m), some (.ref (m + 12)), some (.ref (m + 13)), some (.int (nI i0)), none, none, none, none] [] h' Q) : WP Γ ML_law (10, 196, c0 + 20, s0 + 4409) 690 [some (.ref sa), some (.ref p), some (.ref m), some (.ref (m + 12)), some (.ref (m + 13)), some (.int (nI i0)), none, none, none, none] [] h Q := by
  have hs0 := hs
  have c10 := c1
  have hP0 := hP
  have hM0 := hM
  obtain ⟨hsa, hsl, hN, hfree⟩ := hs
  obtain ⟨⟨fo, o1⟩, fd, o2⟩ := ho
  obtain ⟨hF, hT, hR3, hBat, hSna, ⟨pk, hL⟩, hX, hbD, hm, hz, hsn, hap⟩ := c1
  obtain ⟨hlen, hI, hIS⟩ := hP
  obtain ⟨⟨th, at', bg, e9, ea, cm, mC⟩, ⟨R, mR, hr⟩, ⟨R2, mR2⟩, ⟨R3, mR3⟩, ⟨RE, mE, hre⟩, ⟨RA, mRA⟩, ⟨mpk, mP⟩, ⟨B, mB, hB⟩, ⟨CM, mK⟩, CC, CE, SV, mCC, mCE, mSV, hsv, hsr⟩ := hM
  have hI0 : Inv np qu ra re le ln nb pl tm ne rw bk nh hw nc cw t y := hI
  have hr0 : RowR R np qu ra re le ln nb pl tm ne rw bk nh hw nc cw t y := hr
  have hL0 : LedP h b np qu ra re le ln nb pl tm ne rw bk nh hw nc cw t y pk := hL
  have hre0 : ∀ j, j < np → RE j = re j := hre
  obtain ⟨⟨s1, s2, s3, s4, s5, s6, s7, s8, tn, s9, s10⟩, IM, IP, IJ, IR, IC⟩ := hI0
  have hI0 : Inv np qu ra re le ln nb pl tm ne rw bk nh hw nc cw t y := hI
  have hF' := hF
  unfold FacC at hF'
  have ho : OutP h m := ⟨⟨fo, o1⟩, fd, o2⟩
  have TE : ∀ (X Y : Nat) (h2 : AH) (kk : Int32) (v9 : Int32), ¬ kk = 0 → Sim Γ h2 p m sa N S → (∃ tl at' bg e9 ea lr cm, ModC h2 m (m + 1) kk tl at' bg e9 ea lr cm) → WP Γ ML_law (10, 196, c0 + X, s0 + Y) 737 [some (.ref sa), some (.ref p), some (.ref m), some (.ref (m + 12)), some (.ref (m + 13)), some (.int (nI i0)), some (.int kk), none, none, none] [.int v9] h2 Q := by
    intro X Y h2 kk v9 hk hsim hm2
    obtain ⟨tl2, at2, bg2, e2, ea2, lr2, cm2, m2⟩ := hm2
    have m20 := m2
    unfold ModC at m2
    refine wp_istore (n := 739) dL_law_737 rfl rfl rfl rfl ?_
    refine wp_aload_n (n := 740) dL_law_739 rfl rfl ?_
    refine wp_callVs (n := 743) (rm' := (0, 0, 0, 0)) (c0 := c0) (s0 := s0) rfl dL_law_740 rfl mlL_156 [] rfl rfl m2 rfl rfl rfl (Nat.le_of_ble_eq_true rfl) rfl ?_
    refine s_X10_thrown m20 ?_
    show WP Γ _ _ _ _ _ _ _
    refine wp_iload (n := 745) dL_law_743 rfl rfl ?_
    refine wp_icmp_eq (t := 750) (n := 748) dL_law_745 (by decide) rfl (fun hc => ?_) (fun hc => ?_)
    · refine wp_iload (n := 752) dL_law_750 rfl rfl ?_
      refine wp_if_ne (t := 767) (n := 755) dL_law_752 (by decide) rfl (fun hq => ?_) (fun hq => ?_)
      · refine wp_goto (t := 3329) dL_law_767 (by decide) ?_
        refine wp_lo (lo' := [some (.ref sa), some (.ref p), some (.ref m), some (.ref (m + 12)), some (.ref (m + 13)), some (.int (nI i0)), none, none, none, none]) (fun k v hk => ?_) ?_
        · match k, hk with
          | 0, hk => exact hk
          | 1, hk => exact hk
          | 2, hk => exact hk
          | 3, hk => exact hk
          | 4, hk => exact hk
          | 5, hk => exact hk
          | 6, hk => exact absurd hk (by simp [ax_gl])
          | 7, hk => exact absurd hk (by simp [ax_gl])
          | 8, hk => exact absurd hk (by simp [ax_gl])
          | 9, hk => exact absurd hk (by simp [ax_gl])
          | k + 10, hk => exact absurd hk (by simp [ax_gl])
        exact wp_big (rm := (10, 196, c0, s0)) (Nat.le_refl _) (Nat.le_refl _) (Nat.le_add_right _ _) (Nat.le_add_right _ _) (k h2 hsim)
      · exact absurd hq hk
    · exact absurd rfl hc
  have TO : ∀ (X Y : Nat) (h2 : AH) (r : Int32) (fo2 : Nat → Int64), Sim Γ h2 p m sa N S → (∃ tl at' bg e9 ea lr cm, ModC h2 m (m + 1) 0 tl at' bg e9 ea lr cm) → h2.2 (m + 12) = some (.inl (.long, 1, .inr (.inl fo2))) → fo2 0 = r.toInt64 → WP Γ ML_law (10, 196, c0 + X, s0 + Y) 737 [some (.ref sa), some (.ref p), some (.ref m), some (.ref (m + 12)), some (.ref (m + 13)), some (.int (nI i0)), some (.int 0), none, none, none] [.int r] h2 Q := by
    intro X Y h2 r fo2 hsim hm2 ho2 hv2
    obtain ⟨tl2, at2, bg2, e2, ea2, lr2, cm2, m2⟩ := hm2
    have m20 := m2
    unfold ModC at m2
    have fin : ∀ l7 : Option Value, WP Γ ML_law (10, 196, c0 + (X - 0), s0 + (Y - 0)) 767 [some (.ref sa), some (.ref p), some (.ref m), some (.ref (m + 12)), some (.ref (m + 13)), some (.int (nI i0)), some (.int 0), l7, none, none] [] h2 Q := by
      intro l7
      refine wp_goto (t := 3329) dL_law_767 (by decide) ?_
      refine wp_lo (lo' := [some (.ref sa), some (.ref p), some (.ref m), some (.ref (m + 12)), some (.ref (m + 13)), some (.int (nI i0)), none, none, none, none]) (fun k v hk => ?_) ?_
      · match k, hk with
        | 0, hk => exact hk
        | 1, hk => exact hk
        | 2, hk => exact hk
        | 3, hk => exact hk
        | 4, hk => exact hk
        | 5, hk => exact hk
        | 6, hk => exact absurd hk (by simp [ax_gl])
        | 7, hk => exact absurd hk (by simp [ax_gl])
        | 8, hk => exact absurd hk (by simp [ax_gl])
        | 9, hk => exact absurd hk (by simp [ax_gl])
        | k + 10, hk => exact absurd hk (by simp [ax_gl])
      exact wp_big (rm := (10, 196, c0, s0)) (Nat.le_refl _) (Nat.le_refl _) (Nat.le_add_right _ _) (Nat.le_add_right _ _) (k h2 hsim)
    refine wp_istore (n := 739) dL_law_737 rfl rfl rfl rfl ?_
    refine wp_aload_n (n := 740) dL_law_739 rfl rfl ?_
    refine wp_callVs (n := 743) (rm' := (0, 0, 0, 0)) (c0 := c0) (s0 := s0) rfl dL_law_740 rfl mlL_156 [] rfl rfl m2 rfl rfl rfl (Nat.le_of_ble_eq_true rfl) rfl ?_
    refine s_X10_thrown m20 ?_
    show WP Γ _ _ _ _ _ _ _
    refine wp_iload (n := 745) dL_law_743 rfl rfl ?_
    refine wp_icmp_eq (t := 750) (n := 748) dL_law_745 (by decide) rfl (fun hc => ?_) (fun hc => ?_)
    · refine wp_iload (n := 752) dL_law_750 rfl rfl ?_
      refine wp_if_ne (t := 767) (n := 755) dL_law_752 (by decide) rfl (fun hq => ?_) (fun hq => ?_)
      · exact absurd rfl hq
      · refine wp_aload_n (n := 756) dL_law_755 rfl rfl ?_
        refine wp_iconst (n := 757) (v := 0) dL_law_756 rfl (by decide) ?_
        refine wp_lald (n := 758) 0 dL_law_757 rfl ho2 rfl (by omega) (by omega) ?_
        rw [hv2]
        refine wp_iload (n := 760) dL_law_758 rfl rfl ?_
        refine wp_i2l (n := 761) dL_law_760 rfl ?_
        refine wp_lcmp (n := 762) dL_law_761 rfl ?_
        rw [lg_self]
        refine wp_if_eq (t := 767) (n := 765) dL_law_762 (by decide) rfl (fun hu => ?_) (fun hu => ?_)
        · exact fin _
        · exact absurd rfl hu
    · exact absurd rfl hc
  have MC : ∀ (X Y : Nat) (h3 : AH) (kk : Int32), h3.2 m = h.2 m → h3.2 sa = h.2 sa → WP Γ MX10_transferBlock (4, 90, 0, 0) 0 [some (.ref m), some (.int (S (i0 + 1))), some (.int (S (i0 + 2))), some (.int (S (i0 + 3))), none, none] [] h3 (ax_K Γ ML_law (10, 196, c0 + (X - 0), s0 + (Y - 0)) 737 [some (.ref sa), some (.ref p), some (.ref m), some (.ref (m + 12)), some (.ref (m + 13)), some (.int (nI i0)), some (.int kk), none, none, none] [] Q) → WP Γ ML_law (10, 196, c0 + X, s0 + Y) 713 [some (.ref sa), some (.ref p), some (.ref m), some (.ref (m + 12)), some (.ref (m + 13)), some (.int (nI i0)), none, none, none, none] [.int kk] h3 Q := by
    intro X Y h3 kk e1 e2 kk3
    have mC3' := ModC.mv e1 mC
    unfold ModC at mC3'
    have hsa3 := e2.trans hsa
    refine wp_istore (n := 715) dL_law_713 rfl rfl rfl rfl ?_
    refine wp_aload_n (n := 716) dL_law_715 rfl rfl ?_
    refine wp_aload_n (n := 717) dL_law_716 rfl rfl ?_
    refine wp_iload (n := 719) dL_law_717 rfl rfl ?_
    refine wp_iconst (n := 720) (v := nI 1) dL_law_719 rfl (by decide) ?_
    refine wp_iadd (n := 721) dL_law_720 rfl ?_
    refine wp_iald (n := 722) (i0 + 1) dL_law_721 rfl (by repeat first | assumption | exact ax_set_self _ _ _ | exact ax_newA_self _ _ _ | refine (ax_set_ne _ _ (by omega)).trans ?_ | refine (ax_newA_ne _ _ _ (by omega)).trans ?_) (by simp only [nI_zero, nI_mul, nI_add]) (by omega) (by omega) ?_
    refine wp_aload_n (n := 723) dL_law_722 rfl rfl ?_
    refine wp_iload (n := 725) dL_law_723 rfl rfl ?_
    refine wp_iconst (n := 726) (v := nI 2) dL_law_725 rfl (by decide) ?_
    refine wp_iadd (n := 727) dL_law_726 rfl ?_
    refine wp_iald (n := 728) (i0 + 2) dL_law_727 rfl (by repeat first | assumption | exact ax_set_self _ _ _ | exact ax_newA_self _ _ _ | refine (ax_set_ne _ _ (by omega)).trans ?_ | refine (ax_newA_ne _ _ _ (by omega)).trans ?_) (by simp only [nI_zero, nI_mul, nI_add]) (by omega) (by omega) ?_
    refine wp_aload_n (n := 729) dL_law_728 rfl rfl ?_
    refine wp_iload (n := 731) dL_law_729 rfl rfl ?_
    refine wp_iconst (n := 732) (v := nI 3) dL_law_731 rfl (by decide) ?_
    refine wp_iadd (n := 733) dL_law_732 rfl ?_
    refine wp_iald (n := 734) (i0 + 3) dL_law_733 rfl (by repeat first | assumption | exact ax_set_self _ _ _ | exact ax_newA_self _ _ _ | refine (ax_set_ne _ _ (by omega)).trans ?_ | refine (ax_newA_ne _ _ _ (by omega)).trans ?_) (by simp only [nI_zero, nI_mul, nI_add]) (by omega) (by omega) ?_
    refine wp_callVs (n := 737) (rm' := (4, 90, 0, 0)) (c0 := c0) (s0 := s0) rfl dL_law_734 rfl mlL_201 [.int (S (i0 + 1)), .int (S (i0 + 2)), .int (S (i0 + 3))] rfl rfl mC3' rfl rfl rfl (Nat.le_of_ble_eq_true rfl) rfl ?_
    exact kk3
  refine wp_aload_n (n := 691) dL_law_690 rfl rfl ?_
  refine wp_aload_n (n := 692) dL_law_691 rfl rfl ?_
  refine wp_iload (n := 694) dL_law_692 rfl rfl ?_
  refine wp_iconst (n := 695) (v := nI 1) dL_law_694 rfl (by decide) ?_
  refine wp_iadd (n := 696) dL_law_695 rfl ?_
  refine wp_iald (n := 697) (i0 + 1) dL_law_696 rfl (by repeat first | assumption | exact ax_set_self _ _ _ | exact ax_newA_self _ _ _ | refine (ax_set_ne _ _ (by omega)).trans ?_ | refine (ax_newA_ne _ _ _ (by omega)).trans ?_) (by simp only [nI_zero, nI_mul, nI_add]) (by omega) (by omega) ?_
  refine wp_aload_n (n := 698) dL_law_697 rfl rfl ?_
  refine wp_iload (n := 700) dL_law_698 rfl rfl ?_
  refine wp_iconst (n := 701) (v := nI 2) dL_law_700 rfl (by decide) ?_
  refine wp_iadd (n := 702) dL_law_701 rfl ?_
  refine wp_iald (n := 703) (i0 + 2) dL_law_702 rfl (by repeat first | assumption | exact ax_set_self _ _ _ | exact ax_newA_self _ _ _ | refine (ax_set_ne _ _ (by omega)).trans ?_ | refine (ax_newA_ne _ _ _ (by omega)).trans ?_) (by simp only [nI_zero, nI_mul, nI_add]) (by omega) (by omega) ?_
  refine wp_aload_n (n := 704) dL_law_703 rfl rfl ?_
  refine wp_iload (n := 706) dL_law_704 rfl rfl ?_
  refine wp_iconst (n := 707) (v := nI 3) dL_law_706 rfl (by decide) ?_
  refine wp_iadd (n := 708) dL_law_707 rfl ?_
  refine wp_iald (n := 709) (i0 + 3) dL_law_708 rfl (by repeat first | assumption | exact ax_set_self _ _ _ | exact ax_newA_self _ _ _ | refine (ax_set_ne _ _ (by omega)).trans ?_ | refine (ax_newA_ne _ _ _ (by omega)).trans ?_) (by simp only [nI_zero, nI_mul, nI_add]) (by omega) (by omega) ?_
  refine wp_aload_n (n := 710) dL_law_709 rfl rfl ?_
  refine wp_callSH (n := 713) (rm' := (8, 139, 3, 18)) (c0 := c0) (s0 := s0) (C := 20) (S := 4409) rfl dL_law_710 rfl mwL_198 [.ref p, .int (S (i0 + 1)), .int (S (i0 + 2)), .int (S (i0 + 3)), .ref (m + 12)] rfl rfl rfl rfl (Nat.le_of_ble_eq_true rfl) rfl ?_
  refine s_L_transferBlock hF' (by omega) ?_
  refine s_X9_transferBlock hF hL0 (by omega) (by omega) (by omega) (by omega) (by omega) (fun c1 n1 hn1 => ?_) (fun c1 c2 n1 hn1 => ?_) (fun i j hi hj ei ej c2 r er9 hr9 => ?_) (fun i j hi hj ei ej c2 hne hpl hob h1 bk1 pk1 fr1 hpk hL1 hbok => ?_)
  · refine Or.inr (Or.inr ⟨rfl, Or.inl ⟨rfl, ?_⟩⟩)
    show WP Γ _ _ _ _ _ _ _
    have B : Bet p m h h _ := Bet.n (p := p) ho hn1
    refine MC _ _ _ _ (B.1 _ (by omega)) (B.1 _ (by omega)) ?_
    refine s_X10_transferBlock (ModC.mv (B.1 _ (by omega)) mC) ((B.1 _ (by omega)).trans mR) hr0 hI0 (by omega) (by omega) ((B.1 _ (by omega)).trans mP) (by omega) (by omega) (fun d1 h2 fr2 m2 => ?_) (fun d1 d2 h2 fr2 m2 => ?_) (fun i2 hi2 ei2 j2 hj2 ej2 d2 r2 er2 hr2 h2 fr2 m2 => ?_) (fun i2 hi2 ei2 j2 hj2 ej2 d2 hne2 hpl2 hob2 h2 R9 pk2 fz fr2 m2 r9 p2 hK => ?_)
    · show WP Γ _ _ _ _ _ _ _
      exact TE _ _ h2 _ _ (by decide) (fin_q hA hs0 hM0 hP0 c10 hm B fr2 ⟨_, _, _, _, _, _, m2⟩) ⟨_, _, _, _, _, _, _, m2⟩
    · exact absurd (c1.symm.trans d1) (by decide)
    · have d1 : (inN (S (i0 + 1)) nb && inN (S (i0 + 2)) np) = true := by rw [ei2, ej2, inN_of hi2 (by omega), inN_of hj2 (by omega)]; rfl
      exact absurd (c1.symm.trans d1) (by decide)
    · have d1 : (inN (S (i0 + 1)) nb && inN (S (i0 + 2)) np) = true := by rw [ei2, ej2, inN_of hi2 (by omega), inN_of hj2 (by omega)]; rfl
      exact absurd (c1.symm.trans d1) (by decide)
  · refine Or.inr (Or.inr ⟨rfl, Or.inr ⟨rfl, ?_⟩⟩)
    show WP Γ _ _ _ _ _ _ _
    have B : Bet p m h h _ := Bet.n (p := p) ho hn1
    refine MC _ _ _ _ (B.1 _ (by omega)) (B.1 _ (by omega)) ?_
    refine s_X10_transferBlock (ModC.mv (B.1 _ (by omega)) mC) ((B.1 _ (by omega)).trans mR) hr0 hI0 (by omega) (by omega) ((B.1 _ (by omega)).trans mP) (by omega) (by omega) (fun d1 h2 fr2 m2 => ?_) (fun d1 d2 h2 fr2 m2 => ?_) (fun i2 hi2 ei2 j2 hj2 ej2 d2 r2 er2 hr2 h2 fr2 m2 => ?_) (fun i2 hi2 ei2 j2 hj2 ej2 d2 hne2 hpl2 hob2 h2 R9 pk2 fz fr2 m2 r9 p2 hK => ?_)
    · exact absurd (c1.symm.trans d1) (by decide)
    · show WP Γ _ _ _ _ _ _ _
      exact TE _ _ h2 _ _ (by decide) (fin_q hA hs0 hM0 hP0 c10 hm B fr2 ⟨_, _, _, _, _, _, m2⟩) ⟨_, _, _, _, _, _, _, m2⟩
    · have d1 : (inN (S (i0 + 1)) nb && inN (S (i0 + 2)) np) = true := by rw [ei2, ej2, inN_of hi2 (by omega), inN_of hj2 (by omega)]; rfl
      exact absurd (c2.symm.trans d2) (by decide)
    · have d1 : (inN (S (i0 + 1)) nb && inN (S (i0 + 2)) np) = true := by rw [ei2, ej2, inN_of hi2 (by omega), inN_of hj2 (by omega)]; rfl
      exact absurd (c2.symm.trans d2) (by decide)
  · refine ⟨fo, o1, fun fo1 hv => ?_⟩
    show WP Γ _ _ _ _ _ _ _
    have B : Bet p m h h _ := Bet.o fo1 ho hm (fun _ _ => rfl)
    have c1 : (inN (S (i0 + 1)) nb && inN (S (i0 + 2)) np) = true := by rw [ei, ej, inN_of hi (by omega), inN_of hj (by omega)]; rfl
    refine MC _ _ _ _ (B.1 _ (by omega)) (B.1 _ (by omega)) ?_
    refine s_X10_transferBlock (ModC.mv (B.1 _ (by omega)) mC) ((B.1 _ (by omega)).trans mR) hr0 hI0 (by omega) (by omega) ((B.1 _ (by omega)).trans mP) (by omega) (by omega) (fun d1 h2 fr2 m2 => ?_) (fun d1 d2 h2 fr2 m2 => ?_) (fun i2 hi2 ei2 j2 hj2 ej2 d2 r2 er2 hr2 h2 fr2 m2 => ?_) (fun i2 hi2 ei2 j2 hj2 ej2 d2 hne2 hpl2 hob2 h2 R9 pk2 fz fr2 m2 r9 p2 hK => ?_)
    · exact absurd (c1.symm.trans d1) (by decide)
    · exact absurd (c2.symm.trans d2) (by decide)
    · have d1 : (inN (S (i0 + 1)) nb && inN (S (i0 + 2)) np) = true := by rw [ei2, ej2, inN_of hi2 (by omega), inN_of hj2 (by omega)]; rfl
      show WP Γ _ _ _ _ _ _ _
      obtain rfl : i = i2 := (nI_eq9 (by omega) (by omega)).mp (ei.symm.trans ei2)
      obtain rfl : j = j2 := (nI_eq9 (by omega) (by omega)).mp (ej.symm.trans ej2)
      obtain rfl : r = r2 := er9.trans er2.symm
      exact TO _ _ h2 _ fo1 (fin_q hA hs0 hM0 hP0 c10 hm B fr2 ⟨_, _, _, _, _, _, m2⟩) ⟨_, _, _, _, _, _, _, m2⟩ ((fr2.2 _ (by omega)).trans (ax_set_self _ _ _)) hv
    · have d1 : (inN (S (i0 + 1)) nb && inN (S (i0 + 2)) np) = true := by rw [ei2, ej2, inN_of hi2 (by omega), inN_of hj2 (by omega)]; rfl
      obtain rfl : i = i2 := (nI_eq9 (by omega) (by omega)).mp (ei.symm.trans ei2)
      obtain rfl : j = j2 := (nI_eq9 (by omega) (by omega)).mp (ej.symm.trans ej2)
      rw [if_neg (by omega), if_neg hpl2, hob2] at er9
      rw [er9] at hr9
      exact absurd hr9 (by decide)
  · refine ⟨fo, ((fr1.2 _ (by omega)).trans o1), fun fo1 hv => ?_⟩
    show WP Γ _ _ _ _ _ _ _
    have B : Bet p m h h1 _ := Bet.o fo1 ho hm (fun c hc => fr1.2 c (by omega))
    have c1 : (inN (S (i0 + 1)) nb && inN (S (i0 + 2)) np) = true := by rw [ei, ej, inN_of hi (by omega), inN_of hj (by omega)]; rfl
    refine MC _ _ _ _ (B.1 _ (by omega)) (B.1 _ (by omega)) ?_
    refine s_X10_transferBlock (ModC.mv (B.1 _ (by omega)) mC) ((B.1 _ (by omega)).trans mR) hr0 hI0 (by omega) (by omega) ((B.1 _ (by omega)).trans mP) (by omega) (by omega) (fun d1 h2 fr2 m2 => ?_) (fun d1 d2 h2 fr2 m2 => ?_) (fun i2 hi2 ei2 j2 hj2 ej2 d2 r2 er2 hr2 h2 fr2 m2 => ?_) (fun i2 hi2 ei2 j2 hj2 ej2 d2 hne2 hpl2 hob2 h2 R9 pk2 fz fr2 m2 r9 p2 hK => ?_)
    · exact absurd (c1.symm.trans d1) (by decide)
    · exact absurd (c2.symm.trans d2) (by decide)
    · have d1 : (inN (S (i0 + 1)) nb && inN (S (i0 + 2)) np) = true := by rw [ei2, ej2, inN_of hi2 (by omega), inN_of hj2 (by omega)]; rfl
      obtain rfl : i = i2 := (nI_eq9 (by omega) (by omega)).mp (ei.symm.trans ei2)
      obtain rfl : j = j2 := (nI_eq9 (by omega) (by omega)).mp (ej.symm.trans ej2)
      rw [if_neg (by omega), if_neg hpl, hob] at er2
      rw [er2] at hr2
      exact absurd hr2 (by decide)
    · have d1 : (inN (S (i0 + 1)) nb && inN (S (i0 + 2)) np) = true := by rw [ei2, ej2, inN_of hi2 (by omega), inN_of hj2 (by omega)]; rfl
      show WP Γ _ _ _ _ _ _ _
      obtain rfl : i = i2 := (nI_eq9 (by omega) (by omega)).mp (ei.symm.trans ei2)
      obtain rfl : j = j2 := (nI_eq9 (by omega) (by omega)).mp (ej.symm.trans ej2)
      obtain ⟨⟨q, hq, eq⟩, _⟩ := IM i hi
      have hInv : InvK (mkK np qu ra re le ln nb (putF pl nb pk1 (nI j)) (putF tm nb pk1 t) (ne + 1) (upd7 rw ne (pl i) (nI j) (nI 1) (S (i0 + 3)) t 0 (-1)) bk1 nh hw nc cw t y) := by
        show Inv np qu ra re le ln nb (putF pl nb pk1 (nI j)) (putF tm nb pk1 t) (ne + 1) (upd7 rw ne (pl i) (nI j) (nI 1) (S (i0 + 3)) t 0 (-1)) bk1 nh hw nc cw t y
        rw [eq]
        exact hI0.book hq hj (m := 1) (by omega) hne hbok (fun d hd hd2 => by rw [hpk d hd] at hd2; have hd3 := of_decide_eq_true (bI_ne hd2); omega)
      exact TO _ _ h2 _ fo1 (fin_s (K' := mkK np qu ra re le ln nb (putF pl nb pk1 (nI j)) (putF tm nb pk1 t) (ne + 1) (upd7 rw ne (pl i) (nI j) (nI 1) (S (i0 + 3)) t 0 (-1)) bk1 nh hw nc cw t y) hA hs0 hM0 ⟨hlen, hInv, hIS⟩ (c10.led fr1 ⟨_, hL1⟩) hm B fz (fun c a b _ d => fr2 c a b d) ⟨_, _, _, _, _, _, m2⟩ ⟨R9, r9, hK _ _ hpk hbok⟩ ⟨RE, (fr2 _ (by omega) (by omega) (by omega)).trans ((B.1 _ (by omega)).trans mE), hre0⟩ ⟨pk2, p2⟩) ⟨_, _, _, _, _, _, _, m2⟩ ((fr2 _ (by omega) (by omega) (by omega)).trans (ax_set_self _ _ _)) hv
end
