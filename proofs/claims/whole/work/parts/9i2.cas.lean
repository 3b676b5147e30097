/-! ===== the law: cases ===== -/
section
variable {Γ : GE} {h : AH} {Q : PO} {p m b D sa N len i0 c0 s0 np nb ne nh nc y : Nat} {er : Int32} {bs S : FI} {f : Nat → Option Nat} {KS : Nat → KL} {qu ra le ln pl tm rw hw cw : FI} {re : Nat → UInt32} {bk : Nat → Int64} {t : Int32}
theorem cs_textError (hA : Γ.2.1 ≤ p) (hs : ScrP Γ h sa N S) (ho : OutP h m) (c1 : ClsP h p m b D er bs len f (mkK np qu ra re le ln nb pl tm ne rw bk nh hw nc cw t y) KS) (hP : PurP len f (mkK np qu ra re le ln nb pl tm ne rw bk nh hw nc cw t y) KS) (hM : ModP h m er bs len f (mkK np qu ra re le ln nb pl tm ne rw bk nh hw nc cw t y) KS) (hi : i0 + 5 ≤ N) (k : ∀ h', Sim Γ h' p m sa N S → WP Γ ML_law (10, 196, c0, s0) 3329 [some (.ref sa), some (.ref p), some (.ref m), some (.ref (m + 12)), some (.ref (m + 13)), some (.int (nI i0)), none, none, none, none] [] h' Q) : WP Γ ML_law (10, 196, c0 + 20, s0 + 4409) 353 [some (.ref sa), some (.ref p), some (.ref m), some (.ref (m + 12)), some (.ref (m + 13)), some (.int (nI i0)), none, none, none, none] [] h Q := by
  have hs0 := hs
  have c10 := c1
  have hP0 := hP
  have hM0 := hM
  obtain ⟨hsa, hsl, hN, hfree⟩ := hs
  obtain ⟨⟨fo, o1⟩, fd, o2⟩ := ho
  obtain ⟨hF, hT, hR3, hBat, hSna, ⟨pk, hL⟩, hX, hbD, hm, hz, hsn, hap⟩ := c1
  obtain ⟨hlen, hI, hIS⟩ := hP
  obtain ⟨⟨th, at', bg, e9, ea, cm, mC⟩, ⟨R, mR, hr⟩, ⟨R2, mR2⟩, ⟨R3, mR3⟩, ⟨RE, mE, hre⟩, ⟨RA, mRA⟩, ⟨mpk, mP⟩, ⟨B, mB, hB⟩, ⟨CM, mK⟩, CC, CE, SV, mCC, mCE, mSV, hsv, hsr⟩ := hM
  have hI0 : Inv np qu ra re le ln nb pl tm ne rw bk nh hw nc cw t y := hI
  have hr0 : RowR R np qu ra re le ln nb pl tm ne rw bk nh hw nc cw t y := hr
  have hL0 : LedP h b np qu ra re le ln nb pl tm ne rw bk nh hw nc cw t y pk := hL
  have hre0 : ∀ j, j < np → RE j = re j := hre
  obtain ⟨⟨s1, s2, s3, s4, s5, s6, s7, s8, tn, s9, s10⟩, IM, IP, IJ, IR, IC⟩ := hI0
  have hI0 : Inv np qu ra re le ln nb pl tm ne rw bk nh hw nc cw t y := hI
  have hF' := hF
  unfold FacC at hF'
  have ho : OutP h m := ⟨⟨fo, o1⟩, fd, o2⟩
  refine wp_aload_n (n := 354) dL_law_353 rfl rfl ?_
  refine wp_callVs (n := 357) (rm' := (0, 0, 0, 0)) (c0 := c0) (s0 := s0) (C := 20) (S := 4409) rfl dL_law_354 rfl mlL_164 [] rfl rfl hF' rfl rfl rfl (Nat.le_of_ble_eq_true rfl) rfl ?_
  refine s_X9_textError hF hL0 ?_
  · show WP Γ _ _ _ _ _ _ _
    have B : Bet p m h h h := Bet.r ho (fun _ _ => rfl)
    have mC3' := ModC.mv (B.1 m (by omega)) mC
    unfold ModC at mC3'
    refine wp_aload_n (n := 358) dL_law_357 rfl rfl ?_
    refine wp_callVs (n := 361) (rm' := (0, 0, 0, 0)) (c0 := c0) (s0 := s0) rfl dL_law_358 rfl mlL_167 [] rfl rfl mC3' rfl rfl rfl (Nat.le_of_ble_eq_true rfl) rfl ?_
    refine s_X10_textError (ModC.mv (B.1 _ (by omega)) mC) (by omega) (fun h2 fr2 m2 => ?_)
    · show WP Γ _ _ _ _ _ _ _
      refine wp_icmp_eq (t := 3329) (n := 364) dL_law_361 (by decide) rfl (fun hc => ?_) (fun hc => ?_)
      · exact wp_big (rm := (10, 196, c0, s0)) (Nat.le_refl _) (Nat.le_refl _) (Nat.le_add_right _ _) (Nat.le_add_right _ _) (k h2 (fin_q hA hs0 hM0 hP0 c10 hm B fr2 ⟨_, _, _, _, _, _, m2⟩))
      · exact absurd rfl hc
theorem cs_blockCount (hA : Γ.2.1 ≤ p) (hs : ScrP Γ h sa N S) (ho : OutP h m) (c1 : ClsP h p m b D er bs len f (mkK np qu ra re le ln nb pl tm ne rw bk nh hw nc cw t y) KS) (hP : PurP len f (mkK np qu ra re le ln nb pl tm ne rw bk nh hw nc cw t y) KS) (hM : ModP h m er bs len f (mkK np qu ra re le ln nb pl tm ne rw bk nh hw nc cw t y) KS) (hi : i0 + 5 ≤ N) (k : ∀ h', Sim Γ h' p m sa N S → WP Γ ML_law (10, 196, c0, s0) 3329 [some (.ref sa), some (.ref p), some (.ref m), some (.ref (m + 12)), some (.ref (m + 13)), some (.int (nI i0)), none, none, none, none] [] h' Q) : WP Γ ML_law (10, 196, c0 + 20, s0 + 4409) 379 [some (.ref sa), some (.ref p), some (.ref m), some (.ref (m + 12)), some (.ref (m + 13)), some (.int (nI i0)), none, none, none, none] [] h Q := by
  have hs0 := hs
  have c10 := c1
  have hP0 := hP
  have hM0 := hM
  obtain ⟨hsa, hsl, hN, hfree⟩ := hs
  obtain ⟨⟨fo, o1⟩, fd, o2⟩ := ho
  obtain ⟨hF, hT, hR3, hBat, hSna, ⟨pk, hL⟩, hX, hbD, hm, hz, hsn, hap⟩ := c1
  obtain ⟨hlen, hI, hIS⟩ := hP
  obtain ⟨⟨th, at', bg, e9, ea, cm, mC⟩, ⟨R, mR, hr⟩, ⟨R2, mR2⟩, ⟨R3, mR3⟩, ⟨RE, mE, hre⟩, ⟨RA, mRA⟩, ⟨mpk, mP⟩, ⟨B, mB, hB⟩, ⟨CM, mK⟩, CC, CE, SV, mCC, mCE, mSV, hsv, hsr⟩ := hM
  have hI0 : Inv np qu ra re le ln nb pl tm ne rw bk nh hw nc cw t y := hI
  have hr0 : RowR R np qu ra re le ln nb pl tm ne rw bk nh hw nc cw t y := hr
  have hL0 : LedP h b np qu ra re le ln nb pl tm ne rw bk nh hw nc cw t y pk := hL
  have hre0 : ∀ j, j < np → RE j = re j := hre
  obtain ⟨⟨s1, s2, s3, s4, s5, s6, s7, s8, tn, s9, s10⟩, IM, IP, IJ, IR, IC⟩ := hI0
  have hI0 : Inv np qu ra re le ln nb pl tm ne rw bk nh hw nc cw t y := hI
  have hF' := hF
  unfold FacC at hF'
  have ho : OutP h m := ⟨⟨fo, o1⟩, fd, o2⟩
  refine wp_aload_n (n := 380) dL_law_379 rfl rfl ?_
  refine wp_callVs (n := 383) (rm' := (0, 0, 0, 0)) (c0 := c0) (s0 := s0) (C := 20) (S := 4409) rfl dL_law_380 rfl mlL_172 [] rfl rfl hF' rfl rfl rfl (Nat.le_of_ble_eq_true rfl) rfl ?_
  refine s_X9_blockCount hF hL0 ?_
  · show WP Γ _ _ _ _ _ _ _
    have B : Bet p m h h h := Bet.r ho (fun _ _ => rfl)
    have mC3' := ModC.mv (B.1 m (by omega)) mC
    unfold ModC at mC3'
    refine wp_aload_n (n := 384) dL_law_383 rfl rfl ?_
    refine wp_callVs (n := 387) (rm' := (0, 0, 0, 0)) (c0 := c0) (s0 := s0) rfl dL_law_384 rfl mlL_175 [] rfl rfl mC3' rfl rfl rfl (Nat.le_of_ble_eq_true rfl) rfl ?_
    refine s_X10_blockCount (ModC.mv (B.1 _ (by omega)) mC) ((B.1 _ (by omega)).trans mR) hr0 (by omega) (by omega) (fun h2 fr2 m2 => ?_)
    · show WP Γ _ _ _ _ _ _ _
      refine wp_icmp_eq (t := 3329) (n := 390) dL_law_387 (by decide) rfl (fun hc => ?_) (fun hc => ?_)
      · exact wp_big (rm := (10, 196, c0, s0)) (Nat.le_refl _) (Nat.le_refl _) (Nat.le_add_right _ _) (Nat.le_add_right _ _) (k h2 (fin_q hA hs0 hM0 hP0 c10 hm B fr2 ⟨_, _, _, _, _, _, m2⟩))
      · exact absurd rfl hc
theorem cs_poolCount (hA : Γ.2.1 ≤ p) (hs : ScrP Γ h sa N S) (ho : OutP h m) (c1 : ClsP h p m b D er bs len f (mkK np qu ra re le ln nb pl tm ne rw bk nh hw nc cw t y) KS) (hP : PurP len f (mkK np qu ra re le ln nb pl tm ne rw bk nh hw nc cw t y) KS) (hM : ModP h m er bs len f (mkK np qu ra re le ln nb pl tm ne rw bk nh hw nc cw t y) KS) (hi : i0 + 5 ≤ N) (k : ∀ h', Sim Γ h' p m sa N S → WP Γ ML_law (10, 196, c0, s0) 3329 [some (.ref sa), some (.ref p), some (.ref m), some (.ref (m + 12)), some (.ref (m + 13)), some (.int (nI i0)), none, none, none, none] [] h' Q) : WP Γ ML_law (10, 196, c0 + 20, s0 + 4409) 392 [some (.ref sa), some (.ref p), some (.ref m), some (.ref (m + 12)), some (.ref (m + 13)), some (.int (nI i0)), none, none, none, none] [] h Q := by
  have hs0 := hs
  have c10 := c1
  have hP0 := hP
  have hM0 := hM
  obtain ⟨hsa, hsl, hN, hfree⟩ := hs
  obtain ⟨⟨fo, o1⟩, fd, o2⟩ := ho
  obtain ⟨hF, hT, hR3, hBat, hSna, ⟨pk, hL⟩, hX, hbD, hm, hz, hsn, hap⟩ := c1
  obtain ⟨hlen, hI, hIS⟩ := hP
  obtain ⟨⟨th, at', bg, e9, ea, cm, mC⟩, ⟨R, mR, hr⟩, ⟨R2, mR2⟩, ⟨R3, mR3⟩, ⟨RE, mE, hre⟩, ⟨RA, mRA⟩, ⟨mpk, mP⟩, ⟨B, mB, hB⟩, ⟨CM, mK⟩, CC, CE, SV, mCC, mCE, mSV, hsv, hsr⟩ := hM
  have hI0 : Inv np qu ra re le ln nb pl tm ne rw bk nh hw nc cw t y := hI
  have hr0 : RowR R np qu ra re le ln nb pl tm ne rw bk nh hw nc cw t y := hr
  have hL0 : LedP h b np qu ra re le ln nb pl tm ne rw bk nh hw nc cw t y pk := hL
  have hre0 : ∀ j, j < np → RE j = re j := hre
  obtain ⟨⟨s1, s2, s3, s4, s5, s6, s7, s8, tn, s9, s10⟩, IM, IP, IJ, IR, IC⟩ := hI0
  have hI0 : Inv np qu ra re le ln nb pl tm ne rw bk nh hw nc cw t y := hI
  have hF' := hF
  unfold FacC at hF'
  have ho : OutP h m := ⟨⟨fo, o1⟩, fd, o2⟩
  refine wp_aload_n (n := 393) dL_law_392 rfl rfl ?_
  refine wp_callVs (n := 396) (rm' := (0, 0, 0, 0)) (c0 := c0) (s0 := s0) (C := 20) (S := 4409) rfl dL_law_393 rfl mlL_176 [] rfl rfl hF' rfl rfl rfl (Nat.le_of_ble_eq_true rfl) rfl ?_
  refine s_X9_poolCount hF hL0 ?_
  · show WP Γ _ _ _ _ _ _ _
    have B : Bet p m h h h := Bet.r ho (fun _ _ => rfl)
    have mC3' := ModC.mv (B.1 m (by omega)) mC
    unfold ModC at mC3'
    refine wp_aload_n (n := 397) dL_law_396 rfl rfl ?_
    refine wp_callVs (n := 400) (rm' := (0, 0, 0, 0)) (c0 := c0) (s0 := s0) rfl dL_law_397 rfl mlL_179 [] rfl rfl mC3' rfl rfl rfl (Nat.le_of_ble_eq_true rfl) rfl ?_
    refine s_X10_poolCount (ModC.mv (B.1 _ (by omega)) mC) ((B.1 _ (by omega)).trans mR) hr0 (by omega) (by omega) (fun h2 fr2 m2 => ?_)
    · show WP Γ _ _ _ _ _ _ _
      refine wp_icmp_eq (t := 3329) (n := 403) dL_law_400 (by decide) rfl (fun hc => ?_) (fun hc => ?_)
      · exact wp_big (rm := (10, 196, c0, s0)) (Nat.le_refl _) (Nat.le_refl _) (Nat.le_add_right _ _) (Nat.le_add_right _ _) (k h2 (fin_q hA hs0 hM0 hP0 c10 hm B fr2 ⟨_, _, _, _, _, _, m2⟩))
      · exact absurd rfl hc
theorem cs_now (hA : Γ.2.1 ≤ p) (hs : ScrP Γ h sa N S) (ho : OutP h m) (c1 : ClsP h p m b D er bs len f (mkK np qu ra re le ln nb pl tm ne rw bk nh hw nc cw t y) KS) (hP : PurP len f (mkK np qu ra re le ln nb pl tm ne rw bk nh hw nc cw t y) KS) (hM : ModP h m er bs len f (mkK np qu ra re le ln nb pl tm ne rw bk nh hw nc cw t y) KS) (hi : i0 + 5 ≤ N) (k : ∀ h', Sim Γ h' p m sa N S → WP Γ ML_law (10, 196, c0, s0) 3329 [some (.ref sa), some (.ref p), some (.ref m), some (.ref (m + 12)), some (.ref (m + 13)), some (.int (nI i0)), none, none, none, none] [] h' Q) : WP Γ ML_law (10, 196, c0 + 20, s0 + 4409) 473 [some (.ref sa), some (.ref p), some (.ref m), some (.ref (m + 12)), some (.ref (m + 13)), some (.int (nI i0)), none, none, none, none] [] h Q := by
  have hs0 := hs
  have c10 := c1
  have hP0 := hP
  have hM0 := hM
  obtain ⟨hsa, hsl, hN, hfree⟩ := hs
  obtain ⟨⟨fo, o1⟩, fd, o2⟩ := ho
  obtain ⟨hF, hT, hR3, hBat, hSna, ⟨pk, hL⟩, hX, hbD, hm, hz, hsn, hap⟩ := c1
  obtain ⟨hlen, hI, hIS⟩ := hP
  obtain ⟨⟨th, at', bg, e9, ea, cm, mC⟩, ⟨R, mR, hr⟩, ⟨R2, mR2⟩, ⟨R3, mR3⟩, ⟨RE, mE, hre⟩, ⟨RA, mRA⟩, ⟨mpk, mP⟩, ⟨B, mB, hB⟩, ⟨CM, mK⟩, CC, CE, SV, mCC, mCE, mSV, hsv, hsr⟩ := hM
  have hI0 : Inv np qu ra re le ln nb pl tm ne rw bk nh hw nc cw t y := hI
  have hr0 : RowR R np qu ra re le ln nb pl tm ne rw bk nh hw nc cw t y := hr
  have hL0 : LedP h b np qu ra re le ln nb pl tm ne rw bk nh hw nc cw t y pk := hL
  have hre0 : ∀ j, j < np → RE j = re j := hre
  obtain ⟨⟨s1, s2, s3, s4, s5, s6, s7, s8, tn, s9, s10⟩, IM, IP, IJ, IR, IC⟩ := hI0
  have hI0 : Inv np qu ra re le ln nb pl tm ne rw bk nh hw nc cw t y := hI
  have hF' := hF
  unfold FacC at hF'
  have ho : OutP h m := ⟨⟨fo, o1⟩, fd, o2⟩
  refine wp_aload_n (n := 474) dL_law_473 rfl rfl ?_
  refine wp_callVs (n := 477) (rm' := (0, 0, 0, 0)) (c0 := c0) (s0 := s0) (C := 20) (S := 4409) rfl dL_law_474 rfl mlL_184 [] rfl rfl hF' rfl rfl rfl (Nat.le_of_ble_eq_true rfl) rfl ?_
  refine s_X9_now hF hL0 ?_
  · show WP Γ _ _ _ _ _ _ _
    have B : Bet p m h h h := Bet.r ho (fun _ _ => rfl)
    have mC3' := ModC.mv (B.1 m (by omega)) mC
    unfold ModC at mC3'
    refine wp_aload_n (n := 478) dL_law_477 rfl rfl ?_
    refine wp_callVs (n := 481) (rm' := (0, 0, 0, 0)) (c0 := c0) (s0 := s0) rfl dL_law_478 rfl mlL_187 [] rfl rfl mC3' rfl rfl rfl (Nat.le_of_ble_eq_true rfl) rfl ?_
    refine s_X10_now (ModC.mv (B.1 _ (by omega)) mC) ((B.1 _ (by omega)).trans mR) hr0 (by omega) (by omega) (fun h2 fr2 m2 => ?_)
    · show WP Γ _ _ _ _ _ _ _
      refine wp_icmp_eq (t := 3329) (n := 484) dL_law_481 (by decide) rfl (fun hc => ?_) (fun hc => ?_)
      · exact wp_big (rm := (10, 196, c0, s0)) (Nat.le_refl _) (Nat.le_refl _) (Nat.le_add_right _ _) (Nat.le_add_right _ _) (k h2 (fin_q hA hs0 hM0 hP0 c10 hm B fr2 ⟨_, _, _, _, _, _, m2⟩))
      · exact absurd rfl hc
theorem cs_entryCount (hA : Γ.2.1 ≤ p) (hs : ScrP Γ h sa N S) (ho : OutP h m) (c1 : ClsP h p m b D er bs len f (mkK np qu ra re le ln nb pl tm ne rw bk nh hw nc cw t y) KS) (hP : PurP len f (mkK np qu ra re le ln nb pl tm ne rw bk nh hw nc cw t y) KS) (hM : ModP h m er bs len f (mkK np qu ra re le ln nb pl tm ne rw bk nh hw nc cw t y) KS) (hi : i0 + 5 ≤ N) (k : ∀ h', Sim Γ h' p m sa N S → WP Γ ML_law (10, 196, c0, s0) 3329 [some (.ref sa), some (.ref p), some (.ref m), some (.ref (m + 12)), some (.ref (m + 13)), some (.int (nI i0)), none, none, none, none] [] h' Q) : WP Γ ML_law (10, 196, c0 + 20, s0 + 4409) 1996 [some (.ref sa), some (.ref p), some (.ref m), some (.ref (m + 12)), some (.ref (m + 13)), some (.int (nI i0)), none, none, none, none] [] h Q := by
  have hs0 := hs
  have c10 := c1
  have hP0 := hP
  have hM0 := hM
  obtain ⟨hsa, hsl, hN, hfree⟩ := hs
  obtain ⟨⟨fo, o1⟩, fd, o2⟩ := ho
  obtain ⟨hF, hT, hR3, hBat, hSna, ⟨pk, hL⟩, hX, hbD, hm, hz, hsn, hap⟩ := c1
  obtain ⟨hlen, hI, hIS⟩ := hP
  obtain ⟨⟨th, at', bg, e9, ea, cm, mC⟩, ⟨R, mR, hr⟩, ⟨R2, mR2⟩, ⟨R3, mR3⟩, ⟨RE, mE, hre⟩, ⟨RA, mRA⟩, ⟨mpk, mP⟩, ⟨B, mB, hB⟩, ⟨CM, mK⟩, CC, CE, SV, mCC, mCE, mSV, hsv, hsr⟩ := hM
  have hI0 : Inv np qu ra re le ln nb pl tm ne rw bk nh hw nc cw t y := hI
  have hr0 : RowR R np qu ra re le ln nb pl tm ne rw bk nh hw nc cw t y := hr
  have hL0 : LedP h b np qu ra re le ln nb pl tm ne rw bk nh hw nc cw t y pk := hL
  have hre0 : ∀ j, j < np → RE j = re j := hre
  obtain ⟨⟨s1, s2, s3, s4, s5, s6, s7, s8, tn, s9, s10⟩, IM, IP, IJ, IR, IC⟩ := hI0
  have hI0 : Inv np qu ra re le ln nb pl tm ne rw bk nh hw nc cw t y := hI
  have hF' := hF
  unfold FacC at hF'
  have ho : OutP h m := ⟨⟨fo, o1⟩, fd, o2⟩
  refine wp_aload_n (n := 1997) dL_law_1996 rfl rfl ?_
  refine wp_callVs (n := 2000) (rm' := (0, 0, 0, 0)) (c0 := c0) (s0 := s0) (C := 20) (S := 4409) rfl dL_law_1997 rfl mlL_264 [] rfl rfl hF' rfl rfl rfl (Nat.le_of_ble_eq_true rfl) rfl ?_
  refine s_X9_entryCount hF hL0 ?_
  · show WP Γ _ _ _ _ _ _ _
    have B : Bet p m h h h := Bet.r ho (fun _ _ => rfl)
    have mC3' := ModC.mv (B.1 m (by omega)) mC
    unfold ModC at mC3'
    refine wp_aload_n (n := 2001) dL_law_2000 rfl rfl ?_
    refine wp_callVs (n := 2004) (rm' := (0, 0, 0, 0)) (c0 := c0) (s0 := s0) rfl dL_law_2001 rfl mlL_267 [] rfl rfl mC3' rfl rfl rfl (Nat.le_of_ble_eq_true rfl) rfl ?_
    refine s_X10_entryCount (ModC.mv (B.1 _ (by omega)) mC) ((B.1 _ (by omega)).trans mR) hr0 (by omega) (by omega) (fun h2 fr2 m2 => ?_)
    · show WP Γ _ _ _ _ _ _ _
      refine wp_icmp_eq (t := 3329) (n := 2007) dL_law_2004 (by decide) rfl (fun hc => ?_) (fun hc => ?_)
      · exact wp_big (rm := (10, 196, c0, s0)) (Nat.le_refl _) (Nat.le_refl _) (Nat.le_add_right _ _) (Nat.le_add_right _ _) (k h2 (fin_q hA hs0 hM0 hP0 c10 hm B fr2 ⟨_, _, _, _, _, _, m2⟩))
      · exact absurd rfl hc
theorem cs_reservationCount (hA : Γ.2.1 ≤ p) (hs : ScrP Γ h sa N S) (ho : OutP h m) (c1 : ClsP h p m b D er bs len f (mkK np qu ra re le ln nb pl tm ne rw bk nh hw nc cw t y) KS) (hP : PurP len f (mkK np qu ra re le ln nb pl tm ne rw bk nh hw nc cw t y) KS) (hM : ModP h m er bs len f (mkK np qu ra re le ln nb pl tm ne rw bk nh hw nc cw t y) KS) (hi : i0 + 5 ≤ N) (k : ∀ h', Sim Γ h' p m sa N S → WP Γ ML_law (10, 196, c0, s0) 3329 [some (.ref sa), some (.ref p), some (.ref m), some (.ref (m + 12)), some (.ref (m + 13)), some (.int (nI i0)), none, none, none, none] [] h' Q) : WP Γ ML_law (10, 196, c0 + 20, s0 + 4409) 2533 [some (.ref sa), some (.ref p), some (.ref m), some (.ref (m + 12)), some (.ref (m + 13)), some (.int (nI i0)), none, none, none, none] [] h Q := by
  have hs0 := hs
  have c10 := c1
  have hP0 := hP
  have hM0 := hM
  obtain ⟨hsa, hsl, hN, hfree⟩ := hs
  obtain ⟨⟨fo, o1⟩, fd, o2⟩ := ho
  obtain ⟨hF, hT, hR3, hBat, hSna, ⟨pk, hL⟩, hX, hbD, hm, hz, hsn, hap⟩ := c1
  obtain ⟨hlen, hI, hIS⟩ := hP
  obtain ⟨⟨th, at', bg, e9, ea, cm, mC⟩, ⟨R, mR, hr⟩, ⟨R2, mR2⟩, ⟨R3, mR3⟩, ⟨RE, mE, hre⟩, ⟨RA, mRA⟩, ⟨mpk, mP⟩, ⟨B, mB, hB⟩, ⟨CM, mK⟩, CC, CE, SV, mCC, mCE, mSV, hsv, hsr⟩ := hM
  have hI0 : Inv np qu ra re le ln nb pl tm ne rw bk nh hw nc cw t y := hI
  have hr0 : RowR R np qu ra re le ln nb pl tm ne rw bk nh hw nc cw t y := hr
  have hL0 : LedP h b np qu ra re le ln nb pl tm ne rw bk nh hw nc cw t y pk := hL
  have hre0 : ∀ j, j < np → RE j = re j := hre
  obtain ⟨⟨s1, s2, s3, s4, s5, s6, s7, s8, tn, s9, s10⟩, IM, IP, IJ, IR, IC⟩ := hI0
  have hI0 : Inv np qu ra re le ln nb pl tm ne rw bk nh hw nc cw t y := hI
  have hF' := hF
  unfold FacC at hF'
  have ho : OutP h m := ⟨⟨fo, o1⟩, fd, o2⟩
  refine wp_aload_n (n := 2534) dL_law_2533 rfl rfl ?_
  refine wp_callVs (n := 2537) (rm' := (0, 0, 0, 0)) (c0 := c0) (s0 := s0) (C := 20) (S := 4409) rfl dL_law_2534 rfl mlL_289 [] rfl rfl hF' rfl rfl rfl (Nat.le_of_ble_eq_true rfl) rfl ?_
  refine s_X9_reservationCount hF hL0 ?_
  · show WP Γ _ _ _ _ _ _ _
    have B : Bet p m h h h := Bet.r ho (fun _ _ => rfl)
    have mC3' := ModC.mv (B.1 m (by omega)) mC
    unfold ModC at mC3'
    refine wp_aload_n (n := 2538) dL_law_2537 rfl rfl ?_
    refine wp_callVs (n := 2541) (rm' := (0, 0, 0, 0)) (c0 := c0) (s0 := s0) rfl dL_law_2538 rfl mlL_292 [] rfl rfl mC3' rfl rfl rfl (Nat.le_of_ble_eq_true rfl) rfl ?_
    refine s_X10_reservationCount (ModC.mv (B.1 _ (by omega)) mC) ((B.1 _ (by omega)).trans mR) hr0 (by omega) (by omega) (fun h2 fr2 m2 => ?_)
    · show WP Γ _ _ _ _ _ _ _
      refine wp_icmp_eq (t := 3329) (n := 2544) dL_law_2541 (by decide) rfl (fun hc => ?_) (fun hc => ?_)
      · exact wp_big (rm := (10, 196, c0, s0)) (Nat.le_refl _) (Nat.le_refl _) (Nat.le_add_right _ _) (Nat.le_add_right _ _) (k h2 (fin_q hA hs0 hM0 hP0 c10 hm B fr2 ⟨_, _, _, _, _, _, m2⟩))
      · exact absurd rfl hc
theorem cs_nextExpiry (hA : Γ.2.1 ≤ p) (hs : ScrP Γ h sa N S) (ho : OutP h m) (c1 : ClsP h p m b D er bs len f (mkK np qu ra re le ln nb pl tm ne rw bk nh hw nc cw t y) KS) (hP : PurP len f (mkK np qu ra re le ln nb pl tm ne rw bk nh hw nc cw t y) KS) (hM : ModP h m er bs len f (mkK np qu ra re le ln nb pl tm ne rw bk nh hw nc cw t y) KS) (hi : i0 + 5 ≤ N) (k : ∀ h', Sim Γ h' p m sa N S → WP Γ ML_law (10, 196, c0, s0) 3329 [some (.ref sa), some (.ref p), some (.ref m), some (.ref (m + 12)), some (.ref (m + 13)), some (.int (nI i0)), none, none, none, none] [] h' Q) : WP Γ ML_law (10, 196, c0 + 20, s0 + 4409) 2670 [some (.ref sa), some (.ref p), some (.ref m), some (.ref (m + 12)), some (.ref (m + 13)), some (.int (nI i0)), none, none, none, none] [] h Q := by
  have hs0 := hs
  have c10 := c1
  have hP0 := hP
  have hM0 := hM
  obtain ⟨hsa, hsl, hN, hfree⟩ := hs
  obtain ⟨⟨fo, o1⟩, fd, o2⟩ := ho
  obtain ⟨hF, hT, hR3, hBat, hSna, ⟨pk, hL⟩, hX, hbD, hm, hz, hsn, hap⟩ := c1
  obtain ⟨hlen, hI, hIS⟩ := hP
  obtain ⟨⟨th, at', bg, e9, ea, cm, mC⟩, ⟨R, mR, hr⟩, ⟨R2, mR2⟩, ⟨R3, mR3⟩, ⟨RE, mE, hre⟩, ⟨RA, mRA⟩, ⟨mpk, mP⟩, ⟨B, mB, hB⟩, ⟨CM, mK⟩, CC, CE, SV, mCC, mCE, mSV, hsv, hsr⟩ := hM
  have hI0 : Inv np qu ra re le ln nb pl tm ne rw bk nh hw nc cw t y := hI
  have hr0 : RowR R np qu ra re le ln nb pl tm ne rw bk nh hw nc cw t y := hr
  have hL0 : LedP h b np qu ra re le ln nb pl tm ne rw bk nh hw nc cw t y pk := hL
  have hre0 : ∀ j, j < np → RE j = re j := hre
  obtain ⟨⟨s1, s2, s3, s4, s5, s6, s7, s8, tn, s9, s10⟩, IM, IP, IJ, IR, IC⟩ := hI0
  have hI0 : Inv np qu ra re le ln nb pl tm ne rw bk nh hw nc cw t y := hI
  have hF' := hF
  unfold FacC at hF'
  have ho : OutP h m := ⟨⟨fo, o1⟩, fd, o2⟩
  refine wp_aload_n (n := 2671) dL_law_2670 rfl rfl ?_
  refine wp_callVs (n := 2674) (rm' := (3, 66, 0, 0)) (c0 := c0) (s0 := s0) (C := 20) (S := 4409) rfl dL_law_2671 rfl mlL_299 [] rfl rfl hF' rfl rfl rfl (Nat.le_of_ble_eq_true rfl) rfl ?_
  refine s_X9_nextExpiry hF hL0 (by omega) ?_
  · show WP Γ _ _ _ _ _ _ _
    have B : Bet p m h h h := Bet.r ho (fun _ _ => rfl)
    have mC3' := ModC.mv (B.1 m (by omega)) mC
    unfold ModC at mC3'
    refine wp_aload_n (n := 2675) dL_law_2674 rfl rfl ?_
    refine wp_callVs (n := 2678) (rm' := (1, 22, 0, 0)) (c0 := c0) (s0 := s0) rfl dL_law_2675 rfl mlL_302 [] rfl rfl mC3' rfl rfl rfl (Nat.le_of_ble_eq_true rfl) rfl ?_
    refine s_X10_nextExpiry (ModC.mv (B.1 _ (by omega)) mC) ((B.1 _ (by omega)).trans mR) hr0 hI0 (by omega) (by omega) (fun h2 fr2 m2 => ?_)
    · show WP Γ _ _ _ _ _ _ _
      refine wp_icmp_eq (t := 3329) (n := 2681) dL_law_2678 (by decide) rfl (fun hc => ?_) (fun hc => ?_)
      · exact wp_big (rm := (10, 196, c0, s0)) (Nat.le_refl _) (Nat.le_refl _) (Nat.le_add_right _ _) (Nat.le_add_right _ _) (k h2 (fin_q hA hs0 hM0 hP0 c10 hm B fr2 ⟨_, _, _, _, _, _, m2⟩))
      · exact absurd rfl hc
theorem cs_mismatches (hA : Γ.2.1 ≤ p) (hs : ScrP Γ h sa N S) (ho : OutP h m) (c1 : ClsP h p m b D er bs len f (mkK np qu ra re le ln nb pl tm ne rw bk nh hw nc cw t y) KS) (hP : PurP len f (mkK np qu ra re le ln nb pl tm ne rw bk nh hw nc cw t y) KS) (hM : ModP h m er bs len f (mkK np qu ra re le ln nb pl tm ne rw bk nh hw nc cw t y) KS) (hi : i0 + 5 ≤ N) (k : ∀ h', Sim Γ h' p m sa N S → WP Γ ML_law (10, 196, c0, s0) 3329 [some (.ref sa), some (.ref p), some (.ref m), some (.ref (m + 12)), some (.ref (m + 13)), some (.int (nI i0)), none, none, none, none] [] h' Q) : WP Γ ML_law (10, 196, c0 + 20, s0 + 4409) 3030 [some (.ref sa), some (.ref p), some (.ref m), some (.ref (m + 12)), some (.ref (m + 13)), some (.int (nI i0)), none, none, none, none] [] h Q := by
  have hs0 := hs
  have c10 := c1
  have hP0 := hP
  have hM0 := hM
  obtain ⟨hsa, hsl, hN, hfree⟩ := hs
  obtain ⟨⟨fo, o1⟩, fd, o2⟩ := ho
  obtain ⟨hF, hT, hR3, hBat, hSna, ⟨pk, hL⟩, hX, hbD, hm, hz, hsn, hap⟩ := c1
  obtain ⟨hlen, hI, hIS⟩ := hP
  obtain ⟨⟨th, at', bg, e9, ea, cm, mC⟩, ⟨R, mR, hr⟩, ⟨R2, mR2⟩, ⟨R3, mR3⟩, ⟨RE, mE, hre⟩, ⟨RA, mRA⟩, ⟨mpk, mP⟩, ⟨B, mB, hB⟩, ⟨CM, mK⟩, CC, CE, SV, mCC, mCE, mSV, hsv, hsr⟩ := hM
  have hI0 : Inv np qu ra re le ln nb pl tm ne rw bk nh hw nc cw t y := hI
  have hr0 : RowR R np qu ra re le ln nb pl tm ne rw bk nh hw nc cw t y := hr
  have hL0 : LedP h b np qu ra re le ln nb pl tm ne rw bk nh hw nc cw t y pk := hL
  have hre0 : ∀ j, j < np → RE j = re j := hre
  obtain ⟨⟨s1, s2, s3, s4, s5, s6, s7, s8, tn, s9, s10⟩, IM, IP, IJ, IR, IC⟩ := hI0
  have hI0 : Inv np qu ra re le ln nb pl tm ne rw bk nh hw nc cw t y := hI
  have hF' := hF
  unfold FacC at hF'
  have ho : OutP h m := ⟨⟨fo, o1⟩, fd, o2⟩
  refine wp_aload_n (n := 3031) dL_law_3030 rfl rfl ?_
  refine wp_callVs (n := 3034) (rm' := (5, 113, 0, 0)) (c0 := c0) (s0 := s0) (C := 20) (S := 4409) rfl dL_law_3031 rfl mlL_321 [] rfl rfl hF' rfl rfl rfl (Nat.le_of_ble_eq_true rfl) rfl ?_
  refine s_X9_mismatches hF hL0 (by omega) (by omega) (by omega) ?_
  · show WP Γ _ _ _ _ _ _ _
    have B : Bet p m h h h := Bet.r ho (fun _ _ => rfl)
    have mC3' := ModC.mv (B.1 m (by omega)) mC
    unfold ModC at mC3'
    refine wp_aload_n (n := 3035) dL_law_3034 rfl rfl ?_
    refine wp_callVs (n := 3038) (rm' := (3, 67, 0, 0)) (c0 := c0) (s0 := s0) rfl dL_law_3035 rfl mlL_324 [] rfl rfl mC3' rfl rfl rfl (Nat.le_of_ble_eq_true rfl) rfl ?_
    refine s_X10_mismatches (ModC.mv (B.1 _ (by omega)) mC) ((B.1 _ (by omega)).trans mR) hr0 hI0 (by omega) (by omega) (fun h2 fr2 m2 => ?_)
    · show WP Γ _ _ _ _ _ _ _
      refine wp_icmp_eq (t := 3329) (n := 3041) dL_law_3038 (by decide) rfl (fun hc => ?_) (fun hc => ?_)
      · exact wp_big (rm := (10, 196, c0, s0)) (Nat.le_refl _) (Nat.le_refl _) (Nat.le_add_right _ _) (Nat.le_add_right _ _) (k h2 (fin_q hA hs0 hM0 hP0 c10 hm B fr2 ⟨_, _, _, _, _, _, m2⟩))
      · exact absurd rfl hc
theorem cs_poolNamed (hA : Γ.2.1 ≤ p) (hs : ScrP Γ h sa N S) (ho : OutP h m) (c1 : ClsP h p m b D er bs len f (mkK np qu ra re le ln nb pl tm ne rw bk nh hw nc cw t y) KS) (hP : PurP len f (mkK np qu ra re le ln nb pl tm ne rw bk nh hw nc cw t y) KS) (hM : ModP h m er bs len f (mkK np qu ra re le ln nb pl tm ne rw bk nh hw nc cw t y) KS) (hi : i0 + 5 ≤ N) (k : ∀ h', Sim Γ h' p m sa N S → WP Γ ML_law (10, 196, c0, s0) 3329 [some (.ref sa), some (.ref p), some (.ref m), some (.ref (m + 12)), some (.ref (m + 13)), some (.int (nI i0)), none, none, none, none] [] h' Q) : WP Γ ML_law (10, 196, c0 + 20, s0 + 4409) 366 [some (.ref sa), some (.ref p), some (.ref m), some (.ref (m + 12)), some (.ref (m + 13)), some (.int (nI i0)), none, none, none, none] [] h Q := by
  have hs0 := hs
  have c10 := c1
  have hP0 := hP
  have hM0 := hM
  obtain ⟨hsa, hsl, hN, hfree⟩ := hs
  obtain ⟨⟨fo, o1⟩, fd, o2⟩ := ho
  obtain ⟨hF, hT, hR3, hBat, hSna, ⟨pk, hL⟩, hX, hbD, hm, hz, hsn, hap⟩ := c1
  obtain ⟨hlen, hI, hIS⟩ := hP
  obtain ⟨⟨th, at', bg, e9, ea, cm, mC⟩, ⟨R, mR, hr⟩, ⟨R2, mR2⟩, ⟨R3, mR3⟩, ⟨RE, mE, hre⟩, ⟨RA, mRA⟩, ⟨mpk, mP⟩, ⟨B, mB, hB⟩, ⟨CM, mK⟩, CC, CE, SV, mCC, mCE, mSV, hsv, hsr⟩ := hM
  have hI0 : Inv np qu ra re le ln nb pl tm ne rw bk nh hw nc cw t y := hI
  have hr0 : RowR R np qu ra re le ln nb pl tm ne rw bk nh hw nc cw t y := hr
  have hL0 : LedP h b np qu ra re le ln nb pl tm ne rw bk nh hw nc cw t y pk := hL
  have hre0 : ∀ j, j < np → RE j = re j := hre
  obtain ⟨⟨s1, s2, s3, s4, s5, s6, s7, s8, tn, s9, s10⟩, IM, IP, IJ, IR, IC⟩ := hI0
  have hI0 : Inv np qu ra re le ln nb pl tm ne rw bk nh hw nc cw t y := hI
  have hF' := hF
  unfold FacC at hF'
  have ho : OutP h m := ⟨⟨fo, o1⟩, fd, o2⟩
  refine wp_aload_n (n := 367) dL_law_366 rfl rfl ?_
  refine wp_callVs (n := 370) (rm' := (2, 48, 0, 0)) (c0 := c0) (s0 := s0) (C := 20) (S := 4409) rfl dL_law_367 rfl mlL_168 [] rfl rfl hF' rfl rfl rfl (Nat.le_of_ble_eq_true rfl) rfl ?_
  refine s_X9_poolNamed hF hT hL0 (by omega) (by omega) (by omega) (by omega) (fun j hj => by obtain ⟨_, _, _, u, _, a, b, _⟩ := IP j hj; exact ⟨u, b, a⟩) (fun h1 fr1 hT1 => ?_)
  · show WP Γ _ _ _ _ _ _ _
    have B : Bet p m h h1 h1 := Bet.r ho (fun c hc => fr1.2 c (by omega))
    have mC3' := ModC.mv (B.1 m (by omega)) mC
    unfold ModC at mC3'
    refine wp_aload_n (n := 371) dL_law_370 rfl rfl ?_
    refine wp_callVs (n := 374) (rm' := (2, 46, 0, 0)) (c0 := c0) (s0 := s0) rfl dL_law_371 rfl mlL_171 [] rfl rfl mC3' rfl rfl rfl (Nat.le_of_ble_eq_true rfl) rfl ?_
    refine s_X10_poolNamed (by omega) (ModC.mv (B.1 _ (by omega)) mC) ((B.1 _ (by omega)).trans mB) hB (by omega) ((B.1 _ (by omega)).trans mR) hr0.1.2.1 (by omega) hr0.2.2.1 IP (by omega) (fun h2 at2 bg2 fr2 m2 => ?_)
    · show WP Γ _ _ _ _ _ _ _
      refine wp_icmp_eq (t := 3329) (n := 377) dL_law_374 (by decide) rfl (fun hc => ?_) (fun hc => ?_)
      · exact wp_big (rm := (10, 196, c0, s0)) (Nat.le_refl _) (Nat.le_refl _) (Nat.le_add_right _ _) (Nat.le_add_right _ _) (k h2 (fin_t (len' := 0) hA hs0 hM0 ⟨by omega, hI, hIS⟩ (c10.txt fr1 hT1) hm B fr2.1 (fun c a _ => fr2.2 c (by omega)) ⟨_, _, _, _, _, _, m2⟩ ⟨_, (fr2.2 _ (by omega)).trans ((B.1 _ (by omega)).trans mB), fun i hi => absurd hi (by omega)⟩))
      · exact absurd rfl hc
theorem cs_reconcile (hA : Γ.2.1 ≤ p) (hs : ScrP Γ h sa N S) (ho : OutP h m) (c1 : ClsP h p m b D er bs len f (mkK np qu ra re le ln nb pl tm ne rw bk nh hw nc cw t y) KS) (hP : PurP len f (mkK np qu ra re le ln nb pl tm ne rw bk nh hw nc cw t y) KS) (hM : ModP h m er bs len f (mkK np qu ra re le ln nb pl tm ne rw bk nh hw nc cw t y) KS) (hi : i0 + 5 ≤ N) (k : ∀ h', Sim Γ h' p m sa N S → WP Γ ML_law (10, 196, c0, s0) 3329 [some (.ref sa), some (.ref p), some (.ref m), some (.ref (m + 12)), some (.ref (m + 13)), some (.int (nI i0)), none, none, none, none] [] h' Q) : WP Γ ML_law (10, 196, c0 + 20, s0 + 4409) 3043 [some (.ref sa), some (.ref p), some (.ref m), some (.ref (m + 12)), some (.ref (m + 13)), some (.int (nI i0)), none, none, none, none] [] h Q := by
  have hs0 := hs
  have c10 := c1
  have hP0 := hP
  have hM0 := hM
  obtain ⟨hsa, hsl, hN, hfree⟩ := hs
  obtain ⟨⟨fo, o1⟩, fd, o2⟩ := ho
  obtain ⟨hF, hT, hR3, hBat, hSna, ⟨pk, hL⟩, hX, hbD, hm, hz, hsn, hap⟩ := c1
  obtain ⟨hlen, hI, hIS⟩ := hP
  obtain ⟨⟨th, at', bg, e9, ea, cm, mC⟩, ⟨R, mR, hr⟩, ⟨R2, mR2⟩, ⟨R3, mR3⟩, ⟨RE, mE, hre⟩, ⟨RA, mRA⟩, ⟨mpk, mP⟩, ⟨B, mB, hB⟩, ⟨CM, mK⟩, CC, CE, SV, mCC, mCE, mSV, hsv, hsr⟩ := hM
  have hI0 : Inv np qu ra re le ln nb pl tm ne rw bk nh hw nc cw t y := hI
  have hr0 : RowR R np qu ra re le ln nb pl tm ne rw bk nh hw nc cw t y := hr
  have hL0 : LedP h b np qu ra re le ln nb pl tm ne rw bk nh hw nc cw t y pk := hL
  have hre0 : ∀ j, j < np → RE j = re j := hre
  obtain ⟨⟨s1, s2, s3, s4, s5, s6, s7, s8, tn, s9, s10⟩, IM, IP, IJ, IR, IC⟩ := hI0
  have hI0 : Inv np qu ra re le ln nb pl tm ne rw bk nh hw nc cw t y := hI
  have hF' := hF
  unfold FacC at hF'
  have ho : OutP h m := ⟨⟨fo, o1⟩, fd, o2⟩
  refine wp_aload_n (n := 3044) dL_law_3043 rfl rfl ?_
  refine wp_callVs (n := 3047) (rm' := (5, 116, 0, 0)) (c0 := c0) (s0 := s0) (C := 20) (S := 4409) rfl dL_law_3044 rfl mlL_325 [] rfl rfl hF' rfl rfl rfl (Nat.le_of_ble_eq_true rfl) rfl ?_
  refine s_X9_reconcile hF hL0 (by omega) (by omega) (by omega) (by omega) (fun h1 bk1 fr1 hbk hL1 => ?_)
  · show WP Γ _ _ _ _ _ _ _
    have B : Bet p m h h1 h1 := Bet.r ho (fun c hc => fr1.2 c (by omega))
    have mC3' := ModC.mv (B.1 m (by omega)) mC
    unfold ModC at mC3'
    refine wp_aload_n (n := 3048) dL_law_3047 rfl rfl ?_
    refine wp_callVs (n := 3051) (rm' := (4, 89, 0, 0)) (c0 := c0) (s0 := s0) rfl dL_law_3048 rfl mlL_328 [] rfl rfl mC3' rfl rfl rfl (Nat.le_of_ble_eq_true rfl) rfl ?_
    refine s_X10_reconcile (ModC.mv (B.1 _ (by omega)) mC) ((B.1 _ (by omega)).trans mR) hr0 hI0 (by omega) (by omega) (by omega) (fun h2 R9 fz fr2 m2 r9 hK => ?_)
    · show WP Γ _ _ _ _ _ _ _
      obtain ⟨hrr, hInv⟩ := hK bk1 hbk
      refine wp_icmp_eq (t := 3329) (n := 3054) dL_law_3051 (by decide) rfl (fun hc => ?_) (fun hc => ?_)
      · exact wp_big (rm := (10, 196, c0, s0)) (Nat.le_refl _) (Nat.le_refl _) (Nat.le_add_right _ _) (Nat.le_add_right _ _) (k h2 (fin_s (K' := mkK np qu ra re le ln nb pl tm (if (adjG nb pl np t 8 rw ne).2.2 = true then ne else (adjG nb pl np t 8 rw ne).2.1) ((adjG nb pl np t 8 rw ne).1) bk1 nh hw nc cw t y) hA hs0 hM0 ⟨hlen, hInv, hIS⟩ (c10.led fr1 ⟨_, hL1⟩) hm B fz (fun c a b _ _ => fr2 c a b) ⟨_, _, _, _, _, _, m2⟩ ⟨R9, r9, hrr⟩ ⟨RE, (fr2 _ (by omega) (by omega)).trans ((B.1 _ (by omega)).trans mE), hre0⟩ ⟨mpk, (fr2 _ (by omega) (by omega)).trans ((B.1 _ (by omega)).trans mP)⟩))
      · exact absurd rfl hc
theorem cs_checkpoint (hA : Γ.2.1 ≤ p) (hs : ScrP Γ h sa N S) (ho : OutP h m) (c1 : ClsP h p m b D er bs len f (mkK np qu ra re le ln nb pl tm ne rw bk nh hw nc cw t y) KS) (hP : PurP len f (mkK np qu ra re le ln nb pl tm ne rw bk nh hw nc cw t y) KS) (hM : ModP h m er bs len f (mkK np qu ra re le ln nb pl tm ne rw bk nh hw nc cw t y) KS) (hi : i0 + 5 ≤ N) (k : ∀ h', Sim Γ h' p m sa N S → WP Γ ML_law (10, 196, c0, s0) 3329 [some (.ref sa), some (.ref p), some (.ref m), some (.ref (m + 12)), some (.ref (m + 13)), some (.int (nI i0)), none, none, none, none] [] h' Q) : WP Γ ML_law (10, 196, c0 + 20, s0 + 4409) 3056 [some (.ref sa), some (.ref p), some (.ref m), some (.ref (m + 12)), some (.ref (m + 13)), some (.int (nI i0)), none, none, none, none] [] h Q := by
  have hs0 := hs
  have c10 := c1
  have hP0 := hP
  have hM0 := hM
  obtain ⟨hsa, hsl, hN, hfree⟩ := hs
  obtain ⟨⟨fo, o1⟩, fd, o2⟩ := ho
  obtain ⟨hF, hT, hR3, hBat, hSna, ⟨pk, hL⟩, hX, hbD, hm, hz, hsn, hap⟩ := c1
  obtain ⟨hlen, hI, hIS⟩ := hP
  obtain ⟨⟨th, at', bg, e9, ea, cm, mC⟩, ⟨R, mR, hr⟩, ⟨R2, mR2⟩, ⟨R3, mR3⟩, ⟨RE, mE, hre⟩, ⟨RA, mRA⟩, ⟨mpk, mP⟩, ⟨B, mB, hB⟩, ⟨CM, mK⟩, CC, CE, SV, mCC, mCE, mSV, hsv, hsr⟩ := hM
  have hI0 : Inv np qu ra re le ln nb pl tm ne rw bk nh hw nc cw t y := hI
  have hr0 : RowR R np qu ra re le ln nb pl tm ne rw bk nh hw nc cw t y := hr
  have hL0 : LedP h b np qu ra re le ln nb pl tm ne rw bk nh hw nc cw t y pk := hL
  have hre0 : ∀ j, j < np → RE j = re j := hre
  obtain ⟨⟨s1, s2, s3, s4, s5, s6, s7, s8, tn, s9, s10⟩, IM, IP, IJ, IR, IC⟩ := hI0
  have hI0 : Inv np qu ra re le ln nb pl tm ne rw bk nh hw nc cw t y := hI
  have hF' := hF
  unfold FacC at hF'
  have ho : OutP h m := ⟨⟨fo, o1⟩, fd, o2⟩
  refine wp_aload_n (n := 3057) dL_law_3056 rfl rfl ?_
  refine wp_callVs (n := 3060) (rm' := (2, 45, 0, 0)) (c0 := c0) (s0 := s0) (C := 20) (S := 4409) rfl dL_law_3057 rfl mlL_329 [] rfl rfl hF' rfl rfl rfl (Nat.le_of_ble_eq_true rfl) rfl ?_
  refine s_X9_checkpoint hF hL0 (by omega) (by omega) (by omega) (by omega) (fun hc9 => ?_) (fun hc9 h1 cw1 fr1 e1 e2 e3 hL1 => ?_)
  · show WP Γ _ _ _ _ _ _ _
    have B : Bet p m h h h := Bet.r ho (fun _ _ => rfl)
    have mC3' := ModC.mv (B.1 m (by omega)) mC
    unfold ModC at mC3'
    refine wp_aload_n (n := 3061) dL_law_3060 rfl rfl ?_
    refine wp_callVs (n := 3064) (rm' := (1, 23, 0, 0)) (c0 := c0) (s0 := s0) rfl dL_law_3061 rfl mlL_332 [] rfl rfl mC3' rfl rfl rfl (Nat.le_of_ble_eq_true rfl) rfl ?_
    refine s_X10_checkpoint (ModC.mv (B.1 _ (by omega)) mC) ((B.1 _ (by omega)).trans mR) hr0 hI0 (by omega) (by omega) (by omega) (fun hc2 h2 fr2 m2 => ?_) (fun hc2 h2 R9 fz fr2 m2 r9 hK => ?_)
    · show WP Γ _ _ _ _ _ _ _
      refine wp_icmp_eq (t := 3329) (n := 3067) dL_law_3064 (by decide) rfl (fun hc => ?_) (fun hc => ?_)
      · exact wp_big (rm := (10, 196, c0, s0)) (Nat.le_refl _) (Nat.le_refl _) (Nat.le_add_right _ _) (Nat.le_add_right _ _) (k h2 (fin_q hA hs0 hM0 hP0 c10 hm B fr2 ⟨_, _, _, _, _, _, m2⟩))
      · exact absurd rfl hc
    · omega
  · show WP Γ _ _ _ _ _ _ _
    have B : Bet p m h h1 h1 := Bet.r ho (fun c hc => fr1.2 c (by omega))
    have mC3' := ModC.mv (B.1 m (by omega)) mC
    unfold ModC at mC3'
    refine wp_aload_n (n := 3061) dL_law_3060 rfl rfl ?_
    refine wp_callVs (n := 3064) (rm' := (1, 23, 0, 0)) (c0 := c0) (s0 := s0) rfl dL_law_3061 rfl mlL_332 [] rfl rfl mC3' rfl rfl rfl (Nat.le_of_ble_eq_true rfl) rfl ?_
    refine s_X10_checkpoint (ModC.mv (B.1 _ (by omega)) mC) ((B.1 _ (by omega)).trans mR) hr0 hI0 (by omega) (by omega) (by omega) (fun hc2 h2 fr2 m2 => ?_) (fun hc2 h2 R9 fz fr2 m2 r9 hK => ?_)
    · omega
    · show WP Γ _ _ _ _ _ _ _
      refine wp_icmp_eq (t := 3329) (n := 3067) dL_law_3064 (by decide) rfl (fun hc => ?_) (fun hc => ?_)
      · exact wp_big (rm := (10, 196, c0, s0)) (Nat.le_refl _) (Nat.le_refl _) (Nat.le_add_right _ _) (Nat.le_add_right _ _) (k h2 (fin_s (K' := mkK np qu ra re le ln nb pl tm ne rw bk nh hw (nc + 1) cw1 t y) hA hs0 hM0 ⟨hlen, (⟨⟨s1, s2, s3, s4, s5, s6, by omega, s8, tn, s9, s10⟩, IM, IP, IJ, IR, IC.add s5 e1 e3⟩ : Inv np qu ra re le ln nb pl tm ne rw bk nh hw (nc + 1) cw1 t y), hIS⟩ (c10.led fr1 ⟨_, hL1⟩) hm B fz (fun c a b _ _ => fr2 c a b) ⟨_, _, _, _, _, _, m2⟩ ⟨R9, r9, hK cw1 e1 e2 e3⟩ ⟨RE, (fr2 _ (by omega) (by omega)).trans ((B.1 _ (by omega)).trans mE), hre0⟩ ⟨mpk, (fr2 _ (by omega) (by omega)).trans ((B.1 _ (by omega)).trans mP)⟩))
      · exact absurd rfl hc
end
