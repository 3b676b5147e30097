/-! ===== the law: cases ===== -/
section
variable {Γ : GE} {h : AH} {Q : PO} {p m b D sa N len i0 c0 s0 np nb ne nh nc y : Nat} {er : Int32} {bs S : FI} {f : Nat → Option Nat} {KS : Nat → KL} {qu ra le ln pl tm rw hw cw : FI} {re : Nat → UInt32} {bk : Nat → Int64} {t : Int32}
theorem cs_load (hA : Γ.2.1 ≤ p) (hs : ScrP Γ h sa N S) (ho : OutP h m) (c1 : ClsP h p m b D er bs len f (mkK np qu ra re le ln nb pl tm ne rw bk nh hw nc cw t y) KS) (hP : PurP len f (mkK np qu ra re le ln nb pl tm ne rw bk nh hw nc cw t y) KS) (hM : ModP h m er bs len f (mkK np qu ra re le ln nb pl tm ne rw bk nh hw nc cw t y) KS) (hi : i0 + 5 ≤ N) (k : ∀ h', Sim Γ h' p m sa N S → WP Γ ML_law (10, 196, c0, s0) 3329 [some (.ref sa), some (.ref p), some (.ref m), some (.ref (m + 12)), some (.ref (m + 13)), some (.int (nI i0)), none, none, none, none] [] h' Q) : WP Γ ML_law (10, 196, c0 + 20, s0 + 4409) 340 [some (.ref sa), some (.ref p), some (.ref m), some (.ref (m + 12)), some (.ref (m + 13)), some (.int (nI i0)), none, none, none, none] [] h Q := by
  have hs0 := hs
  have c10 := c1
  have hP0 := hP
  have hM0 := hM
  obtain ⟨hsa, hsl, hN, hfree⟩ := hs
  obtain ⟨⟨fo, o1⟩, fd, o2⟩ := ho
  obtain ⟨hF, hT, hR3, hBat, hSna, ⟨pk, hL⟩, hX, hbD, hm, hz, hsn, hap⟩ := c1
  obtain ⟨hlen, hI, hIS⟩ := hP
  obtain ⟨⟨th, at', bg, e9, ea, cm, mC⟩, ⟨R, mR, hr⟩, ⟨R2, mR2⟩, ⟨R3, mR3⟩, ⟨RE, mE, hre⟩, ⟨RA, mRA⟩, ⟨mpk, mP⟩, ⟨B, mB, hB⟩, ⟨CM, mK⟩, CC, CE, SV, mCC, mCE, mSV, hsv, hsr⟩ := hM
  have hI0 : Inv np qu ra re le ln nb pl tm ne rw bk nh hw nc cw t y := hI
  have hr0 : RowR R np qu ra re le ln nb pl tm ne rw bk nh hw nc cw t y := hr
  have hL0 : LedP h b np qu ra re le ln nb pl tm ne rw bk nh hw nc cw t y pk := hL
  have hre0 : ∀ j, j < np → RE j = re j := hre
  obtain ⟨⟨s1, s2, s3, s4, s5, s6, s7, s8, tn, s9, s10⟩, IM, IP, IJ, IR, IC⟩ := hI0
  have hI0 : Inv np qu ra re le ln nb pl tm ne rw bk nh hw nc cw t y := hI
  have hF' := hF
  unfold FacC at hF'
  have ho : OutP h m := ⟨⟨fo, o1⟩, fd, o2⟩
  refine wp_aload_n (n := 341) dL_law_340 rfl rfl ?_
  refine wp_callVs (n := 344) (rm' := (8, 174, 0, 0)) (c0 := c0) (s0 := s0) (C := 20) (S := 4409) rfl dL_law_341 rfl mlL_160 [] rfl rfl hF' rfl rfl rfl (Nat.le_of_ble_eq_true rfl) rfl ?_
  refine s_X9_load hF hR3 hT hX hA (by omega) hlen hfree (fun e9 pos h1 hDes hz1 g1 g2 hF1 hT1 hX1 => ?_) (fun K9 h1 hDes hz1 g1 g2 hF1 hT1 hL1 => ?_)
  · show WP Γ _ _ _ _ _ _ _
    have e1 : ∀ c, (c < p ∨ m ≤ c) → h1.2 c = h.2 c := fun c hc => by
      rcases hc with hc | hc
      · exact g2 c hc
      · exact g1 c (by omega) (by omega)
    have B : Bet p m h h1 h1 := Bet.r ho (fun c hc => e1 c (by omega))
    have hA9 : Γ.2.1 ≤ m := by omega
    obtain ⟨bn, brs, hb1, hb2⟩ := hBat
    have mC3' := ModC.mv (B.1 m (by omega)) mC
    unfold ModC at mC3'
    refine wp_aload_n (n := 345) dL_law_344 rfl rfl ?_
    refine wp_callVs (n := 348) (rm' := (7, 150, 0, 0)) (c0 := c0) (s0 := s0) rfl dL_law_345 rfl mlL_163 [] rfl rfl mC3' rfl rfl rfl (Nat.le_of_ble_eq_true rfl) rfl ?_
    refine s_X10_load hA9 (ModC.mv (B.1 _ (by omega)) mC) ((B.1 _ (by omega)).trans mB) hB hlen ((B.1 _ (by omega)).trans mR) ((B.1 _ (by omega)).trans mR2) ((B.1 _ (by omega)).trans mE) ((B.1 _ (by omega)).trans mP) hDes (fun e92 pos2 h2 hq frr mm w2 w9 => ?_) (fun K92 h2 R9 RE9 hq hI9 fz fr2 mm r9 hr9 rE9 hre9 w2 w9 => ?_)
    · show WP Γ _ _ _ _ _ _ _
      cases hq
      obtain ⟨at2, bg2, ea2, m2⟩ := mm
      obtain ⟨fz, fr2⟩ := frr
      refine wp_icmp_eq (t := 3329) (n := 351) dL_law_348 (by decide) rfl (fun hc => ?_) (fun hc => ?_)
      · exact wp_big (rm := (10, 196, c0, s0)) (Nat.le_refl _) (Nat.le_refl _) (Nat.le_add_right _ _) (Nat.le_add_right _ _) (k h2 (fin_r (K := mkK np qu ra re le ln nb pl tm ne rw bk nh hw nc cw t y) (len := 0) hA hs0 hm (c10.re (K' := mkK np qu ra re le ln nb pl tm ne rw bk nh hw nc cw t y) hF1 hT1 (g1 _ (by omega) (by omega)) ⟨bn, brs, (g1 _ (by omega) (by omega)).trans hb1, (g1 _ (by omega) (by omega)).trans hb2⟩ (g1 _ (by omega) (by omega)) (LedK.ext (K := mkK np qu ra re le ln nb pl tm ne rw bk nh hw nc cw t y) ⟨pk, hL0⟩ (fun c _ _ => g1 c (by omega) (by omega))) hX1 hbD hz1 (fun c hc => e1 c (Or.inr hc))) ⟨by omega, hI, hIS⟩ B (fun c hc => fr2 c (by omega) (by omega) (by omega)) fz (hM0.re ⟨_, _, _, _, _, _, m2⟩ ⟨R, (fr2 _ (by omega) (by omega) (by omega)).trans ((B.1 _ (by omega)).trans mR), hr⟩ ⟨RE, (fr2 _ (by omega) (by omega) (by omega)).trans ((B.1 _ (by omega)).trans mE), hre⟩ w2 ⟨R3, (fr2 _ (by omega) (by omega) (by omega)).trans ((B.1 _ (by omega)).trans mR3)⟩ ⟨RA, (fr2 _ (by omega) (by omega) (by omega)).trans ((B.1 _ (by omega)).trans mRA)⟩ w9 ⟨CM, (fr2 _ (by omega) (by omega) (by omega)).trans ((B.1 _ (by omega)).trans mK)⟩ (fun c hc => (fr2 c (by omega) (by omega) (by omega)).trans (B.1 c (by omega))))))
      · exact absurd rfl hc
    · cases hq
  · show WP Γ _ _ _ _ _ _ _
    have e1 : ∀ c, (c < p ∨ m ≤ c) → h1.2 c = h.2 c := fun c hc => by
      rcases hc with hc | hc
      · exact g2 c hc
      · exact g1 c (by omega) (by omega)
    have B : Bet p m h h1 h1 := Bet.r ho (fun c hc => e1 c (by omega))
    have hA9 : Γ.2.1 ≤ m := by omega
    obtain ⟨bn, brs, hb1, hb2⟩ := hBat
    have mC3' := ModC.mv (B.1 m (by omega)) mC
    unfold ModC at mC3'
    refine wp_aload_n (n := 345) dL_law_344 rfl rfl ?_
    refine wp_callVs (n := 348) (rm' := (7, 150, 0, 0)) (c0 := c0) (s0 := s0) rfl dL_law_345 rfl mlL_163 [] rfl rfl mC3' rfl rfl rfl (Nat.le_of_ble_eq_true rfl) rfl ?_
    refine s_X10_load hA9 (ModC.mv (B.1 _ (by omega)) mC) ((B.1 _ (by omega)).trans mB) hB hlen ((B.1 _ (by omega)).trans mR) ((B.1 _ (by omega)).trans mR2) ((B.1 _ (by omega)).trans mE) ((B.1 _ (by omega)).trans mP) hDes (fun e92 pos2 h2 hq frr mm w2 w9 => ?_) (fun K92 h2 R9 RE9 hq hI9 fz fr2 mm r9 hr9 rE9 hre9 w2 w9 => ?_)
    · cases hq
    · show WP Γ _ _ _ _ _ _ _
      cases hq
      obtain ⟨at2, bg2, ea2, m2⟩ := mm
      refine wp_icmp_eq (t := 3329) (n := 351) dL_law_348 (by decide) rfl (fun hc => ?_) (fun hc => ?_)
      · exact wp_big (rm := (10, 196, c0, s0)) (Nat.le_refl _) (Nat.le_refl _) (Nat.le_add_right _ _) (Nat.le_add_right _ _) (k h2 (fin_r (K := K9) (len := 0) hA hs0 hm (c10.re (K' := K9) hF1 hT1 (g1 _ (by omega) (by omega)) ⟨bn, brs, (g1 _ (by omega) (by omega)).trans hb1, (g1 _ (by omega) (by omega)).trans hb2⟩ (g1 _ (by omega) (by omega)) hL1 (LedK.x (LedK.ext (K := mkK np qu ra re le ln nb pl tm ne rw bk nh hw nc cw t y) ⟨pk, hL0⟩ (fun c _ _ => g1 c (by omega) (by omega)))) (by omega) hz1 (fun c hc => e1 c (Or.inr hc))) ⟨by omega, hI9, hIS⟩ B (fun c hc => fr2 c (by omega) (by omega) (by omega) (by omega) (by omega)) fz (hM0.re ⟨_, _, _, _, _, _, m2⟩ ⟨R9, r9, hr9⟩ ⟨RE9, rE9, hre9⟩ w2 ⟨R3, (fr2 _ (by omega) (by omega) (by omega) (by omega) (by omega)).trans ((B.1 _ (by omega)).trans mR3)⟩ ⟨RA, (fr2 _ (by omega) (by omega) (by omega) (by omega) (by omega)).trans ((B.1 _ (by omega)).trans mRA)⟩ w9 ⟨CM, (fr2 _ (by omega) (by omega) (by omega) (by omega) (by omega)).trans ((B.1 _ (by omega)).trans mK)⟩ (fun c hc => (fr2 c (by omega) (by omega) (by omega) (by omega) (by omega)).trans (B.1 c (by omega))))))
      · exact absurd rfl hc
theorem cs_batch (hA : Γ.2.1 ≤ p) (hs : ScrP Γ h sa N S) (ho : OutP h m) (c1 : ClsP h p m b D er bs len f (mkK np qu ra re le ln nb pl tm ne rw bk nh hw nc cw t y) KS) (hP : PurP len f (mkK np qu ra re le ln nb pl tm ne rw bk nh hw nc cw t y) KS) (hM : ModP h m er bs len f (mkK np qu ra re le ln nb pl tm ne rw bk nh hw nc cw t y) KS) (hi : i0 + 5 ≤ N) (k : ∀ h', Sim Γ h' p m sa N S → WP Γ ML_law (10, 196, c0, s0) 3329 [some (.ref sa), some (.ref p), some (.ref m), some (.ref (m + 12)), some (.ref (m + 13)), some (.int (nI i0)), none, none, none, none] [] h' Q) : WP Γ ML_law (10, 196, c0 + 20, s0 + 4409) 1110 [some (.ref sa), some (.ref p), some (.ref m), some (.ref (m + 12)), some (.ref (m + 13)), some (.int (nI i0)), none, none, none, none] [] h Q := by
  have hs0 := hs
  have c10 := c1
  have hP0 := hP
  have hM0 := hM
  obtain ⟨hsa, hsl, hN, hfree⟩ := hs
  obtain ⟨⟨fo, o1⟩, fd, o2⟩ := ho
  obtain ⟨hF, hT, hR3, hBat, hSna, ⟨pk, hL⟩, hX, hbD, hm, hz, hsn, hap⟩ := c1
  obtain ⟨hlen, hI, hIS⟩ := hP
  obtain ⟨⟨th, at', bg, e9, ea, cm, mC⟩, ⟨R, mR, hr⟩, ⟨R2, mR2⟩, ⟨R3, mR3⟩, ⟨RE, mE, hre⟩, ⟨RA, mRA⟩, ⟨mpk, mP⟩, ⟨B, mB, hB⟩, ⟨CM, mK⟩, CC, CE, SV, mCC, mCE, mSV, hsv, hsr⟩ := hM
  have hI0 : Inv np qu ra re le ln nb pl tm ne rw bk nh hw nc cw t y := hI
  have hr0 : RowR R np qu ra re le ln nb pl tm ne rw bk nh hw nc cw t y := hr
  have hL0 : LedP h b np qu ra re le ln nb pl tm ne rw bk nh hw nc cw t y pk := hL
  have hre0 : ∀ j, j < np → RE j = re j := hre
  obtain ⟨⟨s1, s2, s3, s4, s5, s6, s7, s8, tn, s9, s10⟩, IM, IP, IJ, IR, IC⟩ := hI0
  have hI0 : Inv np qu ra re le ln nb pl tm ne rw bk nh hw nc cw t y := hI
  have hF' := hF
  unfold FacC at hF'
  have ho : OutP h m := ⟨⟨fo, o1⟩, fd, o2⟩
  obtain ⟨bn, rs, hBat9⟩ := hBat
  refine wp_aload_n (n := 1111) dL_law_1110 rfl rfl ?_
  refine wp_callVs (n := 1114) (rm' := (7, 155, 0, 0)) (c0 := c0) (s0 := s0) (C := 20) (S := 4409) rfl dL_law_1111 rfl mlL_217 [] rfl rfl hF' rfl rfl rfl (Nat.le_of_ble_eq_true rfl) rfl ?_
  refine s_X9_batch hF hT hBat9 hL0 hI0 hX hA (by omega) (by omega) (by omega) hlen (fun e9 pos h1 n9 rs9 hbt hz1 g1 g3 g2 hF1 hT1 hB1 => ?_) (fun n9 rs9 kq h1 hbt hcar hkn hz1 g1 g3 g2 hF1 hT1 hB1 hX1 => ?_) (fun n9 rs9 K9 h1 hbt hcar hI9 hz1 g1 g3 g2 hF1 hT1 hB1 hL1 => ?_)
  · show WP Γ _ _ _ _ _ _ _
    have e1 : ∀ c, (c < p ∨ m ≤ c) → h1.2 c = h.2 c := fun c hc => by
      rcases hc with hc | hc
      · exact g2 c hc
      · exact g1 c (by omega)
    have B : Bet p m h h1 h1 := Bet.r ho (fun c hc => e1 c (by omega))
    have mC3' := ModC.mv (B.1 m (by omega)) mC
    unfold ModC at mC3'
    refine wp_aload_n (n := 1115) dL_law_1114 rfl rfl ?_
    refine wp_callVs (n := 1118) (rm' := (7, 163, 0, 0)) (c0 := c0) (s0 := s0) rfl dL_law_1115 rfl mlL_220 [] rfl rfl mC3' rfl rfl rfl (Nat.le_of_ble_eq_true rfl) rfl ?_
    refine s_X10_batch (K0 := mkK np qu ra re le ln nb pl tm ne rw bk nh hw nc cw t y) (rs := rs) (out := .inl 0) (ModC.mv (B.1 _ (by omega)) mC) (by omega) ((B.1 _ (by omega)).trans mB) hB hlen ((B.1 _ (by omega)).trans mR) ((B.1 _ (by omega)).trans mK) ((B.1 _ (by omega)).trans mP) ((B.1 _ (by omega)).trans mE) ((B.1 _ (by omega)).trans mR3) ((B.1 _ (by omega)).trans mRA) hr hI hre hbt (fun rs' n' q => by cases q) (fun e92 pos2 h2 hq frr mm w11 => ?_) (fun rs92 n92 kq2 h2 R9 RE9 hq hq2 fz fr2 mm r9 eR rE9 eE w3 w6 w9 w11 => ?_) (fun rs92 n92 K92 h2 R9 RE9 hq hq2 hI92 fz fr2 mm r9 hr9 rE9 hre9 w3 w6 w9 w11 => ?_)
    · show WP Γ _ _ _ _ _ _ _
      cases hq
      obtain ⟨at2, bg2, ea2, cm2, m2⟩ := mm
      obtain ⟨fz, fr2⟩ := frr
      refine wp_icmp_eq (t := 3329) (n := 1121) dL_law_1118 (by decide) rfl (fun hc => ?_) (fun hc => ?_)
      · exact wp_big (rm := (10, 196, c0, s0)) (Nat.le_refl _) (Nat.le_refl _) (Nat.le_add_right _ _) (Nat.le_add_right _ _) (k h2 (fin_r (K := mkK np qu ra re le ln nb pl tm ne rw bk nh hw nc cw t y) (len := 0) hA hs0 hm (c10.re (K' := mkK np qu ra re le ln nb pl tm ne rw bk nh hw nc cw t y) hF1 hT1 g3 ⟨_, _, hB1⟩ (g1 _ (by omega)) (LedK.ext (K := mkK np qu ra re le ln nb pl tm ne rw bk nh hw nc cw t y) ⟨pk, hL0⟩ (fun c _ _ => g1 c (by omega))) (hX.ext (fun c _ _ => g1 c (by omega))) hbD hz1 (fun c hc => e1 c (Or.inr hc))) ⟨by omega, hI, hIS⟩ B (fun c hc => fr2 c (by omega) (by omega)) fz (hM0.re ⟨_, _, _, _, _, _, m2⟩ ⟨R, (fr2 _ (by omega) (by omega)).trans ((B.1 _ (by omega)).trans mR), hr⟩ ⟨RE, (fr2 _ (by omega) (by omega)).trans ((B.1 _ (by omega)).trans mE), hre⟩ ⟨R2, (fr2 _ (by omega) (by omega)).trans ((B.1 _ (by omega)).trans mR2)⟩ ⟨R3, (fr2 _ (by omega) (by omega)).trans ((B.1 _ (by omega)).trans mR3)⟩ ⟨RA, (fr2 _ (by omega) (by omega)).trans ((B.1 _ (by omega)).trans mRA)⟩ ⟨mpk, (fr2 _ (by omega) (by omega)).trans ((B.1 _ (by omega)).trans mP)⟩ w11 (fun c hc => (fr2 c (by omega) (by omega)).trans (B.1 c (by omega))))))
      · exact absurd rfl hc
    · cases hq
    · cases hq
  · show WP Γ _ _ _ _ _ _ _
    have e1 : ∀ c, (c < p ∨ m ≤ c) → h1.2 c = h.2 c := fun c hc => by
      rcases hc with hc | hc
      · exact g2 c hc
      · exact g1 c (by omega) (by omega)
    have B : Bet p m h h1 h1 := Bet.r ho (fun c hc => e1 c (by omega))
    have mC3' := ModC.mv (B.1 m (by omega)) mC
    unfold ModC at mC3'
    refine wp_aload_n (n := 1115) dL_law_1114 rfl rfl ?_
    refine wp_callVs (n := 1118) (rm' := (7, 163, 0, 0)) (c0 := c0) (s0 := s0) rfl dL_law_1115 rfl mlL_220 [] rfl rfl mC3' rfl rfl rfl (Nat.le_of_ble_eq_true rfl) rfl ?_
    refine s_X10_batch (K0 := mkK np qu ra re le ln nb pl tm ne rw bk nh hw nc cw t y) (rs := rs)  (ModC.mv (B.1 _ (by omega)) mC) (by omega) ((B.1 _ (by omega)).trans mB) hB hlen ((B.1 _ (by omega)).trans mR) ((B.1 _ (by omega)).trans mK) ((B.1 _ (by omega)).trans mP) ((B.1 _ (by omega)).trans mE) ((B.1 _ (by omega)).trans mR3) ((B.1 _ (by omega)).trans mRA) hr hI hre hbt (fun rs' n' q => by cases q; exact hcar) (fun e92 pos2 h2 hq frr mm w11 => ?_) (fun rs92 n92 kq2 h2 R9 RE9 hq hq2 fz fr2 mm r9 eR rE9 eE w3 w6 w9 w11 => ?_) (fun rs92 n92 K92 h2 R9 RE9 hq hq2 hI92 fz fr2 mm r9 hr9 rE9 hre9 w3 w6 w9 w11 => ?_)
    · cases hq
    · show WP Γ _ _ _ _ _ _ _
      cases hq
      cases hq2
      obtain ⟨at2, bg2, ea2, cm2, m2⟩ := mm
      refine wp_icmp_eq (t := 3329) (n := 1121) dL_law_1118 (by decide) rfl (fun hc => ?_) (fun hc => ?_)
      · exact wp_big (rm := (10, 196, c0, s0)) (Nat.le_refl _) (Nat.le_refl _) (Nat.le_add_right _ _) (Nat.le_add_right _ _) (k h2 (fin_r (K := mkK np qu ra re le ln nb pl tm ne rw bk nh hw nc cw t y) (len := 0) hA hs0 hm (c10.re (K' := mkK np qu ra re le ln nb pl tm ne rw bk nh hw nc cw t y) hF1 hT1 g3 ⟨_, _, hB1⟩ (g1 _ (by omega) (by omega)) (LedK.ext (K := mkK np qu ra re le ln nb pl tm ne rw bk nh hw nc cw t y) ⟨pk, hL0⟩ (fun c _ _ => g1 c (by omega) (by omega))) hX1 hbD hz1 (fun c hc => e1 c (Or.inr hc))) ⟨by omega, hI, hIS⟩ B (fun c hc => fr2 c (by omega) (by omega) (by omega) (by omega) (by omega) (by omega) (by omega)) fz (hM0.re ⟨_, _, _, _, _, _, m2⟩ ⟨R9, r9, RowK.same (K := mkK np qu ra re le ln nb pl tm ne rw bk nh hw nc cw t y) hr hI eR⟩ ⟨RE9, rE9, fun q (hq : q < np) => (eE q (by omega)).trans (hre0 q hq)⟩ ⟨R2, (fr2 _ (by omega) (by omega) (by omega) (by omega) (by omega) (by omega) (by omega)).trans ((B.1 _ (by omega)).trans mR2)⟩ w3 w6 w9 w11 (fun c hc => (fr2 c (by omega) (by omega) (by omega) (by omega) (by omega) (by omega) (by omega)).trans (B.1 c (by omega))))))
      · exact absurd rfl hc
    · cases hq2
  · show WP Γ _ _ _ _ _ _ _
    have e1 : ∀ c, (c < p ∨ m ≤ c) → h1.2 c = h.2 c := fun c hc => by
      rcases hc with hc | hc
      · exact g2 c hc
      · exact g1 c (by omega) (by omega)
    have B : Bet p m h h1 h1 := Bet.r ho (fun c hc => e1 c (by omega))
    have mC3' := ModC.mv (B.1 m (by omega)) mC
    unfold ModC at mC3'
    refine wp_aload_n (n := 1115) dL_law_1114 rfl rfl ?_
    refine wp_callVs (n := 1118) (rm' := (7, 163, 0, 0)) (c0 := c0) (s0 := s0) rfl dL_law_1115 rfl mlL_220 [] rfl rfl mC3' rfl rfl rfl (Nat.le_of_ble_eq_true rfl) rfl ?_
    refine s_X10_batch (K0 := mkK np qu ra re le ln nb pl tm ne rw bk nh hw nc cw t y) (rs := rs)  (ModC.mv (B.1 _ (by omega)) mC) (by omega) ((B.1 _ (by omega)).trans mB) hB hlen ((B.1 _ (by omega)).trans mR) ((B.1 _ (by omega)).trans mK) ((B.1 _ (by omega)).trans mP) ((B.1 _ (by omega)).trans mE) ((B.1 _ (by omega)).trans mR3) ((B.1 _ (by omega)).trans mRA) hr hI hre hbt (fun rs' n' q => by cases q; exact hcar) (fun e92 pos2 h2 hq frr mm w11 => ?_) (fun rs92 n92 kq2 h2 R9 RE9 hq hq2 fz fr2 mm r9 eR rE9 eE w3 w6 w9 w11 => ?_) (fun rs92 n92 K92 h2 R9 RE9 hq hq2 hI92 fz fr2 mm r9 hr9 rE9 hre9 w3 w6 w9 w11 => ?_)
    · cases hq
    · cases hq2
    · show WP Γ _ _ _ _ _ _ _
      cases hq
      cases hq2
      obtain ⟨at2, bg2, ea2, cm2, m2⟩ := mm
      refine wp_icmp_eq (t := 3329) (n := 1121) dL_law_1118 (by decide) rfl (fun hc => ?_) (fun hc => ?_)
      · exact wp_big (rm := (10, 196, c0, s0)) (Nat.le_refl _) (Nat.le_refl _) (Nat.le_add_right _ _) (Nat.le_add_right _ _) (k h2 (fin_r (K := K9) (len := 0) hA hs0 hm (c10.re (K' := K9) hF1 hT1 g3 ⟨_, _, hB1⟩ (g1 _ (by omega) (by omega)) hL1 (LedK.x (LedK.ext (K := mkK np qu ra re le ln nb pl tm ne rw bk nh hw nc cw t y) ⟨pk, hL0⟩ (fun c _ _ => g1 c (by omega) (by omega)))) (by omega) hz1 (fun c hc => e1 c (Or.inr hc))) ⟨by omega, hI9, hIS⟩ B (fun c hc => fr2 c (by omega) (by omega) (by omega) (by omega) (by omega) (by omega) (by omega)) fz (hM0.re ⟨_, _, _, _, _, _, m2⟩ ⟨R9, r9, hr9⟩ ⟨RE9, rE9, hre9⟩ ⟨R2, (fr2 _ (by omega) (by omega) (by omega) (by omega) (by omega) (by omega) (by omega)).trans ((B.1 _ (by omega)).trans mR2)⟩ w3 w6 w9 w11 (fun c hc => (fr2 c (by omega) (by omega) (by omega) (by omega) (by omega) (by omega) (by omega)).trans (B.1 c (by omega))))))
      · exact absurd rfl hc
theorem cs_totalRent (hA : Γ.2.1 ≤ p) (hs : ScrP Γ h sa N S) (ho : OutP h m) (c1 : ClsP h p m b D er bs len f (mkK np qu ra re le ln nb pl tm ne rw bk nh hw nc cw t y) KS) (hP : PurP len f (mkK np qu ra re le ln nb pl tm ne rw bk nh hw nc cw t y) KS) (hM : ModP h m er bs len f (mkK np qu ra re le ln nb pl tm ne rw bk nh hw nc cw t y) KS) (hi : i0 + 5 ≤ N) (k : ∀ h', Sim Γ h' p m sa N S → WP Γ ML_law (10, 196, c0, s0) 3329 [some (.ref sa), some (.ref p), some (.ref m), some (.ref (m + 12)), some (.ref (m + 13)), some (.int (nI i0)), none, none, none, none] [] h' Q) : WP Γ ML_law (10, 196, c0 + 20, s0 + 4409) 2829 [some (.ref sa), some (.ref p), some (.ref m), some (.ref (m + 12)), some (.ref (m + 13)), some (.int (nI i0)), none, none, none, none] [] h Q := by
  have hs0 := hs
  have c10 := c1
  have hP0 := hP
  have hM0 := hM
  obtain ⟨hsa, hsl, hN, hfree⟩ := hs
  obtain ⟨⟨fo, o1⟩, fd, o2⟩ := ho
  obtain ⟨hF, hT, hR3, hBat, hSna, ⟨pk, hL⟩, hX, hbD, hm, hz, hsn, hap⟩ := c1
  obtain ⟨hlen, hI, hIS⟩ := hP
  obtain ⟨⟨th, at', bg, e9, ea, cm, mC⟩, ⟨R, mR, hr⟩, ⟨R2, mR2⟩, ⟨R3, mR3⟩, ⟨RE, mE, hre⟩, ⟨RA, mRA⟩, ⟨mpk, mP⟩, ⟨B, mB, hB⟩, ⟨CM, mK⟩, CC, CE, SV, mCC, mCE, mSV, hsv, hsr⟩ := hM
  have hI0 : Inv np qu ra re le ln nb pl tm ne rw bk nh hw nc cw t y := hI
  have hr0 : RowR R np qu ra re le ln nb pl tm ne rw bk nh hw nc cw t y := hr
  have hL0 : LedP h b np qu ra re le ln nb pl tm ne rw bk nh hw nc cw t y pk := hL
  have hre0 : ∀ j, j < np → RE j = re j := hre
  obtain ⟨⟨s1, s2, s3, s4, s5, s6, s7, s8, tn, s9, s10⟩, IM, IP, IJ, IR, IC⟩ := hI0
  have hI0 : Inv np qu ra re le ln nb pl tm ne rw bk nh hw nc cw t y := hI
  have hF' := hF
  unfold FacC at hF'
  have ho : OutP h m := ⟨⟨fo, o1⟩, fd, o2⟩
  refine wp_aload_n (n := 2830) dL_law_2829 rfl rfl ?_
  refine wp_callVs (n := 2833) (rm' := (1, 22, 0, 0)) (c0 := c0) (s0 := s0) (C := 20) (S := 4409) rfl dL_law_2830 rfl mlL_309 [] rfl rfl hF' rfl rfl rfl (Nat.le_of_ble_eq_true rfl) rfl ?_
  refine s_X9_totalRent hF hL0 (by omega) (fun j hj => (IP j hj).1) (fun hpf => ?_)
  show WP Γ _ _ _ _ _ _ _
  have B : Bet p m h h h := Bet.r ho (fun _ _ => rfl)
  have mC3' := ModC.mv (B.1 m (by omega)) mC
  unfold ModC at mC3'
  refine wp_f2d (n := 2834) dL_law_2833 rfl (n64_of (nn_f2d hpf.nn)) ?_
  refine wp_dstore (n := 2836) dL_law_2834 rfl rfl rfl rfl ?_
  refine wp_aload_n (n := 2837) dL_law_2836 rfl rfl ?_
  refine wp_callVs (n := 2840) (rm' := (0, 0, 0, 0)) (c0 := c0) (s0 := s0) rfl dL_law_2837 rfl mlL_313 [] rfl rfl mC3' rfl rfl rfl (Nat.le_of_ble_eq_true rfl) rfl ?_
  refine s_X10_totalRent (ModC.mv (B.1 _ (by omega)) mC) ((B.1 _ (by omega)).trans mR) hr0 hI0 (by omega) (by omega) ((B.1 _ (by omega)).trans mE) hre0 (fun h2 fr2 m2 _ => ?_)
  show WP Γ _ _ _ _ _ _ _
  refine wp_f2d (n := 2841) dL_law_2840 rfl (n64_of (nn_f2d hpf.nn)) ?_
  refine wp_dstore (n := 2843) dL_law_2841 rfl rfl rfl rfl ?_
  refine wp_dload (n := 2845) dL_law_2843 rfl rfl ?_
  refine wp_dload (n := 2847) dL_law_2845 rfl rfl ?_
  refine wp_dcmp (n := 2848) dL_law_2847 rfl ?_
  rw [dcmp_self (nn_f2d hpf.nn)]
  refine wp_if_eq (t := 2869) (n := 2851) dL_law_2848 (by decide) rfl (fun hc => ?_) (fun hc => ?_)
  · refine wp_goto (t := 3329) dL_law_2869 (by decide) ?_
    refine wp_lo (lo' := [some (.ref sa), some (.ref p), some (.ref m), some (.ref (m + 12)), some (.ref (m + 13)), some (.int (nI i0)), none, none, none, none]) (fun k v hk => ?_) ?_
    · match k, hk with
      | 0, hk => exact hk
      | 1, hk => exact hk
      | 2, hk => exact hk
      | 3, hk => exact hk
      | 4, hk => exact hk
      | 5, hk => exact hk
      | 6, hk => exact absurd hk (by simp [ax_gl])
      | 7, hk => exact absurd hk (by simp [ax_gl])
      | 8, hk => exact absurd hk (by simp [ax_gl])
      | 9, hk => exact absurd hk (by simp [ax_gl])
      | k + 10, hk => exact absurd hk (by simp [ax_gl])
    exact wp_big (rm := (10, 196, c0, s0)) (Nat.le_refl _) (Nat.le_refl _) (Nat.le_add_right _ _) (Nat.le_add_right _ _) (k h2 (fin_q hA hs0 hM0 hP0 c10 hm B fr2 ⟨_, _, _, _, _, _, m2⟩))
  · exact absurd rfl hc
end
