/-! ===== the law: cases ===== -/
section
variable {Γ : GE} {h : AH} {Q : PO} {p m b D sa N len i0 c0 s0 np nb ne nh nc y : Nat} {er : Int32} {bs S : FI} {f : Nat → Option Nat} {KS : Nat → KL} {qu ra le ln pl tm rw hw cw : FI} {re : Nat → UInt32} {bk : Nat → Int64} {t : Int32}
theorem cs_bookedAt (hA : Γ.2.1 ≤ p) (hs : ScrP Γ h sa N S) (ho : OutP h m) (c1 : ClsP h p m b D er bs len f (mkK np qu ra re le ln nb pl tm ne rw bk nh hw nc cw t y) KS) (hP : PurP len f (mkK np qu ra re le ln nb pl tm ne rw bk nh hw nc cw t y) KS) (hM : ModP h m er bs len f (mkK np qu ra re le ln nb pl tm ne rw bk nh hw nc cw t y) KS) (hi : i0 + 5 ≤ N) (k : ∀ h', Sim Γ h' p m sa N S → WP Γ ML_law (10, 196, c0, s0) 3329 [some (.ref sa), some (.ref p), some (.ref m), some (.ref (m + 12)), some (.ref (m + 13)), some (.int (nI i0)), none, none, none, none] [] h' Q) : WP Γ ML_law (10, 196, c0 + 20, s0 + 4409) 2145 [some (.ref sa), some (.ref p), some (.ref m), some (.ref (m + 12)), some (.ref (m + 13)), some (.int (nI i0)), none, none, none, none] [] h Q := by
  have hs0 := hs
  have c10 := c1
  have hP0 := hP
  have hM0 := hM
  obtain ⟨hsa, hsl, hN, hfree⟩ := hs
  obtain ⟨⟨fo, o1⟩, fd, o2⟩ := ho
  obtain ⟨hF, hT, hR3, hBat, hSna, ⟨pk, hL⟩, hX, hbD, hm, hz, hsn, hap⟩ := c1
  obtain ⟨hlen, hI, hIS⟩ := hP
  obtain ⟨⟨th, at', bg, e9, ea, cm, mC⟩, ⟨R, mR, hr⟩, ⟨R2, mR2⟩, ⟨R3, mR3⟩, ⟨RE, mE, hre⟩, ⟨RA, mRA⟩, ⟨mpk, mP⟩, ⟨B, mB, hB⟩, ⟨CM, mK⟩, CC, CE, SV, mCC, mCE, mSV, hsv, hsr⟩ := hM
  have hI0 : Inv np qu ra re le ln nb pl tm ne rw bk nh hw nc cw t y := hI
  have hr0 : RowR R np qu ra re le ln nb pl tm ne rw bk nh hw nc cw t y := hr
  have hL0 : LedP h b np qu ra re le ln nb pl tm ne rw bk nh hw nc cw t y pk := hL
  have hre0 : ∀ j, j < np → RE j = re j := hre
  obtain ⟨⟨s1, s2, s3, s4, s5, s6, s7, s8, tn, s9, s10⟩, IM, IP, IJ, IR, IC⟩ := hI0
  have hI0 : Inv np qu ra re le ln nb pl tm ne rw bk nh hw nc cw t y := hI
  have hF' := hF
  unfold FacC at hF'
  have ho : OutP h m := ⟨⟨fo, o1⟩, fd, o2⟩
  have TE : ∀ (X Y : Nat) (h2 : AH) (kk : Int32) (v9 : Int32), ¬ kk = 0 → Sim Γ h2 p m sa N S → (∃ tl at' bg e9 ea lr cm, ModC h2 m (m + 1) kk tl at' bg e9 ea lr cm) → WP Γ ML_law (10, 196, c0 + X, s0 + Y) 2180 [some (.ref sa), some (.ref p), some (.ref m), some (.ref (m + 12)), some (.ref (m + 13)), some (.int (nI i0)), some (.int kk), none, none, none] [.int v9] h2 Q := by
    intro X Y h2 kk v9 hk hsim hm2
    obtain ⟨tl2, at2, bg2, e2, ea2, lr2, cm2, m2⟩ := hm2
    have m20 := m2
    unfold ModC at m2
    refine wp_istore (n := 2182) dL_law_2180 rfl rfl rfl rfl ?_
    refine wp_aload_n (n := 2183) dL_law_2182 rfl rfl ?_
    refine wp_callVs (n := 2186) (rm' := (0, 0, 0, 0)) (c0 := c0) (s0 := s0) rfl dL_law_2183 rfl mlL_156 [] rfl rfl m2 rfl rfl rfl (Nat.le_of_ble_eq_true rfl) rfl ?_
    refine s_X10_thrown m20 ?_
    show WP Γ _ _ _ _ _ _ _
    refine wp_iload (n := 2188) dL_law_2186 rfl rfl ?_
    refine wp_icmp_eq (t := 2193) (n := 2191) dL_law_2188 (by decide) rfl (fun hc => ?_) (fun hc => ?_)
    · refine wp_iload (n := 2195) dL_law_2193 rfl rfl ?_
      refine wp_if_ne (t := 2210) (n := 2198) dL_law_2195 (by decide) rfl (fun hq => ?_) (fun hq => ?_)
      · refine wp_goto (t := 3329) dL_law_2210 (by decide) ?_
        refine wp_lo (lo' := [some (.ref sa), some (.ref p), some (.ref m), some (.ref (m + 12)), some (.ref (m + 13)), some (.int (nI i0)), none, none, none, none]) (fun k v hk => ?_) ?_
        · match k, hk with
          | 0, hk => exact hk
          | 1, hk => exact hk
          | 2, hk => exact hk
          | 3, hk => exact hk
          | 4, hk => exact hk
          | 5, hk => exact hk
          | 6, hk => exact absurd hk (by simp [ax_gl])
          | 7, hk => exact absurd hk (by simp [ax_gl])
          | 8, hk => exact absurd hk (by simp [ax_gl])
          | 9, hk => exact absurd hk (by simp [ax_gl])
          | k + 10, hk => exact absurd hk (by simp [ax_gl])
        exact wp_big (rm := (10, 196, c0, s0)) (Nat.le_refl _) (Nat.le_refl _) (Nat.le_add_right _ _) (Nat.le_add_right _ _) (k h2 hsim)
      · exact absurd hq hk
    · exact absurd rfl hc
  have TO : ∀ (X Y : Nat) (h2 : AH) (r : Int32) (fo2 : Nat → Int64), Sim Γ h2 p m sa N S → (∃ tl at' bg e9 ea lr cm, ModC h2 m (m + 1) 0 tl at' bg e9 ea lr cm) → h2.2 (m + 12) = some (.inl (.long, 1, .inr (.inl fo2))) → fo2 0 = r.toInt64 → WP Γ ML_law (10, 196, c0 + X, s0 + Y) 2180 [some (.ref sa), some (.ref p), some (.ref m), some (.ref (m + 12)), some (.ref (m + 13)), some (.int (nI i0)), some (.int 0), none, none, none] [.int r] h2 Q := by
    intro X Y h2 r fo2 hsim hm2 ho2 hv2
    obtain ⟨tl2, at2, bg2, e2, ea2, lr2, cm2, m2⟩ := hm2
    have m20 := m2
    unfold ModC at m2
    have fin : ∀ l7 : Option Value, WP Γ ML_law (10, 196, c0 + (X - 0), s0 + (Y - 0)) 2210 [some (.ref sa), some (.ref p), some (.ref m), some (.ref (m + 12)), some (.ref (m + 13)), some (.int (nI i0)), some (.int 0), l7, none, none] [] h2 Q := by
      intro l7
      refine wp_goto (t := 3329) dL_law_2210 (by decide) ?_
      refine wp_lo (lo' := [some (.ref sa), some (.ref p), some (.ref m), some (.ref (m + 12)), some (.ref (m + 13)), some (.int (nI i0)), none, none, none, none]) (fun k v hk => ?_) ?_
      · match k, hk with
        | 0, hk => exact hk
        | 1, hk => exact hk
        | 2, hk => exact hk
        | 3, hk => exact hk
        | 4, hk => exact hk
        | 5, hk => exact hk
        | 6, hk => exact absurd hk (by simp [ax_gl])
        | 7, hk => exact absurd hk (by simp [ax_gl])
        | 8, hk => exact absurd hk (by simp [ax_gl])
        | 9, hk => exact absurd hk (by simp [ax_gl])
        | k + 10, hk => exact absurd hk (by simp [ax_gl])
      exact wp_big (rm := (10, 196, c0, s0)) (Nat.le_refl _) (Nat.le_refl _) (Nat.le_add_right _ _) (Nat.le_add_right _ _) (k h2 hsim)
    refine wp_istore (n := 2182) dL_law_2180 rfl rfl rfl rfl ?_
    refine wp_aload_n (n := 2183) dL_law_2182 rfl rfl ?_
    refine wp_callVs (n := 2186) (rm' := (0, 0, 0, 0)) (c0 := c0) (s0 := s0) rfl dL_law_2183 rfl mlL_156 [] rfl rfl m2 rfl rfl rfl (Nat.le_of_ble_eq_true rfl) rfl ?_
    refine s_X10_thrown m20 ?_
    show WP Γ _ _ _ _ _ _ _
    refine wp_iload (n := 2188) dL_law_2186 rfl rfl ?_
    refine wp_icmp_eq (t := 2193) (n := 2191) dL_law_2188 (by decide) rfl (fun hc => ?_) (fun hc => ?_)
    · refine wp_iload (n := 2195) dL_law_2193 rfl rfl ?_
      refine wp_if_ne (t := 2210) (n := 2198) dL_law_2195 (by decide) rfl (fun hq => ?_) (fun hq => ?_)
      · exact absurd rfl hq
      · refine wp_aload_n (n := 2199) dL_law_2198 rfl rfl ?_
        refine wp_iconst (n := 2200) (v := 0) dL_law_2199 rfl (by decide) ?_
        refine wp_lald (n := 2201) 0 dL_law_2200 rfl ho2 rfl (by omega) (by omega) ?_
        rw [hv2]
        refine wp_iload (n := 2203) dL_law_2201 rfl rfl ?_
        refine wp_i2l (n := 2204) dL_law_2203 rfl ?_
        refine wp_lcmp (n := 2205) dL_law_2204 rfl ?_
        rw [lg_self]
        refine wp_if_eq (t := 2210) (n := 2208) dL_law_2205 (by decide) rfl (fun hu => ?_) (fun hu => ?_)
        · exact fin _
        · exact absurd rfl hu
    · exact absurd rfl hc
  have MC : ∀ (X Y : Nat) (h3 : AH) (kk : Int32), h3.2 m = h.2 m → h3.2 sa = h.2 sa → WP Γ MX10_bookedAt (3, 65, 0, 0) 0 [some (.ref m), some (.int (S (i0 + 1))), some (.int (S (i0 + 2)))] [] h3 (ax_K Γ ML_law (10, 196, c0 + (X - 0), s0 + (Y - 0)) 2180 [some (.ref sa), some (.ref p), some (.ref m), some (.ref (m + 12)), some (.ref (m + 13)), some (.int (nI i0)), some (.int kk), none, none, none] [] Q) → WP Γ ML_law (10, 196, c0 + X, s0 + Y) 2162 [some (.ref sa), some (.ref p), some (.ref m), some (.ref (m + 12)), some (.ref (m + 13)), some (.int (nI i0)), none, none, none, none] [.int kk] h3 Q := by
    intro X Y h3 kk e1 e2 kk3
    have mC3' := ModC.mv e1 mC
    unfold ModC at mC3'
    have hsa3 := e2.trans hsa
    refine wp_istore (n := 2164) dL_law_2162 rfl rfl rfl rfl ?_
    refine wp_aload_n (n := 2165) dL_law_2164 rfl rfl ?_
    refine wp_aload_n (n := 2166) dL_law_2165 rfl rfl ?_
    refine wp_iload (n := 2168) dL_law_2166 rfl rfl ?_
    refine wp_iconst (n := 2169) (v := nI 1) dL_law_2168 rfl (by decide) ?_
    refine wp_iadd (n := 2170) dL_law_2169 rfl ?_
    refine wp_iald (n := 2171) (i0 + 1) dL_law_2170 rfl (by repeat first | assumption | exact ax_set_self _ _ _ | exact ax_newA_self _ _ _ | refine (ax_set_ne _ _ (by omega)).trans ?_ | refine (ax_newA_ne _ _ _ (by omega)).trans ?_) (by simp only [nI_zero, nI_mul, nI_add]) (by omega) (by omega) ?_
    refine wp_aload_n (n := 2172) dL_law_2171 rfl rfl ?_
    refine wp_iload (n := 2174) dL_law_2172 rfl rfl ?_
    refine wp_iconst (n := 2175) (v := nI 2) dL_law_2174 rfl (by decide) ?_
    refine wp_iadd (n := 2176) dL_law_2175 rfl ?_
    refine wp_iald (n := 2177) (i0 + 2) dL_law_2176 rfl (by repeat first | assumption | exact ax_set_self _ _ _ | exact ax_newA_self _ _ _ | refine (ax_set_ne _ _ (by omega)).trans ?_ | refine (ax_newA_ne _ _ _ (by omega)).trans ?_) (by simp only [nI_zero, nI_mul, nI_add]) (by omega) (by omega) ?_
    refine wp_callVs (n := 2180) (rm' := (3, 65, 0, 0)) (c0 := c0) (s0 := s0) rfl dL_law_2177 rfl mlL_276 [.int (S (i0 + 1)), .int (S (i0 + 2))] rfl rfl mC3' rfl rfl rfl (Nat.le_of_ble_eq_true rfl) rfl ?_
    exact kk3
  refine wp_aload_n (n := 2146) dL_law_2145 rfl rfl ?_
  refine wp_aload_n (n := 2147) dL_law_2146 rfl rfl ?_
  refine wp_iload (n := 2149) dL_law_2147 rfl rfl ?_
  refine wp_iconst (n := 2150) (v := nI 1) dL_law_2149 rfl (by decide) ?_
  refine wp_iadd (n := 2151) dL_law_2150 rfl ?_
  refine wp_iald (n := 2152) (i0 + 1) dL_law_2151 rfl (by repeat first | assumption | exact ax_set_self _ _ _ | exact ax_newA_self _ _ _ | refine (ax_set_ne _ _ (by omega)).trans ?_ | refine (ax_newA_ne _ _ _ (by omega)).trans ?_) (by simp only [nI_zero, nI_mul, nI_add]) (by omega) (by omega) ?_
  refine wp_aload_n (n := 2153) dL_law_2152 rfl rfl ?_
  refine wp_iload (n := 2155) dL_law_2153 rfl rfl ?_
  refine wp_iconst (n := 2156) (v := nI 2) dL_law_2155 rfl (by decide) ?_
  refine wp_iadd (n := 2157) dL_law_2156 rfl ?_
  refine wp_iald (n := 2158) (i0 + 2) dL_law_2157 rfl (by repeat first | assumption | exact ax_set_self _ _ _ | exact ax_newA_self _ _ _ | refine (ax_set_ne _ _ (by omega)).trans ?_ | refine (ax_newA_ne _ _ _ (by omega)).trans ?_) (by simp only [nI_zero, nI_mul, nI_add]) (by omega) (by omega) ?_
  refine wp_aload_n (n := 2159) dL_law_2158 rfl rfl ?_
  refine wp_callSH (n := 2162) (rm' := (8, 138, 2, 12)) (c0 := c0) (s0 := s0) (C := 20) (S := 4409) rfl dL_law_2159 rfl mwL_274 [.ref p, .int (S (i0 + 1)), .int (S (i0 + 2)), .ref (m + 12)] rfl rfl rfl rfl (Nat.le_of_ble_eq_true rfl) rfl ?_
  refine s_L_bookedAt hF' (by omega) ?_
  refine s_X9_bookedAt hF hL0 (by omega) (by omega) (fun c1 n1 hn1 => ?_) (fun c1 c2 n1 hn1 => ?_) (fun i hi ei hz0 => ?_)
  · refine Or.inr (Or.inr ⟨rfl, Or.inl ⟨rfl, ?_⟩⟩)
    show WP Γ _ _ _ _ _ _ _
    have B : Bet p m h h _ := Bet.n (p := p) ho hn1
    refine MC _ _ _ _ (B.1 _ (by omega)) (B.1 _ (by omega)) ?_
    refine s_X10_bookedAt (ModC.mv (B.1 _ (by omega)) mC) ((B.1 _ (by omega)).trans mR) hr0 hI0 (by omega) (by omega) (fun d1 h2 fr2 m2 => ?_) (fun d1 d2 h2 fr2 m2 => ?_) (fun i2 hi2 ei2 hz2 h2 fr2 m2 => ?_)
    · show WP Γ _ _ _ _ _ _ _
      exact TE _ _ h2 _ _ (by decide) (fin_q hA hs0 hM0 hP0 c10 hm B fr2 ⟨_, _, _, _, _, _, m2⟩) ⟨_, _, _, _, _, _, _, m2⟩
    · exact absurd (c1.symm.trans d1) (by decide)
    · have d1 : inN (S (i0 + 1)) np = true := by rw [ei2]; exact inN_of hi2 (by omega)
      have d2 : decide (0 ≤ (S (i0 + 2))) = true := decide_eq_true hz2
      exact absurd (c1.symm.trans d1) (by decide)
  · refine Or.inr (Or.inr ⟨rfl, Or.inr ⟨rfl, ?_⟩⟩)
    show WP Γ _ _ _ _ _ _ _
    have B : Bet p m h h _ := Bet.n (p := p) ho hn1
    have c2 := decide_eq_false (p := 0 ≤ (S (i0 + 2))) (Int32.not_le.mpr c2)
    refine MC _ _ _ _ (B.1 _ (by omega)) (B.1 _ (by omega)) ?_
    refine s_X10_bookedAt (ModC.mv (B.1 _ (by omega)) mC) ((B.1 _ (by omega)).trans mR) hr0 hI0 (by omega) (by omega) (fun d1 h2 fr2 m2 => ?_) (fun d1 d2 h2 fr2 m2 => ?_) (fun i2 hi2 ei2 hz2 h2 fr2 m2 => ?_)
    · exact absurd (c1.symm.trans d1) (by decide)
    · show WP Γ _ _ _ _ _ _ _
      exact TE _ _ h2 _ _ (by decide) (fin_q hA hs0 hM0 hP0 c10 hm B fr2 ⟨_, _, _, _, _, _, m2⟩) ⟨_, _, _, _, _, _, _, m2⟩
    · have d1 : inN (S (i0 + 1)) np = true := by rw [ei2]; exact inN_of hi2 (by omega)
      have d2 : decide (0 ≤ (S (i0 + 2))) = true := decide_eq_true hz2
      exact absurd (c2.symm.trans d2) (by decide)
  · refine ⟨fo, o1, fun fo1 hv => ?_⟩
    show WP Γ _ _ _ _ _ _ _
    have B : Bet p m h h _ := Bet.o fo1 ho hm (fun _ _ => rfl)
    have c1 : inN (S (i0 + 1)) np = true := by rw [ei]; exact inN_of hi (by omega)
    have c2 : decide (0 ≤ (S (i0 + 2))) = true := decide_eq_true hz0
    refine MC _ _ _ _ (B.1 _ (by omega)) (B.1 _ (by omega)) ?_
    refine s_X10_bookedAt (ModC.mv (B.1 _ (by omega)) mC) ((B.1 _ (by omega)).trans mR) hr0 hI0 (by omega) (by omega) (fun d1 h2 fr2 m2 => ?_) (fun d1 d2 h2 fr2 m2 => ?_) (fun i2 hi2 ei2 hz2 h2 fr2 m2 => ?_)
    · exact absurd (c1.symm.trans d1) (by decide)
    · exact absurd (c2.symm.trans d2) (by decide)
    · have d1 : inN (S (i0 + 1)) np = true := by rw [ei2]; exact inN_of hi2 (by omega)
      have d2 : decide (0 ≤ (S (i0 + 2))) = true := decide_eq_true hz2
      show WP Γ _ _ _ _ _ _ _
      obtain rfl : i = i2 := (nI_eq9 (by omega) (by omega)).mp (ei.symm.trans ei2)
      exact TO _ _ h2 _ fo1 (fin_q hA hs0 hM0 hP0 c10 hm B fr2 ⟨_, _, _, _, _, _, m2⟩) ⟨_, _, _, _, _, _, _, m2⟩ ((fr2.2 _ (by omega)).trans (ax_set_self _ _ _)) hv
theorem cs_peak (hA : Γ.2.1 ≤ p) (hs : ScrP Γ h sa N S) (ho : OutP h m) (c1 : ClsP h p m b D er bs len f (mkK np qu ra re le ln nb pl tm ne rw bk nh hw nc cw t y) KS) (hP : PurP len f (mkK np qu ra re le ln nb pl tm ne rw bk nh hw nc cw t y) KS) (hM : ModP h m er bs len f (mkK np qu ra re le ln nb pl tm ne rw bk nh hw nc cw t y) KS) (hi : i0 + 5 ≤ N) (k : ∀ h', Sim Γ h' p m sa N S → WP Γ ML_law (10, 196, c0, s0) 3329 [some (.ref sa), some (.ref p), some (.ref m), some (.ref (m + 12)), some (.ref (m + 13)), some (.int (nI i0)), none, none, none, none] [] h' Q) : WP Γ ML_law (10, 196, c0 + 20, s0 + 4409) 2213 [some (.ref sa), some (.ref p), some (.ref m), some (.ref (m + 12)), some (.ref (m + 13)), some (.int (nI i0)), none, none, none, none] [] h Q := by
  have hs0 := hs
  have c10 := c1
  have hP0 := hP
  have hM0 := hM
  obtain ⟨hsa, hsl, hN, hfree⟩ := hs
  obtain ⟨⟨fo, o1⟩, fd, o2⟩ := ho
  obtain ⟨hF, hT, hR3, hBat, hSna, ⟨pk, hL⟩, hX, hbD, hm, hz, hsn, hap⟩ := c1
  obtain ⟨hlen, hI, hIS⟩ := hP
  obtain ⟨⟨th, at', bg, e9, ea, cm, mC⟩, ⟨R, mR, hr⟩, ⟨R2, mR2⟩, ⟨R3, mR3⟩, ⟨RE, mE, hre⟩, ⟨RA, mRA⟩, ⟨mpk, mP⟩, ⟨B, mB, hB⟩, ⟨CM, mK⟩, CC, CE, SV, mCC, mCE, mSV, hsv, hsr⟩ := hM
  have hI0 : Inv np qu ra re le ln nb pl tm ne rw bk nh hw nc cw t y := hI
  have hr0 : RowR R np qu ra re le ln nb pl tm ne rw bk nh hw nc cw t y := hr
  have hL0 : LedP h b np qu ra re le ln nb pl tm ne rw bk nh hw nc cw t y pk := hL
  have hre0 : ∀ j, j < np → RE j = re j := hre
  obtain ⟨⟨s1, s2, s3, s4, s5, s6, s7, s8, tn, s9, s10⟩, IM, IP, IJ, IR, IC⟩ := hI0
  have hI0 : Inv np qu ra re le ln nb pl tm ne rw bk nh hw nc cw t y := hI
  have hF' := hF
  unfold FacC at hF'
  have ho : OutP h m := ⟨⟨fo, o1⟩, fd, o2⟩
  have TE : ∀ (X Y : Nat) (h2 : AH) (kk : Int32) (v9 : Int32), ¬ kk = 0 → Sim Γ h2 p m sa N S → (∃ tl at' bg e9 ea lr cm, ModC h2 m (m + 1) kk tl at' bg e9 ea lr cm) → WP Γ ML_law (10, 196, c0 + X, s0 + Y) 2260 [some (.ref sa), some (.ref p), some (.ref m), some (.ref (m + 12)), some (.ref (m + 13)), some (.int (nI i0)), some (.int kk), none, none, none] [.int v9] h2 Q := by
    intro X Y h2 kk v9 hk hsim hm2
    obtain ⟨tl2, at2, bg2, e2, ea2, lr2, cm2, m2⟩ := hm2
    have m20 := m2
    unfold ModC at m2
    refine wp_istore (n := 2262) dL_law_2260 rfl rfl rfl rfl ?_
    refine wp_aload_n (n := 2263) dL_law_2262 rfl rfl ?_
    refine wp_callVs (n := 2266) (rm' := (0, 0, 0, 0)) (c0 := c0) (s0 := s0) rfl dL_law_2263 rfl mlL_156 [] rfl rfl m2 rfl rfl rfl (Nat.le_of_ble_eq_true rfl) rfl ?_
    refine s_X10_thrown m20 ?_
    show WP Γ _ _ _ _ _ _ _
    refine wp_iload (n := 2268) dL_law_2266 rfl rfl ?_
    refine wp_icmp_eq (t := 2273) (n := 2271) dL_law_2268 (by decide) rfl (fun hc => ?_) (fun hc => ?_)
    · refine wp_iload (n := 2275) dL_law_2273 rfl rfl ?_
      refine wp_if_ne (t := 2290) (n := 2278) dL_law_2275 (by decide) rfl (fun hq => ?_) (fun hq => ?_)
      · refine wp_goto (t := 3329) dL_law_2290 (by decide) ?_
        refine wp_lo (lo' := [some (.ref sa), some (.ref p), some (.ref m), some (.ref (m + 12)), some (.ref (m + 13)), some (.int (nI i0)), none, none, none, none]) (fun k v hk => ?_) ?_
        · match k, hk with
          | 0, hk => exact hk
          | 1, hk => exact hk
          | 2, hk => exact hk
          | 3, hk => exact hk
          | 4, hk => exact hk
          | 5, hk => exact hk
          | 6, hk => exact absurd hk (by simp [ax_gl])
          | 7, hk => exact absurd hk (by simp [ax_gl])
          | 8, hk => exact absurd hk (by simp [ax_gl])
          | 9, hk => exact absurd hk (by simp [ax_gl])
          | k + 10, hk => exact absurd hk (by simp [ax_gl])
        exact wp_big (rm := (10, 196, c0, s0)) (Nat.le_refl _) (Nat.le_refl _) (Nat.le_add_right _ _) (Nat.le_add_right _ _) (k h2 hsim)
      · exact absurd hq hk
    · exact absurd rfl hc
  have TO : ∀ (X Y : Nat) (h2 : AH) (r : Int32) (fo2 : Nat → Int64), Sim Γ h2 p m sa N S → (∃ tl at' bg e9 ea lr cm, ModC h2 m (m + 1) 0 tl at' bg e9 ea lr cm) → h2.2 (m + 12) = some (.inl (.long, 1, .inr (.inl fo2))) → fo2 0 = r.toInt64 → WP Γ ML_law (10, 196, c0 + X, s0 + Y) 2260 [some (.ref sa), some (.ref p), some (.ref m), some (.ref (m + 12)), some (.ref (m + 13)), some (.int (nI i0)), some (.int 0), none, none, none] [.int r] h2 Q := by
    intro X Y h2 r fo2 hsim hm2 ho2 hv2
    obtain ⟨tl2, at2, bg2, e2, ea2, lr2, cm2, m2⟩ := hm2
    have m20 := m2
    unfold ModC at m2
    have fin : ∀ l7 : Option Value, WP Γ ML_law (10, 196, c0 + (X - 0), s0 + (Y - 0)) 2290 [some (.ref sa), some (.ref p), some (.ref m), some (.ref (m + 12)), some (.ref (m + 13)), some (.int (nI i0)), some (.int 0), l7, none, none] [] h2 Q := by
      intro l7
      refine wp_goto (t := 3329) dL_law_2290 (by decide) ?_
      refine wp_lo (lo' := [some (.ref sa), some (.ref p), some (.ref m), some (.ref (m + 12)), some (.ref (m + 13)), some (.int (nI i0)), none, none, none, none]) (fun k v hk => ?_) ?_
      · match k, hk with
        | 0, hk => exact hk
        | 1, hk => exact hk
        | 2, hk => exact hk
        | 3, hk => exact hk
        | 4, hk => exact hk
        | 5, hk => exact hk
        | 6, hk => exact absurd hk (by simp [ax_gl])
        | 7, hk => exact absurd hk (by simp [ax_gl])
        | 8, hk => exact absurd hk (by simp [ax_gl])
        | 9, hk => exact absurd hk (by simp [ax_gl])
        | k + 10, hk => exact absurd hk (by simp [ax_gl])
      exact wp_big (rm := (10, 196, c0, s0)) (Nat.le_refl _) (Nat.le_refl _) (Nat.le_add_right _ _) (Nat.le_add_right _ _) (k h2 hsim)
    refine wp_istore (n := 2262) dL_law_2260 rfl rfl rfl rfl ?_
    refine wp_aload_n (n := 2263) dL_law_2262 rfl rfl ?_
    refine wp_callVs (n := 2266) (rm' := (0, 0, 0, 0)) (c0 := c0) (s0 := s0) rfl dL_law_2263 rfl mlL_156 [] rfl rfl m2 rfl rfl rfl (Nat.le_of_ble_eq_true rfl) rfl ?_
    refine s_X10_thrown m20 ?_
    show WP Γ _ _ _ _ _ _ _
    refine wp_iload (n := 2268) dL_law_2266 rfl rfl ?_
    refine wp_icmp_eq (t := 2273) (n := 2271) dL_law_2268 (by decide) rfl (fun hc => ?_) (fun hc => ?_)
    · refine wp_iload (n := 2275) dL_law_2273 rfl rfl ?_
      refine wp_if_ne (t := 2290) (n := 2278) dL_law_2275 (by decide) rfl (fun hq => ?_) (fun hq => ?_)
      · exact absurd rfl hq
      · refine wp_aload_n (n := 2279) dL_law_2278 rfl rfl ?_
        refine wp_iconst (n := 2280) (v := 0) dL_law_2279 rfl (by decide) ?_
        refine wp_lald (n := 2281) 0 dL_law_2280 rfl ho2 rfl (by omega) (by omega) ?_
        rw [hv2]
        refine wp_iload (n := 2283) dL_law_2281 rfl rfl ?_
        refine wp_i2l (n := 2284) dL_law_2283 rfl ?_
        refine wp_lcmp (n := 2285) dL_law_2284 rfl ?_
        rw [lg_self]
        refine wp_if_eq (t := 2290) (n := 2288) dL_law_2285 (by decide) rfl (fun hu => ?_) (fun hu => ?_)
        · exact fin _
        · exact absurd rfl hu
    · exact absurd rfl hc
  have MC : ∀ (X Y : Nat) (h3 : AH) (kk : Int32), h3.2 m = h.2 m → h3.2 sa = h.2 sa → WP Γ MX10_peak (3, 65, 0, 0) 0 [some (.ref m), some (.int (S (i0 + 1))), some (.int (S (i0 + 2))), some (.int (S (i0 + 3))), none, none] [] h3 (ax_K Γ ML_law (10, 196, c0 + (X - 0), s0 + (Y - 0)) 2260 [some (.ref sa), some (.ref p), some (.ref m), some (.ref (m + 12)), some (.ref (m + 13)), some (.int (nI i0)), some (.int kk), none, none, none] [] Q) → WP Γ ML_law (10, 196, c0 + X, s0 + Y) 2236 [some (.ref sa), some (.ref p), some (.ref m), some (.ref (m + 12)), some (.ref (m + 13)), some (.int (nI i0)), none, none, none, none] [.int kk] h3 Q := by
    intro X Y h3 kk e1 e2 kk3
    have mC3' := ModC.mv e1 mC
    unfold ModC at mC3'
    have hsa3 := e2.trans hsa
    refine wp_istore (n := 2238) dL_law_2236 rfl rfl rfl rfl ?_
    refine wp_aload_n (n := 2239) dL_law_2238 rfl rfl ?_
    refine wp_aload_n (n := 2240) dL_law_2239 rfl rfl ?_
    refine wp_iload (n := 2242) dL_law_2240 rfl rfl ?_
    refine wp_iconst (n := 2243) (v := nI 1) dL_law_2242 rfl (by decide) ?_
    refine wp_iadd (n := 2244) dL_law_2243 rfl ?_
    refine wp_iald (n := 2245) (i0 + 1) dL_law_2244 rfl (by repeat first | assumption | exact ax_set_self _ _ _ | exact ax_newA_self _ _ _ | refine (ax_set_ne _ _ (by omega)).trans ?_ | refine (ax_newA_ne _ _ _ (by omega)).trans ?_) (by simp only [nI_zero, nI_mul, nI_add]) (by omega) (by omega) ?_
    refine wp_aload_n (n := 2246) dL_law_2245 rfl rfl ?_
    refine wp_iload (n := 2248) dL_law_2246 rfl rfl ?_
    refine wp_iconst (n := 2249) (v := nI 2) dL_law_2248 rfl (by decide) ?_
    refine wp_iadd (n := 2250) dL_law_2249 rfl ?_
    refine wp_iald (n := 2251) (i0 + 2) dL_law_2250 rfl (by repeat first | assumption | exact ax_set_self _ _ _ | exact ax_newA_self _ _ _ | refine (ax_set_ne _ _ (by omega)).trans ?_ | refine (ax_newA_ne _ _ _ (by omega)).trans ?_) (by simp only [nI_zero, nI_mul, nI_add]) (by omega) (by omega) ?_
    refine wp_aload_n (n := 2252) dL_law_2251 rfl rfl ?_
    refine wp_iload (n := 2254) dL_law_2252 rfl rfl ?_
    refine wp_iconst (n := 2255) (v := nI 3) dL_law_2254 rfl (by decide) ?_
    refine wp_iadd (n := 2256) dL_law_2255 rfl ?_
    refine wp_iald (n := 2257) (i0 + 3) dL_law_2256 rfl (by repeat first | assumption | exact ax_set_self _ _ _ | exact ax_newA_self _ _ _ | refine (ax_set_ne _ _ (by omega)).trans ?_ | refine (ax_newA_ne _ _ _ (by omega)).trans ?_) (by simp only [nI_zero, nI_mul, nI_add]) (by omega) (by omega) ?_
    refine wp_callVs (n := 2260) (rm' := (3, 65, 0, 0)) (c0 := c0) (s0 := s0) rfl dL_law_2257 rfl mlL_279 [.int (S (i0 + 1)), .int (S (i0 + 2)), .int (S (i0 + 3))] rfl rfl mC3' rfl rfl rfl (Nat.le_of_ble_eq_true rfl) rfl ?_
    exact kk3
  refine wp_aload_n (n := 2214) dL_law_2213 rfl rfl ?_
  refine wp_aload_n (n := 2215) dL_law_2214 rfl rfl ?_
  refine wp_iload (n := 2217) dL_law_2215 rfl rfl ?_
  refine wp_iconst (n := 2218) (v := nI 1) dL_law_2217 rfl (by decide) ?_
  refine wp_iadd (n := 2219) dL_law_2218 rfl ?_
  refine wp_iald (n := 2220) (i0 + 1) dL_law_2219 rfl (by repeat first | assumption | exact ax_set_self _ _ _ | exact ax_newA_self _ _ _ | refine (ax_set_ne _ _ (by omega)).trans ?_ | refine (ax_newA_ne _ _ _ (by omega)).trans ?_) (by simp only [nI_zero, nI_mul, nI_add]) (by omega) (by omega) ?_
  refine wp_aload_n (n := 2221) dL_law_2220 rfl rfl ?_
  refine wp_iload (n := 2223) dL_law_2221 rfl rfl ?_
  refine wp_iconst (n := 2224) (v := nI 2) dL_law_2223 rfl (by decide) ?_
  refine wp_iadd (n := 2225) dL_law_2224 rfl ?_
  refine wp_iald (n := 2226) (i0 + 2) dL_law_2225 rfl (by repeat first | assumption | exact ax_set_self _ _ _ | exact ax_newA_self _ _ _ | refine (ax_set_ne _ _ (by omega)).trans ?_ | refine (ax_newA_ne _ _ _ (by omega)).trans ?_) (by simp only [nI_zero, nI_mul, nI_add]) (by omega) (by omega) ?_
  refine wp_aload_n (n := 2227) dL_law_2226 rfl rfl ?_
  refine wp_iload (n := 2229) dL_law_2227 rfl rfl ?_
  refine wp_iconst (n := 2230) (v := nI 3) dL_law_2229 rfl (by decide) ?_
  refine wp_iadd (n := 2231) dL_law_2230 rfl ?_
  refine wp_iald (n := 2232) (i0 + 3) dL_law_2231 rfl (by repeat first | assumption | exact ax_set_self _ _ _ | exact ax_newA_self _ _ _ | refine (ax_set_ne _ _ (by omega)).trans ?_ | refine (ax_newA_ne _ _ _ (by omega)).trans ?_) (by simp only [nI_zero, nI_mul, nI_add]) (by omega) (by omega) ?_
  refine wp_aload_n (n := 2233) dL_law_2232 rfl rfl ?_
  refine wp_callSH (n := 2236) (rm' := (8, 139, 2, 12)) (c0 := c0) (s0 := s0) (C := 20) (S := 4409) rfl dL_law_2233 rfl mwL_277 [.ref p, .int (S (i0 + 1)), .int (S (i0 + 2)), .int (S (i0 + 3)), .ref (m + 12)] rfl rfl rfl rfl (Nat.le_of_ble_eq_true rfl) rfl ?_
  refine s_L_peak hF' (by omega) ?_
  refine s_X9_peak hF hL0 (by omega) (by omega) (fun c1 n1 hn1 => ?_) (fun c1 c2 n1 hn1 => ?_) (fun i hi ei hz0 hz1 => ?_)
  · refine Or.inr (Or.inr ⟨rfl, Or.inl ⟨rfl, ?_⟩⟩)
    show WP Γ _ _ _ _ _ _ _
    have B : Bet p m h h _ := Bet.n (p := p) ho hn1
    refine MC _ _ _ _ (B.1 _ (by omega)) (B.1 _ (by omega)) ?_
    refine s_X10_peak (ModC.mv (B.1 _ (by omega)) mC) ((B.1 _ (by omega)).trans mR) hr0 hI0 (by omega) (by omega) (fun d1 h2 fr2 m2 => ?_) (fun d1 d2 h2 fr2 m2 => ?_) (fun i2 hi2 ei2 hz2 hz3 h2 fr2 m2 => ?_)
    · show WP Γ _ _ _ _ _ _ _
      exact TE _ _ h2 _ _ (by decide) (fin_q hA hs0 hM0 hP0 c10 hm B fr2 ⟨_, _, _, _, _, _, m2⟩) ⟨_, _, _, _, _, _, _, m2⟩
    · exact absurd (c1.symm.trans d1) (by decide)
    · have d1 : inN (S (i0 + 1)) np = true := by rw [ei2]; exact inN_of hi2 (by omega)
      have d2 : decide (0 ≤ (S (i0 + 2)) ∧ (S (i0 + 2)) ≤ (S (i0 + 3))) = true := decide_eq_true ⟨hz2, hz3⟩
      exact absurd (c1.symm.trans d1) (by decide)
  · refine Or.inr (Or.inr ⟨rfl, Or.inr ⟨rfl, ?_⟩⟩)
    show WP Γ _ _ _ _ _ _ _
    have B : Bet p m h h _ := Bet.n (p := p) ho hn1
    have c2 := decide_eq_false c2
    refine MC _ _ _ _ (B.1 _ (by omega)) (B.1 _ (by omega)) ?_
    refine s_X10_peak (ModC.mv (B.1 _ (by omega)) mC) ((B.1 _ (by omega)).trans mR) hr0 hI0 (by omega) (by omega) (fun d1 h2 fr2 m2 => ?_) (fun d1 d2 h2 fr2 m2 => ?_) (fun i2 hi2 ei2 hz2 hz3 h2 fr2 m2 => ?_)
    · exact absurd (c1.symm.trans d1) (by decide)
    · show WP Γ _ _ _ _ _ _ _
      exact TE _ _ h2 _ _ (by decide) (fin_q hA hs0 hM0 hP0 c10 hm B fr2 ⟨_, _, _, _, _, _, m2⟩) ⟨_, _, _, _, _, _, _, m2⟩
    · have d1 : inN (S (i0 + 1)) np = true := by rw [ei2]; exact inN_of hi2 (by omega)
      have d2 : decide (0 ≤ (S (i0 + 2)) ∧ (S (i0 + 2)) ≤ (S (i0 + 3))) = true := decide_eq_true ⟨hz2, hz3⟩
      exact absurd (c2.symm.trans d2) (by decide)
  · refine ⟨fo, o1, fun fo1 hv => ?_⟩
    show WP Γ _ _ _ _ _ _ _
    have B : Bet p m h h _ := Bet.o fo1 ho hm (fun _ _ => rfl)
    have c1 : inN (S (i0 + 1)) np = true := by rw [ei]; exact inN_of hi (by omega)
    have c2 : decide (0 ≤ (S (i0 + 2)) ∧ (S (i0 + 2)) ≤ (S (i0 + 3))) = true := decide_eq_true ⟨hz0, hz1⟩
    refine MC _ _ _ _ (B.1 _ (by omega)) (B.1 _ (by omega)) ?_
    refine s_X10_peak (ModC.mv (B.1 _ (by omega)) mC) ((B.1 _ (by omega)).trans mR) hr0 hI0 (by omega) (by omega) (fun d1 h2 fr2 m2 => ?_) (fun d1 d2 h2 fr2 m2 => ?_) (fun i2 hi2 ei2 hz2 hz3 h2 fr2 m2 => ?_)
    · exact absurd (c1.symm.trans d1) (by decide)
    · exact absurd (c2.symm.trans d2) (by decide)
    · have d1 : inN (S (i0 + 1)) np = true := by rw [ei2]; exact inN_of hi2 (by omega)
      have d2 : decide (0 ≤ (S (i0 + 2)) ∧ (S (i0 + 2)) ≤ (S (i0 + 3))) = true := decide_eq_true ⟨hz2, hz3⟩
      show WP Γ _ _ _ _ _ _ _
      obtain rfl : i = i2 := (nI_eq9 (by omega) (by omega)).mp (ei.symm.trans ei2)
      exact TO _ _ h2 _ fo1 (fin_q hA hs0 hM0 hP0 c10 hm B fr2 ⟨_, _, _, _, _, _, m2⟩) ⟨_, _, _, _, _, _, _, m2⟩ ((fr2.2 _ (by omega)).trans (ax_set_self _ _ _)) hv
theorem cs_flow (hA : Γ.2.1 ≤ p) (hs : ScrP Γ h sa N S) (ho : OutP h m) (c1 : ClsP h p m b D er bs len f (mkK np qu ra re le ln nb pl tm ne rw bk nh hw nc cw t y) KS) (hP : PurP len f (mkK np qu ra re le ln nb pl tm ne rw bk nh hw nc cw t y) KS) (hM : ModP h m er bs len f (mkK np qu ra re le ln nb pl tm ne rw bk nh hw nc cw t y) KS) (hi : i0 + 5 ≤ N) (k : ∀ h', Sim Γ h' p m sa N S → WP Γ ML_law (10, 196, c0, s0) 3329 [some (.ref sa), some (.ref p), some (.ref m), some (.ref (m + 12)), some (.ref (m + 13)), some (.int (nI i0)), none, none, none, none] [] h' Q) : WP Γ ML_law (10, 196, c0 + 20, s0 + 4409) 2293 [some (.ref sa), some (.ref p), some (.ref m), some (.ref (m + 12)), some (.ref (m + 13)), some (.int (nI i0)), none, none, none, none] [] h Q := by
  have hs0 := hs
  have c10 := c1
  have hP0 := hP
  have hM0 := hM
  obtain ⟨hsa, hsl, hN, hfree⟩ := hs
  obtain ⟨⟨fo, o1⟩, fd, o2⟩ := ho
  obtain ⟨hF, hT, hR3, hBat, hSna, ⟨pk, hL⟩, hX, hbD, hm, hz, hsn, hap⟩ := c1
  obtain ⟨hlen, hI, hIS⟩ := hP
  obtain ⟨⟨th, at', bg, e9, ea, cm, mC⟩, ⟨R, mR, hr⟩, ⟨R2, mR2⟩, ⟨R3, mR3⟩, ⟨RE, mE, hre⟩, ⟨RA, mRA⟩, ⟨mpk, mP⟩, ⟨B, mB, hB⟩, ⟨CM, mK⟩, CC, CE, SV, mCC, mCE, mSV, hsv, hsr⟩ := hM
  have hI0 : Inv np qu ra re le ln nb pl tm ne rw bk nh hw nc cw t y := hI
  have hr0 : RowR R np qu ra re le ln nb pl tm ne rw bk nh hw nc cw t y := hr
  have hL0 : LedP h b np qu ra re le ln nb pl tm ne rw bk nh hw nc cw t y pk := hL
  have hre0 : ∀ j, j < np → RE j = re j := hre
  obtain ⟨⟨s1, s2, s3, s4, s5, s6, s7, s8, tn, s9, s10⟩, IM, IP, IJ, IR, IC⟩ := hI0
  have hI0 : Inv np qu ra re le ln nb pl tm ne rw bk nh hw nc cw t y := hI
  have hF' := hF
  unfold FacC at hF'
  have ho : OutP h m := ⟨⟨fo, o1⟩, fd, o2⟩
  have TE : ∀ (X Y : Nat) (h2 : AH) (kk : Int32) (v9 : Int32), ¬ kk = 0 → Sim Γ h2 p m sa N S → (∃ tl at' bg e9 ea lr cm, ModC h2 m (m + 1) kk tl at' bg e9 ea lr cm) → WP Γ ML_law (10, 196, c0 + X, s0 + Y) 2352 [some (.ref sa), some (.ref p), some (.ref m), some (.ref (m + 12)), some (.ref (m + 13)), some (.int (nI i0)), some (.int kk), none, none, none] [.int v9] h2 Q := by
    intro X Y h2 kk v9 hk hsim hm2
    obtain ⟨tl2, at2, bg2, e2, ea2, lr2, cm2, m2⟩ := hm2
    have m20 := m2
    unfold ModC at m2
    refine wp_istore (n := 2354) dL_law_2352 rfl rfl rfl rfl ?_
    refine wp_aload_n (n := 2355) dL_law_2354 rfl rfl ?_
    refine wp_callVs (n := 2358) (rm' := (0, 0, 0, 0)) (c0 := c0) (s0 := s0) rfl dL_law_2355 rfl mlL_156 [] rfl rfl m2 rfl rfl rfl (Nat.le_of_ble_eq_true rfl) rfl ?_
    refine s_X10_thrown m20 ?_
    show WP Γ _ _ _ _ _ _ _
    refine wp_iload (n := 2360) dL_law_2358 rfl rfl ?_
    refine wp_icmp_eq (t := 2365) (n := 2363) dL_law_2360 (by decide) rfl (fun hc => ?_) (fun hc => ?_)
    · refine wp_iload (n := 2367) dL_law_2365 rfl rfl ?_
      refine wp_if_ne (t := 2382) (n := 2370) dL_law_2367 (by decide) rfl (fun hq => ?_) (fun hq => ?_)
      · refine wp_goto (t := 3329) dL_law_2382 (by decide) ?_
        refine wp_lo (lo' := [some (.ref sa), some (.ref p), some (.ref m), some (.ref (m + 12)), some (.ref (m + 13)), some (.int (nI i0)), none, none, none, none]) (fun k v hk => ?_) ?_
        · match k, hk with
          | 0, hk => exact hk
          | 1, hk => exact hk
          | 2, hk => exact hk
          | 3, hk => exact hk
          | 4, hk => exact hk
          | 5, hk => exact hk
          | 6, hk => exact absurd hk (by simp [ax_gl])
          | 7, hk => exact absurd hk (by simp [ax_gl])
          | 8, hk => exact absurd hk (by simp [ax_gl])
          | 9, hk => exact absurd hk (by simp [ax_gl])
          | k + 10, hk => exact absurd hk (by simp [ax_gl])
        exact wp_big (rm := (10, 196, c0, s0)) (Nat.le_refl _) (Nat.le_refl _) (Nat.le_add_right _ _) (Nat.le_add_right _ _) (k h2 hsim)
      · exact absurd hq hk
    · exact absurd rfl hc
  have TO : ∀ (X Y : Nat) (h2 : AH) (r : Int32) (fo2 : Nat → Int64), Sim Γ h2 p m sa N S → (∃ tl at' bg e9 ea lr cm, ModC h2 m (m + 1) 0 tl at' bg e9 ea lr cm) → h2.2 (m + 12) = some (.inl (.long, 1, .inr (.inl fo2))) → fo2 0 = r.toInt64 → WP Γ ML_law (10, 196, c0 + X, s0 + Y) 2352 [some (.ref sa), some (.ref p), some (.ref m), some (.ref (m + 12)), some (.ref (m + 13)), some (.int (nI i0)), some (.int 0), none, none, none] [.int r] h2 Q := by
    intro X Y h2 r fo2 hsim hm2 ho2 hv2
    obtain ⟨tl2, at2, bg2, e2, ea2, lr2, cm2, m2⟩ := hm2
    have m20 := m2
    unfold ModC at m2
    have fin : ∀ l7 : Option Value, WP Γ ML_law (10, 196, c0 + (X - 0), s0 + (Y - 0)) 2382 [some (.ref sa), some (.ref p), some (.ref m), some (.ref (m + 12)), some (.ref (m + 13)), some (.int (nI i0)), some (.int 0), l7, none, none] [] h2 Q := by
      intro l7
      refine wp_goto (t := 3329) dL_law_2382 (by decide) ?_
      refine wp_lo (lo' := [some (.ref sa), some (.ref p), some (.ref m), some (.ref (m + 12)), some (.ref (m + 13)), some (.int (nI i0)), none, none, none, none]) (fun k v hk => ?_) ?_
      · match k, hk with
        | 0, hk => exact hk
        | 1, hk => exact hk
        | 2, hk => exact hk
        | 3, hk => exact hk
        | 4, hk => exact hk
        | 5, hk => exact hk
        | 6, hk => exact absurd hk (by simp [ax_gl])
        | 7, hk => exact absurd hk (by simp [ax_gl])
        | 8, hk => exact absurd hk (by simp [ax_gl])
        | 9, hk => exact absurd hk (by simp [ax_gl])
        | k + 10, hk => exact absurd hk (by simp [ax_gl])
      exact wp_big (rm := (10, 196, c0, s0)) (Nat.le_refl _) (Nat.le_refl _) (Nat.le_add_right _ _) (Nat.le_add_right _ _) (k h2 hsim)
    refine wp_istore (n := 2354) dL_law_2352 rfl rfl rfl rfl ?_
    refine wp_aload_n (n := 2355) dL_law_2354 rfl rfl ?_
    refine wp_callVs (n := 2358) (rm' := (0, 0, 0, 0)) (c0 := c0) (s0 := s0) rfl dL_law_2355 rfl mlL_156 [] rfl rfl m2 rfl rfl rfl (Nat.le_of_ble_eq_true rfl) rfl ?_
    refine s_X10_thrown m20 ?_
    show WP Γ _ _ _ _ _ _ _
    refine wp_iload (n := 2360) dL_law_2358 rfl rfl ?_
    refine wp_icmp_eq (t := 2365) (n := 2363) dL_law_2360 (by decide) rfl (fun hc => ?_) (fun hc => ?_)
    · refine wp_iload (n := 2367) dL_law_2365 rfl rfl ?_
      refine wp_if_ne (t := 2382) (n := 2370) dL_law_2367 (by decide) rfl (fun hq => ?_) (fun hq => ?_)
      · exact absurd rfl hq
      · refine wp_aload_n (n := 2371) dL_law_2370 rfl rfl ?_
        refine wp_iconst (n := 2372) (v := 0) dL_law_2371 rfl (by decide) ?_
        refine wp_lald (n := 2373) 0 dL_law_2372 rfl ho2 rfl (by omega) (by omega) ?_
        rw [hv2]
        refine wp_iload (n := 2375) dL_law_2373 rfl rfl ?_
        refine wp_i2l (n := 2376) dL_law_2375 rfl ?_
        refine wp_lcmp (n := 2377) dL_law_2376 rfl ?_
        rw [lg_self]
        refine wp_if_eq (t := 2382) (n := 2380) dL_law_2377 (by decide) rfl (fun hu => ?_) (fun hu => ?_)
        · exact fin _
        · exact absurd rfl hu
    · exact absurd rfl hc
  have MC : ∀ (X Y : Nat) (h3 : AH) (kk : Int32), h3.2 m = h.2 m → h3.2 sa = h.2 sa → WP Γ MX10_flow (3, 65, 0, 0) 0 [some (.ref m), some (.int (S (i0 + 1))), some (.int (S (i0 + 2))), some (.int (S (i0 + 3))), some (.int (S (i0 + 4))), none, none] [] h3 (ax_K Γ ML_law (10, 196, c0 + (X - 0), s0 + (Y - 0)) 2352 [some (.ref sa), some (.ref p), some (.ref m), some (.ref (m + 12)), some (.ref (m + 13)), some (.int (nI i0)), some (.int kk), none, none, none] [] Q) → WP Γ ML_law (10, 196, c0 + X, s0 + Y) 2322 [some (.ref sa), some (.ref p), some (.ref m), some (.ref (m + 12)), some (.ref (m + 13)), some (.int (nI i0)), none, none, none, none] [.int kk] h3 Q := by
    intro X Y h3 kk e1 e2 kk3
    have mC3' := ModC.mv e1 mC
    unfold ModC at mC3'
    have hsa3 := e2.trans hsa
    refine wp_istore (n := 2324) dL_law_2322 rfl rfl rfl rfl ?_
    refine wp_aload_n (n := 2325) dL_law_2324 rfl rfl ?_
    refine wp_aload_n (n := 2326) dL_law_2325 rfl rfl ?_
    refine wp_iload (n := 2328) dL_law_2326 rfl rfl ?_
    refine wp_iconst (n := 2329) (v := nI 1) dL_law_2328 rfl (by decide) ?_
    refine wp_iadd (n := 2330) dL_law_2329 rfl ?_
    refine wp_iald (n := 2331) (i0 + 1) dL_law_2330 rfl (by repeat first | assumption | exact ax_set_self _ _ _ | exact ax_newA_self _ _ _ | refine (ax_set_ne _ _ (by omega)).trans ?_ | refine (ax_newA_ne _ _ _ (by omega)).trans ?_) (by simp only [nI_zero, nI_mul, nI_add]) (by omega) (by omega) ?_
    refine wp_aload_n (n := 2332) dL_law_2331 rfl rfl ?_
    refine wp_iload (n := 2334) dL_law_2332 rfl rfl ?_
    refine wp_iconst (n := 2335) (v := nI 2) dL_law_2334 rfl (by decide) ?_
    refine wp_iadd (n := 2336) dL_law_2335 rfl ?_
    refine wp_iald (n := 2337) (i0 + 2) dL_law_2336 rfl (by repeat first | assumption | exact ax_set_self _ _ _ | exact ax_newA_self _ _ _ | refine (ax_set_ne _ _ (by omega)).trans ?_ | refine (ax_newA_ne _ _ _ (by omega)).trans ?_) (by simp only [nI_zero, nI_mul, nI_add]) (by omega) (by omega) ?_
    refine wp_aload_n (n := 2338) dL_law_2337 rfl rfl ?_
    refine wp_iload (n := 2340) dL_law_2338 rfl rfl ?_
    refine wp_iconst (n := 2341) (v := nI 3) dL_law_2340 rfl (by decide) ?_
    refine wp_iadd (n := 2342) dL_law_2341 rfl ?_
    refine wp_iald (n := 2343) (i0 + 3) dL_law_2342 rfl (by repeat first | assumption | exact ax_set_self _ _ _ | exact ax_newA_self _ _ _ | refine (ax_set_ne _ _ (by omega)).trans ?_ | refine (ax_newA_ne _ _ _ (by omega)).trans ?_) (by simp only [nI_zero, nI_mul, nI_add]) (by omega) (by omega) ?_
    refine wp_aload_n (n := 2344) dL_law_2343 rfl rfl ?_
    refine wp_iload (n := 2346) dL_law_2344 rfl rfl ?_
    refine wp_iconst (n := 2347) (v := nI 4) dL_law_2346 rfl (by decide) ?_
    refine wp_iadd (n := 2348) dL_law_2347 rfl ?_
    refine wp_iald (n := 2349) (i0 + 4) dL_law_2348 rfl (by repeat first | assumption | exact ax_set_self _ _ _ | exact ax_newA_self _ _ _ | refine (ax_set_ne _ _ (by omega)).trans ?_ | refine (ax_newA_ne _ _ _ (by omega)).trans ?_) (by simp only [nI_zero, nI_mul, nI_add]) (by omega) (by omega) ?_
    refine wp_callVs (n := 2352) (rm' := (3, 65, 0, 0)) (c0 := c0) (s0 := s0) rfl dL_law_2349 rfl mlL_282 [.int (S (i0 + 1)), .int (S (i0 + 2)), .int (S (i0 + 3)), .int (S (i0 + 4))] rfl rfl mC3' rfl rfl rfl (Nat.le_of_ble_eq_true rfl) rfl ?_
    exact kk3
  refine wp_aload_n (n := 2294) dL_law_2293 rfl rfl ?_
  refine wp_aload_n (n := 2295) dL_law_2294 rfl rfl ?_
  refine wp_iload (n := 2297) dL_law_2295 rfl rfl ?_
  refine wp_iconst (n := 2298) (v := nI 1) dL_law_2297 rfl (by decide) ?_
  refine wp_iadd (n := 2299) dL_law_2298 rfl ?_
  refine wp_iald (n := 2300) (i0 + 1) dL_law_2299 rfl (by repeat first | assumption | exact ax_set_self _ _ _ | exact ax_newA_self _ _ _ | refine (ax_set_ne _ _ (by omega)).trans ?_ | refine (ax_newA_ne _ _ _ (by omega)).trans ?_) (by simp only [nI_zero, nI_mul, nI_add]) (by omega) (by omega) ?_
  refine wp_aload_n (n := 2301) dL_law_2300 rfl rfl ?_
  refine wp_iload (n := 2303) dL_law_2301 rfl rfl ?_
  refine wp_iconst (n := 2304) (v := nI 2) dL_law_2303 rfl (by decide) ?_
  refine wp_iadd (n := 2305) dL_law_2304 rfl ?_
  refine wp_iald (n := 2306) (i0 + 2) dL_law_2305 rfl (by repeat first | assumption | exact ax_set_self _ _ _ | exact ax_newA_self _ _ _ | refine (ax_set_ne _ _ (by omega)).trans ?_ | refine (ax_newA_ne _ _ _ (by omega)).trans ?_) (by simp only [nI_zero, nI_mul, nI_add]) (by omega) (by omega) ?_
  refine wp_aload_n (n := 2307) dL_law_2306 rfl rfl ?_
  refine wp_iload (n := 2309) dL_law_2307 rfl rfl ?_
  refine wp_iconst (n := 2310) (v := nI 3) dL_law_2309 rfl (by decide) ?_
  refine wp_iadd (n := 2311) dL_law_2310 rfl ?_
  refine wp_iald (n := 2312) (i0 + 3) dL_law_2311 rfl (by repeat first | assumption | exact ax_set_self _ _ _ | exact ax_newA_self _ _ _ | refine (ax_set_ne _ _ (by omega)).trans ?_ | refine (ax_newA_ne _ _ _ (by omega)).trans ?_) (by simp only [nI_zero, nI_mul, nI_add]) (by omega) (by omega) ?_
  refine wp_aload_n (n := 2313) dL_law_2312 rfl rfl ?_
  refine wp_iload (n := 2315) dL_law_2313 rfl rfl ?_
  refine wp_iconst (n := 2316) (v := nI 4) dL_law_2315 rfl (by decide) ?_
  refine wp_iadd (n := 2317) dL_law_2316 rfl ?_
  refine wp_iald (n := 2318) (i0 + 4) dL_law_2317 rfl (by repeat first | assumption | exact ax_set_self _ _ _ | exact ax_newA_self _ _ _ | refine (ax_set_ne _ _ (by omega)).trans ?_ | refine (ax_newA_ne _ _ _ (by omega)).trans ?_) (by simp only [nI_zero, nI_mul, nI_add]) (by omega) (by omega) ?_
  refine wp_aload_n (n := 2319) dL_law_2318 rfl rfl ?_
  refine wp_callSH (n := 2322) (rm' := (8, 140, 3, 18)) (c0 := c0) (s0 := s0) (C := 20) (S := 4409) rfl dL_law_2319 rfl mwL_280 [.ref p, .int (S (i0 + 1)), .int (S (i0 + 2)), .int (S (i0 + 3)), .int (S (i0 + 4)), .ref (m + 12)] rfl rfl rfl rfl (Nat.le_of_ble_eq_true rfl) rfl ?_
  refine s_L_flow hF' (by omega) ?_
  refine s_X9_flow hF hL0 (by omega) (by omega) (fun c1 n1 hn1 => ?_) (fun c1 c2 n1 hn1 => ?_) (fun i j hi hj ei ej hz0 hz1 => ?_)
  · refine Or.inr (Or.inr ⟨rfl, Or.inl ⟨rfl, ?_⟩⟩)
    show WP Γ _ _ _ _ _ _ _
    have B : Bet p m h h _ := Bet.n (p := p) ho hn1
    refine MC _ _ _ _ (B.1 _ (by omega)) (B.1 _ (by omega)) ?_
    refine s_X10_flow (ModC.mv (B.1 _ (by omega)) mC) ((B.1 _ (by omega)).trans mR) hr0 hI0 (by omega) (by omega) (fun d1 h2 fr2 m2 => ?_) (fun d1 d2 h2 fr2 m2 => ?_) (fun i2 hi2 ei2 j2 hj2 ej2 hz2 hz3 h2 fr2 m2 => ?_)
    · show WP Γ _ _ _ _ _ _ _
      exact TE _ _ h2 _ _ (by decide) (fin_q hA hs0 hM0 hP0 c10 hm B fr2 ⟨_, _, _, _, _, _, m2⟩) ⟨_, _, _, _, _, _, _, m2⟩
    · exact absurd (c1.symm.trans d1) (by decide)
    · have d1 : (inN (S (i0 + 1)) np && inN (S (i0 + 2)) np) = true := by rw [ei2, ej2, inN_of hi2 (by omega), inN_of hj2 (by omega)]; rfl
      have d2 : decide (0 ≤ (S (i0 + 3)) ∧ (S (i0 + 3)) ≤ (S (i0 + 4))) = true := decide_eq_true ⟨hz2, hz3⟩
      exact absurd (c1.symm.trans d1) (by decide)
  · refine Or.inr (Or.inr ⟨rfl, Or.inr ⟨rfl, ?_⟩⟩)
    show WP Γ _ _ _ _ _ _ _
    have B : Bet p m h h _ := Bet.n (p := p) ho hn1
    have c2 := decide_eq_false c2
    refine MC _ _ _ _ (B.1 _ (by omega)) (B.1 _ (by omega)) ?_
    refine s_X10_flow (ModC.mv (B.1 _ (by omega)) mC) ((B.1 _ (by omega)).trans mR) hr0 hI0 (by omega) (by omega) (fun d1 h2 fr2 m2 => ?_) (fun d1 d2 h2 fr2 m2 => ?_) (fun i2 hi2 ei2 j2 hj2 ej2 hz2 hz3 h2 fr2 m2 => ?_)
    · exact absurd (c1.symm.trans d1) (by decide)
    · show WP Γ _ _ _ _ _ _ _
      exact TE _ _ h2 _ _ (by decide) (fin_q hA hs0 hM0 hP0 c10 hm B fr2 ⟨_, _, _, _, _, _, m2⟩) ⟨_, _, _, _, _, _, _, m2⟩
    · have d1 : (inN (S (i0 + 1)) np && inN (S (i0 + 2)) np) = true := by rw [ei2, ej2, inN_of hi2 (by omega), inN_of hj2 (by omega)]; rfl
      have d2 : decide (0 ≤ (S (i0 + 3)) ∧ (S (i0 + 3)) ≤ (S (i0 + 4))) = true := decide_eq_true ⟨hz2, hz3⟩
      exact absurd (c2.symm.trans d2) (by decide)
  · refine ⟨fo, o1, fun fo1 hv => ?_⟩
    show WP Γ _ _ _ _ _ _ _
    have B : Bet p m h h _ := Bet.o fo1 ho hm (fun _ _ => rfl)
    have c1 : (inN (S (i0 + 1)) np && inN (S (i0 + 2)) np) = true := by rw [ei, ej, inN_of hi (by omega), inN_of hj (by omega)]; rfl
    have c2 : decide (0 ≤ (S (i0 + 3)) ∧ (S (i0 + 3)) ≤ (S (i0 + 4))) = true := decide_eq_true ⟨hz0, hz1⟩
    refine MC _ _ _ _ (B.1 _ (by omega)) (B.1 _ (by omega)) ?_
    refine s_X10_flow (ModC.mv (B.1 _ (by omega)) mC) ((B.1 _ (by omega)).trans mR) hr0 hI0 (by omega) (by omega) (fun d1 h2 fr2 m2 => ?_) (fun d1 d2 h2 fr2 m2 => ?_) (fun i2 hi2 ei2 j2 hj2 ej2 hz2 hz3 h2 fr2 m2 => ?_)
    · exact absurd (c1.symm.trans d1) (by decide)
    · exact absurd (c2.symm.trans d2) (by decide)
    · have d1 : (inN (S (i0 + 1)) np && inN (S (i0 + 2)) np) = true := by rw [ei2, ej2, inN_of hi2 (by omega), inN_of hj2 (by omega)]; rfl
      have d2 : decide (0 ≤ (S (i0 + 3)) ∧ (S (i0 + 3)) ≤ (S (i0 + 4))) = true := decide_eq_true ⟨hz2, hz3⟩
      show WP Γ _ _ _ _ _ _ _
      obtain rfl : i = i2 := (nI_eq9 (by omega) (by omega)).mp (ei.symm.trans ei2)
      obtain rfl : j = j2 := (nI_eq9 (by omega) (by omega)).mp (ej.symm.trans ej2)
      exact TO _ _ h2 _ fo1 (fin_q hA hs0 hM0 hP0 c10 hm B fr2 ⟨_, _, _, _, _, _, m2⟩) ⟨_, _, _, _, _, _, _, m2⟩ ((fr2.2 _ (by omega)).trans (ax_set_self _ _ _)) hv
theorem cs_whenAvailable (hA : Γ.2.1 ≤ p) (hs : ScrP Γ h sa N S) (ho : OutP h m) (c1 : ClsP h p m b D er bs len f (mkK np qu ra re le ln nb pl tm ne rw bk nh hw nc cw t y) KS) (hP : PurP len f (mkK np qu ra re le ln nb pl tm ne rw bk nh hw nc cw t y) KS) (hM : ModP h m er bs len f (mkK np qu ra re le ln nb pl tm ne rw bk nh hw nc cw t y) KS) (hi : i0 + 5 ≤ N) (k : ∀ h', Sim Γ h' p m sa N S → WP Γ ML_law (10, 196, c0, s0) 3329 [some (.ref sa), some (.ref p), some (.ref m), some (.ref (m + 12)), some (.ref (m + 13)), some (.int (nI i0)), none, none, none, none] [] h' Q) : WP Γ ML_law (10, 196, c0 + 20, s0 + 4409) 2683 [some (.ref sa), some (.ref p), some (.ref m), some (.ref (m + 12)), some (.ref (m + 13)), some (.int (nI i0)), none, none, none, none] [] h Q := by
  have hs0 := hs
  have c10 := c1
  have hP0 := hP
  have hM0 := hM
  obtain ⟨hsa, hsl, hN, hfree⟩ := hs
  obtain ⟨⟨fo, o1⟩, fd, o2⟩ := ho
  obtain ⟨hF, hT, hR3, hBat, hSna, ⟨pk, hL⟩, hX, hbD, hm, hz, hsn, hap⟩ := c1
  obtain ⟨hlen, hI, hIS⟩ := hP
  obtain ⟨⟨th, at', bg, e9, ea, cm, mC⟩, ⟨R, mR, hr⟩, ⟨R2, mR2⟩, ⟨R3, mR3⟩, ⟨RE, mE, hre⟩, ⟨RA, mRA⟩, ⟨mpk, mP⟩, ⟨B, mB, hB⟩, ⟨CM, mK⟩, CC, CE, SV, mCC, mCE, mSV, hsv, hsr⟩ := hM
  have hI0 : Inv np qu ra re le ln nb pl tm ne rw bk nh hw nc cw t y := hI
  have hr0 : RowR R np qu ra re le ln nb pl tm ne rw bk nh hw nc cw t y := hr
  have hL0 : LedP h b np qu ra re le ln nb pl tm ne rw bk nh hw nc cw t y pk := hL
  have hre0 : ∀ j, j < np → RE j = re j := hre
  obtain ⟨⟨s1, s2, s3, s4, s5, s6, s7, s8, tn, s9, s10⟩, IM, IP, IJ, IR, IC⟩ := hI0
  have hI0 : Inv np qu ra re le ln nb pl tm ne rw bk nh hw nc cw t y := hI
  have hF' := hF
  unfold FacC at hF'
  have ho : OutP h m := ⟨⟨fo, o1⟩, fd, o2⟩
  have TE : ∀ (X Y : Nat) (h2 : AH) (kk : Int32) (v9 : Int32), ¬ kk = 0 → Sim Γ h2 p m sa N S → (∃ tl at' bg e9 ea lr cm, ModC h2 m (m + 1) kk tl at' bg e9 ea lr cm) → WP Γ ML_law (10, 196, c0 + X, s0 + Y) 2718 [some (.ref sa), some (.ref p), some (.ref m), some (.ref (m + 12)), some (.ref (m + 13)), some (.int (nI i0)), some (.int kk), none, none, none] [.int v9] h2 Q := by
    intro X Y h2 kk v9 hk hsim hm2
    obtain ⟨tl2, at2, bg2, e2, ea2, lr2, cm2, m2⟩ := hm2
    have m20 := m2
    unfold ModC at m2
    refine wp_istore (n := 2720) dL_law_2718 rfl rfl rfl rfl ?_
    refine wp_aload_n (n := 2721) dL_law_2720 rfl rfl ?_
    refine wp_callVs (n := 2724) (rm' := (0, 0, 0, 0)) (c0 := c0) (s0 := s0) rfl dL_law_2721 rfl mlL_156 [] rfl rfl m2 rfl rfl rfl (Nat.le_of_ble_eq_true rfl) rfl ?_
    refine s_X10_thrown m20 ?_
    show WP Γ _ _ _ _ _ _ _
    refine wp_iload (n := 2726) dL_law_2724 rfl rfl ?_
    refine wp_icmp_eq (t := 2731) (n := 2729) dL_law_2726 (by decide) rfl (fun hc => ?_) (fun hc => ?_)
    · refine wp_iload (n := 2733) dL_law_2731 rfl rfl ?_
      refine wp_if_ne (t := 2748) (n := 2736) dL_law_2733 (by decide) rfl (fun hq => ?_) (fun hq => ?_)
      · refine wp_goto (t := 3329) dL_law_2748 (by decide) ?_
        refine wp_lo (lo' := [some (.ref sa), some (.ref p), some (.ref m), some (.ref (m + 12)), some (.ref (m + 13)), some (.int (nI i0)), none, none, none, none]) (fun k v hk => ?_) ?_
        · match k, hk with
          | 0, hk => exact hk
          | 1, hk => exact hk
          | 2, hk => exact hk
          | 3, hk => exact hk
          | 4, hk => exact hk
          | 5, hk => exact hk
          | 6, hk => exact absurd hk (by simp [ax_gl])
          | 7, hk => exact absurd hk (by simp [ax_gl])
          | 8, hk => exact absurd hk (by simp [ax_gl])
          | 9, hk => exact absurd hk (by simp [ax_gl])
          | k + 10, hk => exact absurd hk (by simp [ax_gl])
        exact wp_big (rm := (10, 196, c0, s0)) (Nat.le_refl _) (Nat.le_refl _) (Nat.le_add_right _ _) (Nat.le_add_right _ _) (k h2 hsim)
      · exact absurd hq hk
    · exact absurd rfl hc
  have TO : ∀ (X Y : Nat) (h2 : AH) (r : Int32) (fo2 : Nat → Int64), Sim Γ h2 p m sa N S → (∃ tl at' bg e9 ea lr cm, ModC h2 m (m + 1) 0 tl at' bg e9 ea lr cm) → h2.2 (m + 12) = some (.inl (.long, 1, .inr (.inl fo2))) → fo2 0 = r.toInt64 → WP Γ ML_law (10, 196, c0 + X, s0 + Y) 2718 [some (.ref sa), some (.ref p), some (.ref m), some (.ref (m + 12)), some (.ref (m + 13)), some (.int (nI i0)), some (.int 0), none, none, none] [.int r] h2 Q := by
    intro X Y h2 r fo2 hsim hm2 ho2 hv2
    obtain ⟨tl2, at2, bg2, e2, ea2, lr2, cm2, m2⟩ := hm2
    have m20 := m2
    unfold ModC at m2
    have fin : ∀ l7 : Option Value, WP Γ ML_law (10, 196, c0 + (X - 0), s0 + (Y - 0)) 2748 [some (.ref sa), some (.ref p), some (.ref m), some (.ref (m + 12)), some (.ref (m + 13)), some (.int (nI i0)), some (.int 0), l7, none, none] [] h2 Q := by
      intro l7
      refine wp_goto (t := 3329) dL_law_2748 (by decide) ?_
      refine wp_lo (lo' := [some (.ref sa), some (.ref p), some (.ref m), some (.ref (m + 12)), some (.ref (m + 13)), some (.int (nI i0)), none, none, none, none]) (fun k v hk => ?_) ?_
      · match k, hk with
        | 0, hk => exact hk
        | 1, hk => exact hk
        | 2, hk => exact hk
        | 3, hk => exact hk
        | 4, hk => exact hk
        | 5, hk => exact hk
        | 6, hk => exact absurd hk (by simp [ax_gl])
        | 7, hk => exact absurd hk (by simp [ax_gl])
        | 8, hk => exact absurd hk (by simp [ax_gl])
        | 9, hk => exact absurd hk (by simp [ax_gl])
        | k + 10, hk => exact absurd hk (by simp [ax_gl])
      exact wp_big (rm := (10, 196, c0, s0)) (Nat.le_refl _) (Nat.le_refl _) (Nat.le_add_right _ _) (Nat.le_add_right _ _) (k h2 hsim)
    refine wp_istore (n := 2720) dL_law_2718 rfl rfl rfl rfl ?_
    refine wp_aload_n (n := 2721) dL_law_2720 rfl rfl ?_
    refine wp_callVs (n := 2724) (rm' := (0, 0, 0, 0)) (c0 := c0) (s0 := s0) rfl dL_law_2721 rfl mlL_156 [] rfl rfl m2 rfl rfl rfl (Nat.le_of_ble_eq_true rfl) rfl ?_
    refine s_X10_thrown m20 ?_
    show WP Γ _ _ _ _ _ _ _
    refine wp_iload (n := 2726) dL_law_2724 rfl rfl ?_
    refine wp_icmp_eq (t := 2731) (n := 2729) dL_law_2726 (by decide) rfl (fun hc => ?_) (fun hc => ?_)
    · refine wp_iload (n := 2733) dL_law_2731 rfl rfl ?_
      refine wp_if_ne (t := 2748) (n := 2736) dL_law_2733 (by decide) rfl (fun hq => ?_) (fun hq => ?_)
      · exact absurd rfl hq
      · refine wp_aload_n (n := 2737) dL_law_2736 rfl rfl ?_
        refine wp_iconst (n := 2738) (v := 0) dL_law_2737 rfl (by decide) ?_
        refine wp_lald (n := 2739) 0 dL_law_2738 rfl ho2 rfl (by omega) (by omega) ?_
        rw [hv2]
        refine wp_iload (n := 2741) dL_law_2739 rfl rfl ?_
        refine wp_i2l (n := 2742) dL_law_2741 rfl ?_
        refine wp_lcmp (n := 2743) dL_law_2742 rfl ?_
        rw [lg_self]
        refine wp_if_eq (t := 2748) (n := 2746) dL_law_2743 (by decide) rfl (fun hu => ?_) (fun hu => ?_)
        · exact fin _
        · exact absurd rfl hu
    · exact absurd rfl hc
  have MC : ∀ (X Y : Nat) (h3 : AH) (kk : Int32), h3.2 m = h.2 m → h3.2 sa = h.2 sa → WP Γ MX10_whenAvailable (3, 67, 0, 0) 0 [some (.ref m), some (.int (S (i0 + 1))), some (.int (S (i0 + 2))), none, none, none, none] [] h3 (ax_K Γ ML_law (10, 196, c0 + (X - 0), s0 + (Y - 0)) 2718 [some (.ref sa), some (.ref p), some (.ref m), some (.ref (m + 12)), some (.ref (m + 13)), some (.int (nI i0)), some (.int kk), none, none, none] [] Q) → WP Γ ML_law (10, 196, c0 + X, s0 + Y) 2700 [some (.ref sa), some (.ref p), some (.ref m), some (.ref (m + 12)), some (.ref (m + 13)), some (.int (nI i0)), none, none, none, none] [.int kk] h3 Q := by
    intro X Y h3 kk e1 e2 kk3
    have mC3' := ModC.mv e1 mC
    unfold ModC at mC3'
    have hsa3 := e2.trans hsa
    refine wp_istore (n := 2702) dL_law_2700 rfl rfl rfl rfl ?_
    refine wp_aload_n (n := 2703) dL_law_2702 rfl rfl ?_
    refine wp_aload_n (n := 2704) dL_law_2703 rfl rfl ?_
    refine wp_iload (n := 2706) dL_law_2704 rfl rfl ?_
    refine wp_iconst (n := 2707) (v := nI 1) dL_law_2706 rfl (by decide) ?_
    refine wp_iadd (n := 2708) dL_law_2707 rfl ?_
    refine wp_iald (n := 2709) (i0 + 1) dL_law_2708 rfl (by repeat first | assumption | exact ax_set_self _ _ _ | exact ax_newA_self _ _ _ | refine (ax_set_ne _ _ (by omega)).trans ?_ | refine (ax_newA_ne _ _ _ (by omega)).trans ?_) (by simp only [nI_zero, nI_mul, nI_add]) (by omega) (by omega) ?_
    refine wp_aload_n (n := 2710) dL_law_2709 rfl rfl ?_
    refine wp_iload (n := 2712) dL_law_2710 rfl rfl ?_
    refine wp_iconst (n := 2713) (v := nI 2) dL_law_2712 rfl (by decide) ?_
    refine wp_iadd (n := 2714) dL_law_2713 rfl ?_
    refine wp_iald (n := 2715) (i0 + 2) dL_law_2714 rfl (by repeat first | assumption | exact ax_set_self _ _ _ | exact ax_newA_self _ _ _ | refine (ax_set_ne _ _ (by omega)).trans ?_ | refine (ax_newA_ne _ _ _ (by omega)).trans ?_) (by simp only [nI_zero, nI_mul, nI_add]) (by omega) (by omega) ?_
    refine wp_callVs (n := 2718) (rm' := (3, 67, 0, 0)) (c0 := c0) (s0 := s0) rfl dL_law_2715 rfl mlL_305 [.int (S (i0 + 1)), .int (S (i0 + 2))] rfl rfl mC3' rfl rfl rfl (Nat.le_of_ble_eq_true rfl) rfl ?_
    exact kk3
  refine wp_aload_n (n := 2684) dL_law_2683 rfl rfl ?_
  refine wp_aload_n (n := 2685) dL_law_2684 rfl rfl ?_
  refine wp_iload (n := 2687) dL_law_2685 rfl rfl ?_
  refine wp_iconst (n := 2688) (v := nI 1) dL_law_2687 rfl (by decide) ?_
  refine wp_iadd (n := 2689) dL_law_2688 rfl ?_
  refine wp_iald (n := 2690) (i0 + 1) dL_law_2689 rfl (by repeat first | assumption | exact ax_set_self _ _ _ | exact ax_newA_self _ _ _ | refine (ax_set_ne _ _ (by omega)).trans ?_ | refine (ax_newA_ne _ _ _ (by omega)).trans ?_) (by simp only [nI_zero, nI_mul, nI_add]) (by omega) (by omega) ?_
  refine wp_aload_n (n := 2691) dL_law_2690 rfl rfl ?_
  refine wp_iload (n := 2693) dL_law_2691 rfl rfl ?_
  refine wp_iconst (n := 2694) (v := nI 2) dL_law_2693 rfl (by decide) ?_
  refine wp_iadd (n := 2695) dL_law_2694 rfl ?_
  refine wp_iald (n := 2696) (i0 + 2) dL_law_2695 rfl (by repeat first | assumption | exact ax_set_self _ _ _ | exact ax_newA_self _ _ _ | refine (ax_set_ne _ _ (by omega)).trans ?_ | refine (ax_newA_ne _ _ _ (by omega)).trans ?_) (by simp only [nI_zero, nI_mul, nI_add]) (by omega) (by omega) ?_
  refine wp_aload_n (n := 2697) dL_law_2696 rfl rfl ?_
  refine wp_callSH (n := 2700) (rm' := (8, 138, 2, 12)) (c0 := c0) (s0 := s0) (C := 20) (S := 4409) rfl dL_law_2697 rfl mwL_303 [.ref p, .int (S (i0 + 1)), .int (S (i0 + 2)), .ref (m + 12)] rfl rfl rfl rfl (Nat.le_of_ble_eq_true rfl) rfl ?_
  refine s_L_whenAvailable hF' (by omega) ?_
  refine s_X9_whenAvailable hF hL0 (by omega) (by omega) (by omega) (fun c1 n1 hn1 => ?_) (fun c1 c2 n1 hn1 => ?_) (fun i hi ei c2 => ?_)
  · refine Or.inr (Or.inr ⟨rfl, Or.inl ⟨rfl, ?_⟩⟩)
    show WP Γ _ _ _ _ _ _ _
    have B : Bet p m h h _ := Bet.n (p := p) ho hn1
    refine MC _ _ _ _ (B.1 _ (by omega)) (B.1 _ (by omega)) ?_
    refine s_X10_whenAvailable (ModC.mv (B.1 _ (by omega)) mC) ((B.1 _ (by omega)).trans mR) hr0 hI0 (by omega) (by omega) (fun d1 h2 fr2 m2 => ?_) (fun d1 d2 h2 fr2 m2 => ?_) (fun i2 hi2 ei2 u hu0 hu1 eu h2 fr2 m2 => ?_)
    · show WP Γ _ _ _ _ _ _ _
      exact TE _ _ h2 _ _ (by decide) (fin_q hA hs0 hM0 hP0 c10 hm B fr2 ⟨_, _, _, _, _, _, m2⟩) ⟨_, _, _, _, _, _, _, m2⟩
    · exact absurd (c1.symm.trans d1) (by decide)
    · have d1 : inN (S (i0 + 1)) np = true := by rw [ei2]; exact inN_of hi2 (by omega)
      have d2 : inI (S (i0 + 2)) 0 200 = true := by rw [eu]; exact inI_of hu0 hu1 (by decide)
      exact absurd (c1.symm.trans d1) (by decide)
  · refine Or.inr (Or.inr ⟨rfl, Or.inr ⟨rfl, ?_⟩⟩)
    show WP Γ _ _ _ _ _ _ _
    have B : Bet p m h h _ := Bet.n (p := p) ho hn1
    refine MC _ _ _ _ (B.1 _ (by omega)) (B.1 _ (by omega)) ?_
    refine s_X10_whenAvailable (ModC.mv (B.1 _ (by omega)) mC) ((B.1 _ (by omega)).trans mR) hr0 hI0 (by omega) (by omega) (fun d1 h2 fr2 m2 => ?_) (fun d1 d2 h2 fr2 m2 => ?_) (fun i2 hi2 ei2 u hu0 hu1 eu h2 fr2 m2 => ?_)
    · exact absurd (c1.symm.trans d1) (by decide)
    · show WP Γ _ _ _ _ _ _ _
      exact TE _ _ h2 _ _ (by decide) (fin_q hA hs0 hM0 hP0 c10 hm B fr2 ⟨_, _, _, _, _, _, m2⟩) ⟨_, _, _, _, _, _, _, m2⟩
    · have d1 : inN (S (i0 + 1)) np = true := by rw [ei2]; exact inN_of hi2 (by omega)
      have d2 : inI (S (i0 + 2)) 0 200 = true := by rw [eu]; exact inI_of hu0 hu1 (by decide)
      exact absurd (c2.symm.trans d2) (by decide)
  · refine ⟨fo, o1, fun fo1 hv => ?_⟩
    show WP Γ _ _ _ _ _ _ _
    have B : Bet p m h h _ := Bet.o fo1 ho hm (fun _ _ => rfl)
    have c1 : inN (S (i0 + 1)) np = true := by rw [ei]; exact inN_of hi (by omega)
    have c2 : inI (S (i0 + 2)) 0 200 = true := c2
    refine MC _ _ _ _ (B.1 _ (by omega)) (B.1 _ (by omega)) ?_
    refine s_X10_whenAvailable (ModC.mv (B.1 _ (by omega)) mC) ((B.1 _ (by omega)).trans mR) hr0 hI0 (by omega) (by omega) (fun d1 h2 fr2 m2 => ?_) (fun d1 d2 h2 fr2 m2 => ?_) (fun i2 hi2 ei2 u hu0 hu1 eu h2 fr2 m2 => ?_)
    · exact absurd (c1.symm.trans d1) (by decide)
    · exact absurd (c2.symm.trans d2) (by decide)
    · have d1 : inN (S (i0 + 1)) np = true := by rw [ei2]; exact inN_of hi2 (by omega)
      have d2 : inI (S (i0 + 2)) 0 200 = true := by rw [eu]; exact inI_of hu0 hu1 (by decide)
      show WP Γ _ _ _ _ _ _ _
      obtain rfl : i = i2 := (nI_eq9 (by omega) (by omega)).mp (ei.symm.trans ei2)
      rw [eu] at hv
      exact TO _ _ h2 _ fo1 (fin_q hA hs0 hM0 hP0 c10 hm B fr2 ⟨_, _, _, _, _, _, m2⟩) ⟨_, _, _, _, _, _, _, m2⟩ ((fr2.2 _ (by omega)).trans (ax_set_self _ _ _)) hv
theorem cs_rentAhead (hA : Γ.2.1 ≤ p) (hs : ScrP Γ h sa N S) (ho : OutP h m) (c1 : ClsP h p m b D er bs len f (mkK np qu ra re le ln nb pl tm ne rw bk nh hw nc cw t y) KS) (hP : PurP len f (mkK np qu ra re le ln nb pl tm ne rw bk nh hw nc cw t y) KS) (hM : ModP h m er bs len f (mkK np qu ra re le ln nb pl tm ne rw bk nh hw nc cw t y) KS) (hi : i0 + 5 ≤ N) (k : ∀ h', Sim Γ h' p m sa N S → WP Γ ML_law (10, 196, c0, s0) 3329 [some (.ref sa), some (.ref p), some (.ref m), some (.ref (m + 12)), some (.ref (m + 13)), some (.int (nI i0)), none, none, none, none] [] h' Q) : WP Γ ML_law (10, 196, c0 + 20, s0 + 4409) 2872 [some (.ref sa), some (.ref p), some (.ref m), some (.ref (m + 12)), some (.ref (m + 13)), some (.int (nI i0)), none, none, none, none] [] h Q := by
  have hs0 := hs
  have c10 := c1
  have hP0 := hP
  have hM0 := hM
  obtain ⟨hsa, hsl, hN, hfree⟩ := hs
  obtain ⟨⟨fo, o1⟩, fd, o2⟩ := ho
  obtain ⟨hF, hT, hR3, hBat, hSna, ⟨pk, hL⟩, hX, hbD, hm, hz, hsn, hap⟩ := c1
  obtain ⟨hlen, hI, hIS⟩ := hP
  obtain ⟨⟨th, at', bg, e9, ea, cm, mC⟩, ⟨R, mR, hr⟩, ⟨R2, mR2⟩, ⟨R3, mR3⟩, ⟨RE, mE, hre⟩, ⟨RA, mRA⟩, ⟨mpk, mP⟩, ⟨B, mB, hB⟩, ⟨CM, mK⟩, CC, CE, SV, mCC, mCE, mSV, hsv, hsr⟩ := hM
  have hI0 : Inv np qu ra re le ln nb pl tm ne rw bk nh hw nc cw t y := hI
  have hr0 : RowR R np qu ra re le ln nb pl tm ne rw bk nh hw nc cw t y := hr
  have hL0 : LedP h b np qu ra re le ln nb pl tm ne rw bk nh hw nc cw t y pk := hL
  have hre0 : ∀ j, j < np → RE j = re j := hre
  obtain ⟨⟨s1, s2, s3, s4, s5, s6, s7, s8, tn, s9, s10⟩, IM, IP, IJ, IR, IC⟩ := hI0
  have hI0 : Inv np qu ra re le ln nb pl tm ne rw bk nh hw nc cw t y := hI
  have hF' := hF
  unfold FacC at hF'
  have ho : OutP h m := ⟨⟨fo, o1⟩, fd, o2⟩
  have TE : ∀ (X Y : Nat) (h2 : AH) (kk : Int32) (v9 : UInt32), ¬ kk = 0 → Sim Γ h2 p m sa N S → (∃ tl at' bg e9 ea lr cm, ModC h2 m (m + 1) kk tl at' bg e9 ea lr cm) → WP Γ ML_law (10, 196, c0 + X, s0 + Y) 2908 [some (.ref sa), some (.ref p), some (.ref m), some (.ref (m + 12)), some (.ref (m + 13)), some (.int (nI i0)), some (.int kk), none, none, none] [.float v9] h2 Q := by
    intro X Y h2 kk v9 hk hsim hm2
    obtain ⟨tl2, at2, bg2, e2, ea2, lr2, cm2, m2⟩ := hm2
    have m20 := m2
    unfold ModC at m2
    refine wp_fstore (n := 2910) dL_law_2908 rfl rfl rfl rfl ?_
    refine wp_aload_n (n := 2911) dL_law_2910 rfl rfl ?_
    refine wp_callVs (n := 2914) (rm' := (0, 0, 0, 0)) (c0 := c0) (s0 := s0) rfl dL_law_2911 rfl mlL_156 [] rfl rfl m2 rfl rfl rfl (Nat.le_of_ble_eq_true rfl) rfl ?_
    refine s_X10_thrown m20 ?_
    show WP Γ _ _ _ _ _ _ _
    refine wp_iload (n := 2916) dL_law_2914 rfl rfl ?_
    refine wp_icmp_eq (t := 2921) (n := 2919) dL_law_2916 (by decide) rfl (fun hc => ?_) (fun hc => ?_)
    · refine wp_iload (n := 2923) dL_law_2921 rfl rfl ?_
      refine wp_if_ne (t := 2959) (n := 2926) dL_law_2923 (by decide) rfl (fun hq => ?_) (fun hq => ?_)
      · refine wp_goto (t := 3329) dL_law_2959 (by decide) ?_
        refine wp_lo (lo' := [some (.ref sa), some (.ref p), some (.ref m), some (.ref (m + 12)), some (.ref (m + 13)), some (.int (nI i0)), none, none, none, none]) (fun k v hk => ?_) ?_
        · match k, hk with
          | 0, hk => exact hk
          | 1, hk => exact hk
          | 2, hk => exact hk
          | 3, hk => exact hk
          | 4, hk => exact hk
          | 5, hk => exact hk
          | 6, hk => exact absurd hk (by simp [ax_gl])
          | 7, hk => exact absurd hk (by simp [ax_gl])
          | 8, hk => exact absurd hk (by simp [ax_gl])
          | 9, hk => exact absurd hk (by simp [ax_gl])
          | k + 10, hk => exact absurd hk (by simp [ax_gl])
        exact wp_big (rm := (10, 196, c0, s0)) (Nat.le_refl _) (Nat.le_refl _) (Nat.le_add_right _ _) (Nat.le_add_right _ _) (k h2 hsim)
      · exact absurd hq hk
    · exact absurd rfl hc
  have TO : ∀ (X Y : Nat) (h2 : AH) (r : UInt32) (fo2 : Nat → UInt64), FP.Core.val32 r ≠ .nan → Sim Γ h2 p m sa N S → (∃ tl at' bg e9 ea lr cm, ModC h2 m (m + 1) 0 tl at' bg e9 ea lr cm) → h2.2 (m + 13) = some (.inl (.double, 1, .inr (.inr (.inr (.inl fo2))))) → fo2 0 = FP.f2d r → WP Γ ML_law (10, 196, c0 + X, s0 + Y) 2908 [some (.ref sa), some (.ref p), some (.ref m), some (.ref (m + 12)), some (.ref (m + 13)), some (.int (nI i0)), some (.int 0), none, none, none] [.float r] h2 Q := by
    intro X Y h2 r fo2 hnan hsim hm2 ho2 hv2
    obtain ⟨tl2, at2, bg2, e2, ea2, lr2, cm2, m2⟩ := hm2
    have m20 := m2
    unfold ModC at m2
    have fin : ∀ l7 : Option Value, WP Γ ML_law (10, 196, c0 + (X - 0), s0 + (Y - 0)) 2959 [some (.ref sa), some (.ref p), some (.ref m), some (.ref (m + 12)), some (.ref (m + 13)), some (.int (nI i0)), some (.int 0), l7, none, none] [] h2 Q := by
      intro l7
      refine wp_goto (t := 3329) dL_law_2959 (by decide) ?_
      refine wp_lo (lo' := [some (.ref sa), some (.ref p), some (.ref m), some (.ref (m + 12)), some (.ref (m + 13)), some (.int (nI i0)), none, none, none, none]) (fun k v hk => ?_) ?_
      · match k, hk with
        | 0, hk => exact hk
        | 1, hk => exact hk
        | 2, hk => exact hk
        | 3, hk => exact hk
        | 4, hk => exact hk
        | 5, hk => exact hk
        | 6, hk => exact absurd hk (by simp [ax_gl])
        | 7, hk => exact absurd hk (by simp [ax_gl])
        | 8, hk => exact absurd hk (by simp [ax_gl])
        | 9, hk => exact absurd hk (by simp [ax_gl])
        | k + 10, hk => exact absurd hk (by simp [ax_gl])
      exact wp_big (rm := (10, 196, c0, s0)) (Nat.le_refl _) (Nat.le_refl _) (Nat.le_add_right _ _) (Nat.le_add_right _ _) (k h2 hsim)
    refine wp_fstore (n := 2910) dL_law_2908 rfl rfl rfl rfl ?_
    refine wp_aload_n (n := 2911) dL_law_2910 rfl rfl ?_
    refine wp_callVs (n := 2914) (rm' := (0, 0, 0, 0)) (c0 := c0) (s0 := s0) rfl dL_law_2911 rfl mlL_156 [] rfl rfl m2 rfl rfl rfl (Nat.le_of_ble_eq_true rfl) rfl ?_
    refine s_X10_thrown m20 ?_
    show WP Γ _ _ _ _ _ _ _
    refine wp_iload (n := 2916) dL_law_2914 rfl rfl ?_
    refine wp_icmp_eq (t := 2921) (n := 2919) dL_law_2916 (by decide) rfl (fun hc => ?_) (fun hc => ?_)
    · refine wp_iload (n := 2923) dL_law_2921 rfl rfl ?_
      refine wp_if_ne (t := 2959) (n := 2926) dL_law_2923 (by decide) rfl (fun hq => ?_) (fun hq => ?_)
      · exact absurd rfl hq
      · refine wp_aload (n := 2928) dL_law_2926 rfl rfl ?_
        refine wp_iconst (n := 2929) (v := 0) dL_law_2928 rfl (by decide) ?_
        refine wp_dald (n := 2930) 0 dL_law_2929 rfl ho2 rfl (by omega) (by omega) ?_
        rw [hv2]
        refine wp_fload (n := 2932) dL_law_2930 rfl rfl ?_
        refine wp_f2d (n := 2933) dL_law_2932 rfl (n64_of (nn_f2d hnan)) ?_
        refine wp_dcmp (n := 2934) dL_law_2933 rfl ?_
        rw [dcmp_self (nn_f2d hnan)]
        refine wp_if_eq (t := 2959) (n := 2937) dL_law_2934 (by decide) rfl (fun hu => ?_) (fun hu => ?_)
        · exact fin _
        · exact absurd rfl hu
    · exact absurd rfl hc
  have MC : ∀ (X Y : Nat) (h3 : AH) (kk : Int32), h3.2 m = h.2 m → h3.2 sa = h.2 sa → WP Γ MX10_rentAhead (2, 45, 0, 0) 0 [some (.ref m), some (.int (S (i0 + 1))), some (.int (S (i0 + 2)))] [] h3 (ax_K Γ ML_law (10, 196, c0 + (X - 0), s0 + (Y - 0)) 2908 [some (.ref sa), some (.ref p), some (.ref m), some (.ref (m + 12)), some (.ref (m + 13)), some (.int (nI i0)), some (.int kk), none, none, none] [] Q) → WP Γ ML_law (10, 196, c0 + X, s0 + Y) 2890 [some (.ref sa), some (.ref p), some (.ref m), some (.ref (m + 12)), some (.ref (m + 13)), some (.int (nI i0)), none, none, none, none] [.int kk] h3 Q := by
    intro X Y h3 kk e1 e2 kk3
    have mC3' := ModC.mv e1 mC
    unfold ModC at mC3'
    have hsa3 := e2.trans hsa
    refine wp_istore (n := 2892) dL_law_2890 rfl rfl rfl rfl ?_
    refine wp_aload_n (n := 2893) dL_law_2892 rfl rfl ?_
    refine wp_aload_n (n := 2894) dL_law_2893 rfl rfl ?_
    refine wp_iload (n := 2896) dL_law_2894 rfl rfl ?_
    refine wp_iconst (n := 2897) (v := nI 1) dL_law_2896 rfl (by decide) ?_
    refine wp_iadd (n := 2898) dL_law_2897 rfl ?_
    refine wp_iald (n := 2899) (i0 + 1) dL_law_2898 rfl (by repeat first | assumption | exact ax_set_self _ _ _ | exact ax_newA_self _ _ _ | refine (ax_set_ne _ _ (by omega)).trans ?_ | refine (ax_newA_ne _ _ _ (by omega)).trans ?_) (by simp only [nI_zero, nI_mul, nI_add]) (by omega) (by omega) ?_
    refine wp_aload_n (n := 2900) dL_law_2899 rfl rfl ?_
    refine wp_iload (n := 2902) dL_law_2900 rfl rfl ?_
    refine wp_iconst (n := 2903) (v := nI 2) dL_law_2902 rfl (by decide) ?_
    refine wp_iadd (n := 2904) dL_law_2903 rfl ?_
    refine wp_iald (n := 2905) (i0 + 2) dL_law_2904 rfl (by repeat first | assumption | exact ax_set_self _ _ _ | exact ax_newA_self _ _ _ | refine (ax_set_ne _ _ (by omega)).trans ?_ | refine (ax_newA_ne _ _ _ (by omega)).trans ?_) (by simp only [nI_zero, nI_mul, nI_add]) (by omega) (by omega) ?_
    refine wp_callVs (n := 2908) (rm' := (2, 45, 0, 0)) (c0 := c0) (s0 := s0) rfl dL_law_2905 rfl mlL_317 [.int (S (i0 + 1)), .int (S (i0 + 2))] rfl rfl mC3' rfl rfl rfl (Nat.le_of_ble_eq_true rfl) rfl ?_
    exact kk3
  refine wp_aload_n (n := 2873) dL_law_2872 rfl rfl ?_
  refine wp_aload_n (n := 2874) dL_law_2873 rfl rfl ?_
  refine wp_iload (n := 2876) dL_law_2874 rfl rfl ?_
  refine wp_iconst (n := 2877) (v := nI 1) dL_law_2876 rfl (by decide) ?_
  refine wp_iadd (n := 2878) dL_law_2877 rfl ?_
  refine wp_iald (n := 2879) (i0 + 1) dL_law_2878 rfl (by repeat first | assumption | exact ax_set_self _ _ _ | exact ax_newA_self _ _ _ | refine (ax_set_ne _ _ (by omega)).trans ?_ | refine (ax_newA_ne _ _ _ (by omega)).trans ?_) (by simp only [nI_zero, nI_mul, nI_add]) (by omega) (by omega) ?_
  refine wp_aload_n (n := 2880) dL_law_2879 rfl rfl ?_
  refine wp_iload (n := 2882) dL_law_2880 rfl rfl ?_
  refine wp_iconst (n := 2883) (v := nI 2) dL_law_2882 rfl (by decide) ?_
  refine wp_iadd (n := 2884) dL_law_2883 rfl ?_
  refine wp_iald (n := 2885) (i0 + 2) dL_law_2884 rfl (by repeat first | assumption | exact ax_set_self _ _ _ | exact ax_newA_self _ _ _ | refine (ax_set_ne _ _ (by omega)).trans ?_ | refine (ax_newA_ne _ _ _ (by omega)).trans ?_) (by simp only [nI_zero, nI_mul, nI_add]) (by omega) (by omega) ?_
  refine wp_aload (n := 2887) dL_law_2885 rfl rfl ?_
  refine wp_callSH (n := 2890) (rm' := (8, 138, 2, 12)) (c0 := c0) (s0 := s0) (C := 20) (S := 4409) rfl dL_law_2887 rfl mwL_314 [.ref p, .int (S (i0 + 1)), .int (S (i0 + 2)), .ref (m + 13)] rfl rfl rfl rfl (Nat.le_of_ble_eq_true rfl) rfl ?_
  refine s_L_rentAhead hF' (by omega) ?_
  refine s_X9_rentAhead hF hL0 (by omega) (by omega) (fun j hj => (IP j hj).1) (fun j hj => by obtain ⟨r, a, b⟩ := (IP j hj).2.1; exact ⟨r, b, a⟩) (fun c1 n1 hn1 => ?_) (fun c1 c2 n1 hn1 => ?_) (fun i u hi ei eu hu0 hu1 hpf => ?_)
  · refine Or.inr (Or.inr ⟨rfl, Or.inl ⟨rfl, ?_⟩⟩)
    show WP Γ _ _ _ _ _ _ _
    have B : Bet p m h h _ := Bet.n (p := p) ho hn1
    refine MC _ _ _ _ (B.1 _ (by omega)) (B.1 _ (by omega)) ?_
    refine s_X10_rentAhead (ModC.mv (B.1 _ (by omega)) mC) ((B.1 _ (by omega)).trans mR) hr0 hI0 (by omega) (by omega) ((B.1 _ (by omega)).trans mE) hre0 (fun d1 h2 fr2 m2 => ?_) (fun d1 d2 h2 fr2 m2 => ?_) (fun i2 hi2 ei2 u2 hu2 hu3 eu2 h2 fr2 m2 => ?_)
    · show WP Γ _ _ _ _ _ _ _
      exact TE _ _ h2 _ _ (by decide) (fin_q hA hs0 hM0 hP0 c10 hm B fr2 ⟨_, _, _, _, _, _, m2⟩) ⟨_, _, _, _, _, _, _, m2⟩
    · exact absurd (c1.symm.trans d1) (by decide)
    · have d1 : inN (S (i0 + 1)) np = true := by rw [ei2]; exact inN_of hi2 (by omega)
      have d2 : inI (S (i0 + 2)) 1 1000 = true := by rw [eu2]; exact inI_of hu2 hu3 (by decide)
      exact absurd (c1.symm.trans d1) (by decide)
  · refine Or.inr (Or.inr ⟨rfl, Or.inr ⟨rfl, ?_⟩⟩)
    show WP Γ _ _ _ _ _ _ _
    have B : Bet p m h h _ := Bet.n (p := p) ho hn1
    refine MC _ _ _ _ (B.1 _ (by omega)) (B.1 _ (by omega)) ?_
    refine s_X10_rentAhead (ModC.mv (B.1 _ (by omega)) mC) ((B.1 _ (by omega)).trans mR) hr0 hI0 (by omega) (by omega) ((B.1 _ (by omega)).trans mE) hre0 (fun d1 h2 fr2 m2 => ?_) (fun d1 d2 h2 fr2 m2 => ?_) (fun i2 hi2 ei2 u2 hu2 hu3 eu2 h2 fr2 m2 => ?_)
    · exact absurd (c1.symm.trans d1) (by decide)
    · show WP Γ _ _ _ _ _ _ _
      exact TE _ _ h2 _ _ (by decide) (fin_q hA hs0 hM0 hP0 c10 hm B fr2 ⟨_, _, _, _, _, _, m2⟩) ⟨_, _, _, _, _, _, _, m2⟩
    · have d1 : inN (S (i0 + 1)) np = true := by rw [ei2]; exact inN_of hi2 (by omega)
      have d2 : inI (S (i0 + 2)) 1 1000 = true := by rw [eu2]; exact inI_of hu2 hu3 (by decide)
      exact absurd (c2.symm.trans d2) (by decide)
  · refine ⟨hpf.nn, fd, o2, fun fo1 hv => ?_⟩
    show WP Γ _ _ _ _ _ _ _
    have B : Bet p m h h _ := Bet.d fo1 ho hm (fun _ _ => rfl)
    have c1 : inN (S (i0 + 1)) np = true := by rw [ei]; exact inN_of hi (by omega)
    have c2 : inI (S (i0 + 2)) 1 1000 = true := by rw [eu]; exact inI_of hu0 hu1 (by decide)
    refine MC _ _ _ _ (B.1 _ (by omega)) (B.1 _ (by omega)) ?_
    refine s_X10_rentAhead (ModC.mv (B.1 _ (by omega)) mC) ((B.1 _ (by omega)).trans mR) hr0 hI0 (by omega) (by omega) ((B.1 _ (by omega)).trans mE) hre0 (fun d1 h2 fr2 m2 => ?_) (fun d1 d2 h2 fr2 m2 => ?_) (fun i2 hi2 ei2 u2 hu2 hu3 eu2 h2 fr2 m2 => ?_)
    · exact absurd (c1.symm.trans d1) (by decide)
    · exact absurd (c2.symm.trans d2) (by decide)
    · have d1 : inN (S (i0 + 1)) np = true := by rw [ei2]; exact inN_of hi2 (by omega)
      have d2 : inI (S (i0 + 2)) 1 1000 = true := by rw [eu2]; exact inI_of hu2 hu3 (by decide)
      show WP Γ _ _ _ _ _ _ _
      obtain rfl : i = i2 := (nI_eq9 (by omega) (by omega)).mp (ei.symm.trans ei2)
      obtain rfl : u = u2 := (nI_eq9 (by omega) (by omega)).mp (eu.symm.trans eu2)
      exact TO _ _ h2 _ fo1 hpf.nn (fin_q hA hs0 hM0 hP0 c10 hm B fr2 ⟨_, _, _, _, _, _, m2⟩) ⟨_, _, _, _, _, _, _, m2⟩ ((fr2.2 _ (by omega)).trans (ax_set_self _ _ _)) hv
theorem cs_reasonTotal (hA : Γ.2.1 ≤ p) (hs : ScrP Γ h sa N S) (ho : OutP h m) (c1 : ClsP h p m b D er bs len f (mkK np qu ra re le ln nb pl tm ne rw bk nh hw nc cw t y) KS) (hP : PurP len f (mkK np qu ra re le ln nb pl tm ne rw bk nh hw nc cw t y) KS) (hM : ModP h m er bs len f (mkK np qu ra re le ln nb pl tm ne rw bk nh hw nc cw t y) KS) (hi : i0 + 5 ≤ N) (k : ∀ h', Sim Γ h' p m sa N S → WP Γ ML_law (10, 196, c0, s0) 3329 [some (.ref sa), some (.ref p), some (.ref m), some (.ref (m + 12)), some (.ref (m + 13)), some (.int (nI i0)), none, none, none, none] [] h' Q) : WP Γ ML_law (10, 196, c0 + 20, s0 + 4409) 2385 [some (.ref sa), some (.ref p), some (.ref m), some (.ref (m + 12)), some (.ref (m + 13)), some (.int (nI i0)), none, none, none, none] [] h Q := by
  have hs0 := hs
  have c10 := c1
  have hP0 := hP
  have hM0 := hM
  obtain ⟨hsa, hsl, hN, hfree⟩ := hs
  obtain ⟨⟨fo, o1⟩, fd, o2⟩ := ho
  obtain ⟨hF, hT, hR3, hBat, hSna, ⟨pk, hL⟩, hX, hbD, hm, hz, hsn, hap⟩ := c1
  obtain ⟨hlen, hI, hIS⟩ := hP
  obtain ⟨⟨th, at', bg, e9, ea, cm, mC⟩, ⟨R, mR, hr⟩, ⟨R2, mR2⟩, ⟨R3, mR3⟩, ⟨RE, mE, hre⟩, ⟨RA, mRA⟩, ⟨mpk, mP⟩, ⟨B, mB, hB⟩, ⟨CM, mK⟩, CC, CE, SV, mCC, mCE, mSV, hsv, hsr⟩ := hM
  have hI0 : Inv np qu ra re le ln nb pl tm ne rw bk nh hw nc cw t y := hI
  have hr0 : RowR R np qu ra re le ln nb pl tm ne rw bk nh hw nc cw t y := hr
  have hL0 : LedP h b np qu ra re le ln nb pl tm ne rw bk nh hw nc cw t y pk := hL
  have hre0 : ∀ j, j < np → RE j = re j := hre
  obtain ⟨⟨s1, s2, s3, s4, s5, s6, s7, s8, tn, s9, s10⟩, IM, IP, IJ, IR, IC⟩ := hI0
  have hI0 : Inv np qu ra re le ln nb pl tm ne rw bk nh hw nc cw t y := hI
  have hF' := hF
  unfold FacC at hF'
  have ho : OutP h m := ⟨⟨fo, o1⟩, fd, o2⟩
  have TE : ∀ (X Y : Nat) (h2 : AH) (kk : Int32) (v9 : Int32), ¬ kk = 0 → Sim Γ h2 p m sa N S → (∃ tl at' bg e9 ea lr cm, ModC h2 m (m + 1) kk tl at' bg e9 ea lr cm) → WP Γ ML_law (10, 196, c0 + X, s0 + Y) 2432 [some (.ref sa), some (.ref p), some (.ref m), some (.ref (m + 12)), some (.ref (m + 13)), some (.int (nI i0)), some (.int kk), none, none, none] [.int v9] h2 Q := by
    intro X Y h2 kk v9 hk hsim hm2
    obtain ⟨tl2, at2, bg2, e2, ea2, lr2, cm2, m2⟩ := hm2
    have m20 := m2
    unfold ModC at m2
    refine wp_istore (n := 2434) dL_law_2432 rfl rfl rfl rfl ?_
    refine wp_aload_n (n := 2435) dL_law_2434 rfl rfl ?_
    refine wp_callVs (n := 2438) (rm' := (0, 0, 0, 0)) (c0 := c0) (s0 := s0) rfl dL_law_2435 rfl mlL_156 [] rfl rfl m2 rfl rfl rfl (Nat.le_of_ble_eq_true rfl) rfl ?_
    refine s_X10_thrown m20 ?_
    show WP Γ _ _ _ _ _ _ _
    refine wp_iload (n := 2440) dL_law_2438 rfl rfl ?_
    refine wp_icmp_eq (t := 2445) (n := 2443) dL_law_2440 (by decide) rfl (fun hc => ?_) (fun hc => ?_)
    · refine wp_iload (n := 2447) dL_law_2445 rfl rfl ?_
      refine wp_if_ne (t := 2462) (n := 2450) dL_law_2447 (by decide) rfl (fun hq => ?_) (fun hq => ?_)
      · refine wp_goto (t := 3329) dL_law_2462 (by decide) ?_
        refine wp_lo (lo' := [some (.ref sa), some (.ref p), some (.ref m), some (.ref (m + 12)), some (.ref (m + 13)), some (.int (nI i0)), none, none, none, none]) (fun k v hk => ?_) ?_
        · match k, hk with
          | 0, hk => exact hk
          | 1, hk => exact hk
          | 2, hk => exact hk
          | 3, hk => exact hk
          | 4, hk => exact hk
          | 5, hk => exact hk
          | 6, hk => exact absurd hk (by simp [ax_gl])
          | 7, hk => exact absurd hk (by simp [ax_gl])
          | 8, hk => exact absurd hk (by simp [ax_gl])
          | 9, hk => exact absurd hk (by simp [ax_gl])
          | k + 10, hk => exact absurd hk (by simp [ax_gl])
        exact wp_big (rm := (10, 196, c0, s0)) (Nat.le_refl _) (Nat.le_refl _) (Nat.le_add_right _ _) (Nat.le_add_right _ _) (k h2 hsim)
      · exact absurd hq hk
    · exact absurd rfl hc
  have TO : ∀ (X Y : Nat) (h2 : AH) (r : Int32) (fo2 : Nat → Int64), Sim Γ h2 p m sa N S → (∃ tl at' bg e9 ea lr cm, ModC h2 m (m + 1) 0 tl at' bg e9 ea lr cm) → h2.2 (m + 12) = some (.inl (.long, 1, .inr (.inl fo2))) → fo2 0 = r.toInt64 → WP Γ ML_law (10, 196, c0 + X, s0 + Y) 2432 [some (.ref sa), some (.ref p), some (.ref m), some (.ref (m + 12)), some (.ref (m + 13)), some (.int (nI i0)), some (.int 0), none, none, none] [.int r] h2 Q := by
    intro X Y h2 r fo2 hsim hm2 ho2 hv2
    obtain ⟨tl2, at2, bg2, e2, ea2, lr2, cm2, m2⟩ := hm2
    have m20 := m2
    unfold ModC at m2
    have fin : ∀ l7 : Option Value, WP Γ ML_law (10, 196, c0 + (X - 0), s0 + (Y - 0)) 2462 [some (.ref sa), some (.ref p), some (.ref m), some (.ref (m + 12)), some (.ref (m + 13)), some (.int (nI i0)), some (.int 0), l7, none, none] [] h2 Q := by
      intro l7
      refine wp_goto (t := 3329) dL_law_2462 (by decide) ?_
      refine wp_lo (lo' := [some (.ref sa), some (.ref p), some (.ref m), some (.ref (m + 12)), some (.ref (m + 13)), some (.int (nI i0)), none, none, none, none]) (fun k v hk => ?_) ?_
      · match k, hk with
        | 0, hk => exact hk
        | 1, hk => exact hk
        | 2, hk => exact hk
        | 3, hk => exact hk
        | 4, hk => exact hk
        | 5, hk => exact hk
        | 6, hk => exact absurd hk (by simp [ax_gl])
        | 7, hk => exact absurd hk (by simp [ax_gl])
        | 8, hk => exact absurd hk (by simp [ax_gl])
        | 9, hk => exact absurd hk (by simp [ax_gl])
        | k + 10, hk => exact absurd hk (by simp [ax_gl])
      exact wp_big (rm := (10, 196, c0, s0)) (Nat.le_refl _) (Nat.le_refl _) (Nat.le_add_right _ _) (Nat.le_add_right _ _) (k h2 hsim)
    refine wp_istore (n := 2434) dL_law_2432 rfl rfl rfl rfl ?_
    refine wp_aload_n (n := 2435) dL_law_2434 rfl rfl ?_
    refine wp_callVs (n := 2438) (rm' := (0, 0, 0, 0)) (c0 := c0) (s0 := s0) rfl dL_law_2435 rfl mlL_156 [] rfl rfl m2 rfl rfl rfl (Nat.le_of_ble_eq_true rfl) rfl ?_
    refine s_X10_thrown m20 ?_
    show WP Γ _ _ _ _ _ _ _
    refine wp_iload (n := 2440) dL_law_2438 rfl rfl ?_
    refine wp_icmp_eq (t := 2445) (n := 2443) dL_law_2440 (by decide) rfl (fun hc => ?_) (fun hc => ?_)
    · refine wp_iload (n := 2447) dL_law_2445 rfl rfl ?_
      refine wp_if_ne (t := 2462) (n := 2450) dL_law_2447 (by decide) rfl (fun hq => ?_) (fun hq => ?_)
      · exact absurd rfl hq
      · refine wp_aload_n (n := 2451) dL_law_2450 rfl rfl ?_
        refine wp_iconst (n := 2452) (v := 0) dL_law_2451 rfl (by decide) ?_
        refine wp_lald (n := 2453) 0 dL_law_2452 rfl ho2 rfl (by omega) (by omega) ?_
        rw [hv2]
        refine wp_iload (n := 2455) dL_law_2453 rfl rfl ?_
        refine wp_i2l (n := 2456) dL_law_2455 rfl ?_
        refine wp_lcmp (n := 2457) dL_law_2456 rfl ?_
        rw [lg_self]
        refine wp_if_eq (t := 2462) (n := 2460) dL_law_2457 (by decide) rfl (fun hu => ?_) (fun hu => ?_)
        · exact fin _
        · exact absurd rfl hu
    · exact absurd rfl hc
  have MC : ∀ (X Y : Nat) (h3 : AH) (kk : Int32), h3.2 m = h.2 m → h3.2 sa = h.2 sa → WP Γ MX10_reasonTotal (3, 65, 0, 0) 0 [some (.ref m), some (.int (S (i0 + 1))), some (.int (S (i0 + 2))), some (.int (S (i0 + 3))), none, none, none] [] h3 (ax_K Γ ML_law (10, 196, c0 + (X - 0), s0 + (Y - 0)) 2432 [some (.ref sa), some (.ref p), some (.ref m), some (.ref (m + 12)), some (.ref (m + 13)), some (.int (nI i0)), some (.int kk), none, none, none] [] Q) → WP Γ ML_law (10, 196, c0 + X, s0 + Y) 2408 [some (.ref sa), some (.ref p), some (.ref m), some (.ref (m + 12)), some (.ref (m + 13)), some (.int (nI i0)), none, none, none, none] [.int kk] h3 Q := by
    intro X Y h3 kk e1 e2 kk3
    have mC3' := ModC.mv e1 mC
    unfold ModC at mC3'
    have hsa3 := e2.trans hsa
    refine wp_istore (n := 2410) dL_law_2408 rfl rfl rfl rfl ?_
    refine wp_aload_n (n := 2411) dL_law_2410 rfl rfl ?_
    refine wp_aload_n (n := 2412) dL_law_2411 rfl rfl ?_
    refine wp_iload (n := 2414) dL_law_2412 rfl rfl ?_
    refine wp_iconst (n := 2415) (v := nI 1) dL_law_2414 rfl (by decide) ?_
    refine wp_iadd (n := 2416) dL_law_2415 rfl ?_
    refine wp_iald (n := 2417) (i0 + 1) dL_law_2416 rfl (by repeat first | assumption | exact ax_set_self _ _ _ | exact ax_newA_self _ _ _ | refine (ax_set_ne _ _ (by omega)).trans ?_ | refine (ax_newA_ne _ _ _ (by omega)).trans ?_) (by simp only [nI_zero, nI_mul, nI_add]) (by omega) (by omega) ?_
    refine wp_aload_n (n := 2418) dL_law_2417 rfl rfl ?_
    refine wp_iload (n := 2420) dL_law_2418 rfl rfl ?_
    refine wp_iconst (n := 2421) (v := nI 2) dL_law_2420 rfl (by decide) ?_
    refine wp_iadd (n := 2422) dL_law_2421 rfl ?_
    refine wp_iald (n := 2423) (i0 + 2) dL_law_2422 rfl (by repeat first | assumption | exact ax_set_self _ _ _ | exact ax_newA_self _ _ _ | refine (ax_set_ne _ _ (by omega)).trans ?_ | refine (ax_newA_ne _ _ _ (by omega)).trans ?_) (by simp only [nI_zero, nI_mul, nI_add]) (by omega) (by omega) ?_
    refine wp_aload_n (n := 2424) dL_law_2423 rfl rfl ?_
    refine wp_iload (n := 2426) dL_law_2424 rfl rfl ?_
    refine wp_iconst (n := 2427) (v := nI 3) dL_law_2426 rfl (by decide) ?_
    refine wp_iadd (n := 2428) dL_law_2427 rfl ?_
    refine wp_iald (n := 2429) (i0 + 3) dL_law_2428 rfl (by repeat first | assumption | exact ax_set_self _ _ _ | exact ax_newA_self _ _ _ | refine (ax_set_ne _ _ (by omega)).trans ?_ | refine (ax_newA_ne _ _ _ (by omega)).trans ?_) (by simp only [nI_zero, nI_mul, nI_add]) (by omega) (by omega) ?_
    refine wp_callVs (n := 2432) (rm' := (3, 65, 0, 0)) (c0 := c0) (s0 := s0) rfl dL_law_2429 rfl mlL_285 [.int (S (i0 + 1)), .int (S (i0 + 2)), .int (S (i0 + 3))] rfl rfl mC3' rfl rfl rfl (Nat.le_of_ble_eq_true rfl) rfl ?_
    exact kk3
  refine wp_aload_n (n := 2386) dL_law_2385 rfl rfl ?_
  refine wp_aload_n (n := 2387) dL_law_2386 rfl rfl ?_
  refine wp_iload (n := 2389) dL_law_2387 rfl rfl ?_
  refine wp_iconst (n := 2390) (v := nI 1) dL_law_2389 rfl (by decide) ?_
  refine wp_iadd (n := 2391) dL_law_2390 rfl ?_
  refine wp_iald (n := 2392) (i0 + 1) dL_law_2391 rfl (by repeat first | assumption | exact ax_set_self _ _ _ | exact ax_newA_self _ _ _ | refine (ax_set_ne _ _ (by omega)).trans ?_ | refine (ax_newA_ne _ _ _ (by omega)).trans ?_) (by simp only [nI_zero, nI_mul, nI_add]) (by omega) (by omega) ?_
  refine wp_aload_n (n := 2393) dL_law_2392 rfl rfl ?_
  refine wp_iload (n := 2395) dL_law_2393 rfl rfl ?_
  refine wp_iconst (n := 2396) (v := nI 2) dL_law_2395 rfl (by decide) ?_
  refine wp_iadd (n := 2397) dL_law_2396 rfl ?_
  refine wp_iald (n := 2398) (i0 + 2) dL_law_2397 rfl (by repeat first | assumption | exact ax_set_self _ _ _ | exact ax_newA_self _ _ _ | refine (ax_set_ne _ _ (by omega)).trans ?_ | refine (ax_newA_ne _ _ _ (by omega)).trans ?_) (by simp only [nI_zero, nI_mul, nI_add]) (by omega) (by omega) ?_
  refine wp_aload_n (n := 2399) dL_law_2398 rfl rfl ?_
  refine wp_iload (n := 2401) dL_law_2399 rfl rfl ?_
  refine wp_iconst (n := 2402) (v := nI 3) dL_law_2401 rfl (by decide) ?_
  refine wp_iadd (n := 2403) dL_law_2402 rfl ?_
  refine wp_iald (n := 2404) (i0 + 3) dL_law_2403 rfl (by repeat first | assumption | exact ax_set_self _ _ _ | exact ax_newA_self _ _ _ | refine (ax_set_ne _ _ (by omega)).trans ?_ | refine (ax_newA_ne _ _ _ (by omega)).trans ?_) (by simp only [nI_zero, nI_mul, nI_add]) (by omega) (by omega) ?_
  refine wp_aload_n (n := 2405) dL_law_2404 rfl rfl ?_
  refine wp_callSH (n := 2408) (rm' := (8, 139, 2, 12)) (c0 := c0) (s0 := s0) (C := 20) (S := 4409) rfl dL_law_2405 rfl mwL_283 [.ref p, .int (S (i0 + 1)), .int (S (i0 + 2)), .int (S (i0 + 3)), .ref (m + 12)] rfl rfl rfl rfl (Nat.le_of_ble_eq_true rfl) rfl ?_
  refine s_L_reasonTotal hF' (by omega) ?_
  refine s_X9_reasonTotal hF hL0 (by omega) (fun c1 n1 hn1 => ?_) (fun c0' => ?_)
  · refine Or.inl ⟨rfl, rfl, ?_⟩
    show WP Γ _ _ _ _ _ _ _
    have B : Bet p m h h _ := Bet.n (p := p) ho hn1
    refine MC _ _ _ _ (B.1 _ (by omega)) (B.1 _ (by omega)) ?_
    refine s_X10_reasonTotal (ModC.mv (B.1 _ (by omega)) mC) ((B.1 _ (by omega)).trans mR) hr0 hI0 (by omega) (by omega) (fun d1 h2 fr2 m2 => ?_) (fun q1 q2 q3 h2 fr2 m2 => ?_)
    · show WP Γ _ _ _ _ _ _ _
      exact TE _ _ h2 _ _ (by decide) (fin_q hA hs0 hM0 hP0 c10 hm B fr2 ⟨_, _, _, _, _, _, m2⟩) ⟨_, _, _, _, _, _, _, m2⟩
    · have d1 : (inI (S (i0 + 1)) 0 9 && decide (0 ≤ (S (i0 + 2)) ∧ (S (i0 + 2)) ≤ (S (i0 + 3)))) = true := by rw [q1, decide_eq_true (⟨q2, q3⟩ : 0 ≤ (S (i0 + 2)) ∧ (S (i0 + 2)) ≤ (S (i0 + 3)))]; rfl
      exact absurd (c1.symm.trans d1) (by decide)
  · refine ⟨fo, o1, fun fo1 hv => ?_⟩
    show WP Γ _ _ _ _ _ _ _
    have B : Bet p m h h _ := Bet.o fo1 ho hm (fun _ _ => rfl)
    have c1 : (inI (S (i0 + 1)) 0 9 && decide (0 ≤ (S (i0 + 2)) ∧ (S (i0 + 2)) ≤ (S (i0 + 3)))) = true := c0'
    refine MC _ _ _ _ (B.1 _ (by omega)) (B.1 _ (by omega)) ?_
    refine s_X10_reasonTotal (ModC.mv (B.1 _ (by omega)) mC) ((B.1 _ (by omega)).trans mR) hr0 hI0 (by omega) (by omega) (fun d1 h2 fr2 m2 => ?_) (fun q1 q2 q3 h2 fr2 m2 => ?_)
    · exact absurd (c1.symm.trans d1) (by decide)
    · have d1 : (inI (S (i0 + 1)) 0 9 && decide (0 ≤ (S (i0 + 2)) ∧ (S (i0 + 2)) ≤ (S (i0 + 3)))) = true := by rw [q1, decide_eq_true (⟨q2, q3⟩ : 0 ≤ (S (i0 + 2)) ∧ (S (i0 + 2)) ≤ (S (i0 + 3)))]; rfl
      show WP Γ _ _ _ _ _ _ _
      exact TO _ _ h2 _ fo1 (fin_q hA hs0 hM0 hP0 c10 hm B fr2 ⟨_, _, _, _, _, _, m2⟩) ⟨_, _, _, _, _, _, _, m2⟩ ((fr2.2 _ (by omega)).trans (ax_set_self _ _ _)) hv
theorem cs_busiest (hA : Γ.2.1 ≤ p) (hs : ScrP Γ h sa N S) (ho : OutP h m) (c1 : ClsP h p m b D er bs len f (mkK np qu ra re le ln nb pl tm ne rw bk nh hw nc cw t y) KS) (hP : PurP len f (mkK np qu ra re le ln nb pl tm ne rw bk nh hw nc cw t y) KS) (hM : ModP h m er bs len f (mkK np qu ra re le ln nb pl tm ne rw bk nh hw nc cw t y) KS) (hi : i0 + 5 ≤ N) (k : ∀ h', Sim Γ h' p m sa N S → WP Γ ML_law (10, 196, c0, s0) 3329 [some (.ref sa), some (.ref p), some (.ref m), some (.ref (m + 12)), some (.ref (m + 13)), some (.int (nI i0)), none, none, none, none] [] h' Q) : WP Γ ML_law (10, 196, c0 + 20, s0 + 4409) 2465 [some (.ref sa), some (.ref p), some (.ref m), some (.ref (m + 12)), some (.ref (m + 13)), some (.int (nI i0)), none, none, none, none] [] h Q := by
  have hs0 := hs
  have c10 := c1
  have hP0 := hP
  have hM0 := hM
  obtain ⟨hsa, hsl, hN, hfree⟩ := hs
  obtain ⟨⟨fo, o1⟩, fd, o2⟩ := ho
  obtain ⟨hF, hT, hR3, hBat, hSna, ⟨pk, hL⟩, hX, hbD, hm, hz, hsn, hap⟩ := c1
  obtain ⟨hlen, hI, hIS⟩ := hP
  obtain ⟨⟨th, at', bg, e9, ea, cm, mC⟩, ⟨R, mR, hr⟩, ⟨R2, mR2⟩, ⟨R3, mR3⟩, ⟨RE, mE, hre⟩, ⟨RA, mRA⟩, ⟨mpk, mP⟩, ⟨B, mB, hB⟩, ⟨CM, mK⟩, CC, CE, SV, mCC, mCE, mSV, hsv, hsr⟩ := hM
  have hI0 : Inv np qu ra re le ln nb pl tm ne rw bk nh hw nc cw t y := hI
  have hr0 : RowR R np qu ra re le ln nb pl tm ne rw bk nh hw nc cw t y := hr
  have hL0 : LedP h b np qu ra re le ln nb pl tm ne rw bk nh hw nc cw t y pk := hL
  have hre0 : ∀ j, j < np → RE j = re j := hre
  obtain ⟨⟨s1, s2, s3, s4, s5, s6, s7, s8, tn, s9, s10⟩, IM, IP, IJ, IR, IC⟩ := hI0
  have hI0 : Inv np qu ra re le ln nb pl tm ne rw bk nh hw nc cw t y := hI
  have hF' := hF
  unfold FacC at hF'
  have ho : OutP h m := ⟨⟨fo, o1⟩, fd, o2⟩
  have TE : ∀ (X Y : Nat) (h2 : AH) (kk : Int32) (v9 : Int32), ¬ kk = 0 → Sim Γ h2 p m sa N S → (∃ tl at' bg e9 ea lr cm, ModC h2 m (m + 1) kk tl at' bg e9 ea lr cm) → WP Γ ML_law (10, 196, c0 + X, s0 + Y) 2500 [some (.ref sa), some (.ref p), some (.ref m), some (.ref (m + 12)), some (.ref (m + 13)), some (.int (nI i0)), some (.int kk), none, none, none] [.int v9] h2 Q := by
    intro X Y h2 kk v9 hk hsim hm2
    obtain ⟨tl2, at2, bg2, e2, ea2, lr2, cm2, m2⟩ := hm2
    have m20 := m2
    unfold ModC at m2
    refine wp_istore (n := 2502) dL_law_2500 rfl rfl rfl rfl ?_
    refine wp_aload_n (n := 2503) dL_law_2502 rfl rfl ?_
    refine wp_callVs (n := 2506) (rm' := (0, 0, 0, 0)) (c0 := c0) (s0 := s0) rfl dL_law_2503 rfl mlL_156 [] rfl rfl m2 rfl rfl rfl (Nat.le_of_ble_eq_true rfl) rfl ?_
    refine s_X10_thrown m20 ?_
    show WP Γ _ _ _ _ _ _ _
    refine wp_iload (n := 2508) dL_law_2506 rfl rfl ?_
    refine wp_icmp_eq (t := 2513) (n := 2511) dL_law_2508 (by decide) rfl (fun hc => ?_) (fun hc => ?_)
    · refine wp_iload (n := 2515) dL_law_2513 rfl rfl ?_
      refine wp_if_ne (t := 2530) (n := 2518) dL_law_2515 (by decide) rfl (fun hq => ?_) (fun hq => ?_)
      · refine wp_goto (t := 3329) dL_law_2530 (by decide) ?_
        refine wp_lo (lo' := [some (.ref sa), some (.ref p), some (.ref m), some (.ref (m + 12)), some (.ref (m + 13)), some (.int (nI i0)), none, none, none, none]) (fun k v hk => ?_) ?_
        · match k, hk with
          | 0, hk => exact hk
          | 1, hk => exact hk
          | 2, hk => exact hk
          | 3, hk => exact hk
          | 4, hk => exact hk
          | 5, hk => exact hk
          | 6, hk => exact absurd hk (by simp [ax_gl])
          | 7, hk => exact absurd hk (by simp [ax_gl])
          | 8, hk => exact absurd hk (by simp [ax_gl])
          | 9, hk => exact absurd hk (by simp [ax_gl])
          | k + 10, hk => exact absurd hk (by simp [ax_gl])
        exact wp_big (rm := (10, 196, c0, s0)) (Nat.le_refl _) (Nat.le_refl _) (Nat.le_add_right _ _) (Nat.le_add_right _ _) (k h2 hsim)
      · exact absurd hq hk
    · exact absurd rfl hc
  have TO : ∀ (X Y : Nat) (h2 : AH) (r : Int32) (fo2 : Nat → Int64), Sim Γ h2 p m sa N S → (∃ tl at' bg e9 ea lr cm, ModC h2 m (m + 1) 0 tl at' bg e9 ea lr cm) → h2.2 (m + 12) = some (.inl (.long, 1, .inr (.inl fo2))) → fo2 0 = r.toInt64 → WP Γ ML_law (10, 196, c0 + X, s0 + Y) 2500 [some (.ref sa), some (.ref p), some (.ref m), some (.ref (m + 12)), some (.ref (m + 13)), some (.int (nI i0)), some (.int 0), none, none, none] [.int r] h2 Q := by
    intro X Y h2 r fo2 hsim hm2 ho2 hv2
    obtain ⟨tl2, at2, bg2, e2, ea2, lr2, cm2, m2⟩ := hm2
    have m20 := m2
    unfold ModC at m2
    have fin : ∀ l7 : Option Value, WP Γ ML_law (10, 196, c0 + (X - 0), s0 + (Y - 0)) 2530 [some (.ref sa), some (.ref p), some (.ref m), some (.ref (m + 12)), some (.ref (m + 13)), some (.int (nI i0)), some (.int 0), l7, none, none] [] h2 Q := by
      intro l7
      refine wp_goto (t := 3329) dL_law_2530 (by decide) ?_
      refine wp_lo (lo' := [some (.ref sa), some (.ref p), some (.ref m), some (.ref (m + 12)), some (.ref (m + 13)), some (.int (nI i0)), none, none, none, none]) (fun k v hk => ?_) ?_
      · match k, hk with
        | 0, hk => exact hk
        | 1, hk => exact hk
        | 2, hk => exact hk
        | 3, hk => exact hk
        | 4, hk => exact hk
        | 5, hk => exact hk
        | 6, hk => exact absurd hk (by simp [ax_gl])
        | 7, hk => exact absurd hk (by simp [ax_gl])
        | 8, hk => exact absurd hk (by simp [ax_gl])
        | 9, hk => exact absurd hk (by simp [ax_gl])
        | k + 10, hk => exact absurd hk (by simp [ax_gl])
      exact wp_big (rm := (10, 196, c0, s0)) (Nat.le_refl _) (Nat.le_refl _) (Nat.le_add_right _ _) (Nat.le_add_right _ _) (k h2 hsim)
    refine wp_istore (n := 2502) dL_law_2500 rfl rfl rfl rfl ?_
    refine wp_aload_n (n := 2503) dL_law_2502 rfl rfl ?_
    refine wp_callVs (n := 2506) (rm' := (0, 0, 0, 0)) (c0 := c0) (s0 := s0) rfl dL_law_2503 rfl mlL_156 [] rfl rfl m2 rfl rfl rfl (Nat.le_of_ble_eq_true rfl) rfl ?_
    refine s_X10_thrown m20 ?_
    show WP Γ _ _ _ _ _ _ _
    refine wp_iload (n := 2508) dL_law_2506 rfl rfl ?_
    refine wp_icmp_eq (t := 2513) (n := 2511) dL_law_2508 (by decide) rfl (fun hc => ?_) (fun hc => ?_)
    · refine wp_iload (n := 2515) dL_law_2513 rfl rfl ?_
      refine wp_if_ne (t := 2530) (n := 2518) dL_law_2515 (by decide) rfl (fun hq => ?_) (fun hq => ?_)
      · exact absurd rfl hq
      · refine wp_aload_n (n := 2519) dL_law_2518 rfl rfl ?_
        refine wp_iconst (n := 2520) (v := 0) dL_law_2519 rfl (by decide) ?_
        refine wp_lald (n := 2521) 0 dL_law_2520 rfl ho2 rfl (by omega) (by omega) ?_
        rw [hv2]
        refine wp_iload (n := 2523) dL_law_2521 rfl rfl ?_
        refine wp_i2l (n := 2524) dL_law_2523 rfl ?_
        refine wp_lcmp (n := 2525) dL_law_2524 rfl ?_
        rw [lg_self]
        refine wp_if_eq (t := 2530) (n := 2528) dL_law_2525 (by decide) rfl (fun hu => ?_) (fun hu => ?_)
        · exact fin _
        · exact absurd rfl hu
    · exact absurd rfl hc
  have MC : ∀ (X Y : Nat) (h3 : AH) (kk : Int32), h3.2 m = h.2 m → h3.2 sa = h.2 sa → WP Γ MX10_busiest (3, 65, 0, 0) 0 [some (.ref m), some (.int (S (i0 + 1))), some (.int (S (i0 + 2))), none, none, none, none, none] [] h3 (ax_K Γ ML_law (10, 196, c0 + (X - 0), s0 + (Y - 0)) 2500 [some (.ref sa), some (.ref p), some (.ref m), some (.ref (m + 12)), some (.ref (m + 13)), some (.int (nI i0)), some (.int kk), none, none, none] [] Q) → WP Γ ML_law (10, 196, c0 + X, s0 + Y) 2482 [some (.ref sa), some (.ref p), some (.ref m), some (.ref (m + 12)), some (.ref (m + 13)), some (.int (nI i0)), none, none, none, none] [.int kk] h3 Q := by
    intro X Y h3 kk e1 e2 kk3
    have mC3' := ModC.mv e1 mC
    unfold ModC at mC3'
    have hsa3 := e2.trans hsa
    refine wp_istore (n := 2484) dL_law_2482 rfl rfl rfl rfl ?_
    refine wp_aload_n (n := 2485) dL_law_2484 rfl rfl ?_
    refine wp_aload_n (n := 2486) dL_law_2485 rfl rfl ?_
    refine wp_iload (n := 2488) dL_law_2486 rfl rfl ?_
    refine wp_iconst (n := 2489) (v := nI 1) dL_law_2488 rfl (by decide) ?_
    refine wp_iadd (n := 2490) dL_law_2489 rfl ?_
    refine wp_iald (n := 2491) (i0 + 1) dL_law_2490 rfl (by repeat first | assumption | exact ax_set_self _ _ _ | exact ax_newA_self _ _ _ | refine (ax_set_ne _ _ (by omega)).trans ?_ | refine (ax_newA_ne _ _ _ (by omega)).trans ?_) (by simp only [nI_zero, nI_mul, nI_add]) (by omega) (by omega) ?_
    refine wp_aload_n (n := 2492) dL_law_2491 rfl rfl ?_
    refine wp_iload (n := 2494) dL_law_2492 rfl rfl ?_
    refine wp_iconst (n := 2495) (v := nI 2) dL_law_2494 rfl (by decide) ?_
    refine wp_iadd (n := 2496) dL_law_2495 rfl ?_
    refine wp_iald (n := 2497) (i0 + 2) dL_law_2496 rfl (by repeat first | assumption | exact ax_set_self _ _ _ | exact ax_newA_self _ _ _ | refine (ax_set_ne _ _ (by omega)).trans ?_ | refine (ax_newA_ne _ _ _ (by omega)).trans ?_) (by simp only [nI_zero, nI_mul, nI_add]) (by omega) (by omega) ?_
    refine wp_callVs (n := 2500) (rm' := (3, 65, 0, 0)) (c0 := c0) (s0 := s0) rfl dL_law_2497 rfl mlL_288 [.int (S (i0 + 1)), .int (S (i0 + 2))] rfl rfl mC3' rfl rfl rfl (Nat.le_of_ble_eq_true rfl) rfl ?_
    exact kk3
  refine wp_aload_n (n := 2466) dL_law_2465 rfl rfl ?_
  refine wp_aload_n (n := 2467) dL_law_2466 rfl rfl ?_
  refine wp_iload (n := 2469) dL_law_2467 rfl rfl ?_
  refine wp_iconst (n := 2470) (v := nI 1) dL_law_2469 rfl (by decide) ?_
  refine wp_iadd (n := 2471) dL_law_2470 rfl ?_
  refine wp_iald (n := 2472) (i0 + 1) dL_law_2471 rfl (by repeat first | assumption | exact ax_set_self _ _ _ | exact ax_newA_self _ _ _ | refine (ax_set_ne _ _ (by omega)).trans ?_ | refine (ax_newA_ne _ _ _ (by omega)).trans ?_) (by simp only [nI_zero, nI_mul, nI_add]) (by omega) (by omega) ?_
  refine wp_aload_n (n := 2473) dL_law_2472 rfl rfl ?_
  refine wp_iload (n := 2475) dL_law_2473 rfl rfl ?_
  refine wp_iconst (n := 2476) (v := nI 2) dL_law_2475 rfl (by decide) ?_
  refine wp_iadd (n := 2477) dL_law_2476 rfl ?_
  refine wp_iald (n := 2478) (i0 + 2) dL_law_2477 rfl (by repeat first | assumption | exact ax_set_self _ _ _ | exact ax_newA_self _ _ _ | refine (ax_set_ne _ _ (by omega)).trans ?_ | refine (ax_newA_ne _ _ _ (by omega)).trans ?_) (by simp only [nI_zero, nI_mul, nI_add]) (by omega) (by omega) ?_
  refine wp_aload_n (n := 2479) dL_law_2478 rfl rfl ?_
  refine wp_callSH (n := 2482) (rm' := (8, 138, 1, 6)) (c0 := c0) (s0 := s0) (C := 20) (S := 4409) rfl dL_law_2479 rfl mwL_286 [.ref p, .int (S (i0 + 1)), .int (S (i0 + 2)), .ref (m + 12)] rfl rfl rfl rfl (Nat.le_of_ble_eq_true rfl) rfl ?_
  refine s_L_busiest hF' (by omega) ?_
  refine s_X9_busiest hF hL0 (by omega) (by omega) (fun c1 n1 hn1 => ?_) (fun q1 q2 => ?_)
  · refine Or.inl ⟨rfl, rfl, ?_⟩
    show WP Γ _ _ _ _ _ _ _
    have B : Bet p m h h _ := Bet.n (p := p) ho hn1
    have c1 := decide_eq_false c1
    refine MC _ _ _ _ (B.1 _ (by omega)) (B.1 _ (by omega)) ?_
    refine s_X10_busiest (ModC.mv (B.1 _ (by omega)) mC) ((B.1 _ (by omega)).trans mR) hr0 hI0 (by omega) (by omega) (fun d1 h2 fr2 m2 => ?_) (fun q3 q4 h2 fr2 m2 => ?_)
    · show WP Γ _ _ _ _ _ _ _
      exact TE _ _ h2 _ _ (by decide) (fin_q hA hs0 hM0 hP0 c10 hm B fr2 ⟨_, _, _, _, _, _, m2⟩) ⟨_, _, _, _, _, _, _, m2⟩
    · have d1 : decide (0 ≤ (S (i0 + 1)) ∧ (S (i0 + 1)) ≤ (S (i0 + 2))) = true := decide_eq_true ⟨q3, q4⟩
      exact absurd (c1.symm.trans d1) (by decide)
  · refine ⟨fo, o1, fun fo1 hv => ?_⟩
    show WP Γ _ _ _ _ _ _ _
    have B : Bet p m h h _ := Bet.o fo1 ho hm (fun _ _ => rfl)
    have c1 : decide (0 ≤ (S (i0 + 1)) ∧ (S (i0 + 1)) ≤ (S (i0 + 2))) = true := decide_eq_true ⟨q1, q2⟩
    refine MC _ _ _ _ (B.1 _ (by omega)) (B.1 _ (by omega)) ?_
    refine s_X10_busiest (ModC.mv (B.1 _ (by omega)) mC) ((B.1 _ (by omega)).trans mR) hr0 hI0 (by omega) (by omega) (fun d1 h2 fr2 m2 => ?_) (fun q3 q4 h2 fr2 m2 => ?_)
    · exact absurd (c1.symm.trans d1) (by decide)
    · have d1 : decide (0 ≤ (S (i0 + 1)) ∧ (S (i0 + 1)) ≤ (S (i0 + 2))) = true := decide_eq_true ⟨q3, q4⟩
      show WP Γ _ _ _ _ _ _ _
      exact TO _ _ h2 _ fo1 (fin_q hA hs0 hM0 hP0 c10 hm B fr2 ⟨_, _, _, _, _, _, m2⟩) ⟨_, _, _, _, _, _, _, m2⟩ ((fr2.2 _ (by omega)).trans (ax_set_self _ _ _)) hv
theorem cs_auditSet (hA : Γ.2.1 ≤ p) (hs : ScrP Γ h sa N S) (ho : OutP h m) (c1 : ClsP h p m b D er bs len f (mkK np qu ra re le ln nb pl tm ne rw bk nh hw nc cw t y) KS) (hP : PurP len f (mkK np qu ra re le ln nb pl tm ne rw bk nh hw nc cw t y) KS) (hM : ModP h m er bs len f (mkK np qu ra re le ln nb pl tm ne rw bk nh hw nc cw t y) KS) (hi : i0 + 5 ≤ N) (k : ∀ h', Sim Γ h' p m sa N S → WP Γ ML_law (10, 196, c0, s0) 3329 [some (.ref sa), some (.ref p), some (.ref m), some (.ref (m + 12)), some (.ref (m + 13)), some (.int (nI i0)), none, none, none, none] [] h' Q) : WP Γ ML_law (10, 196, c0 + 20, s0 + 4409) 3069 [some (.ref sa), some (.ref p), some (.ref m), some (.ref (m + 12)), some (.ref (m + 13)), some (.int (nI i0)), none, none, none, none] [] h Q := by
  have hs0 := hs
  have c10 := c1
  have hP0 := hP
  have hM0 := hM
  obtain ⟨hsa, hsl, hN, hfree⟩ := hs
  obtain ⟨⟨fo, o1⟩, fd, o2⟩ := ho
  obtain ⟨hF, hT, hR3, hBat, hSna, ⟨pk, hL⟩, hX, hbD, hm, hz, hsn, hap⟩ := c1
  obtain ⟨hlen, hI, hIS⟩ := hP
  obtain ⟨⟨th, at', bg, e9, ea, cm, mC⟩, ⟨R, mR, hr⟩, ⟨R2, mR2⟩, ⟨R3, mR3⟩, ⟨RE, mE, hre⟩, ⟨RA, mRA⟩, ⟨mpk, mP⟩, ⟨B, mB, hB⟩, ⟨CM, mK⟩, CC, CE, SV, mCC, mCE, mSV, hsv, hsr⟩ := hM
  have hI0 : Inv np qu ra re le ln nb pl tm ne rw bk nh hw nc cw t y := hI
  have hr0 : RowR R np qu ra re le ln nb pl tm ne rw bk nh hw nc cw t y := hr
  have hL0 : LedP h b np qu ra re le ln nb pl tm ne rw bk nh hw nc cw t y pk := hL
  have hre0 : ∀ j, j < np → RE j = re j := hre
  obtain ⟨⟨s1, s2, s3, s4, s5, s6, s7, s8, tn, s9, s10⟩, IM, IP, IJ, IR, IC⟩ := hI0
  have hI0 : Inv np qu ra re le ln nb pl tm ne rw bk nh hw nc cw t y := hI
  have hF' := hF
  unfold FacC at hF'
  have ho : OutP h m := ⟨⟨fo, o1⟩, fd, o2⟩
  have TE : ∀ (X Y : Nat) (h2 : AH) (kk : Int32) (v9 : Int32), ¬ kk = 0 → Sim Γ h2 p m sa N S → (∃ tl at' bg e9 ea lr cm, ModC h2 m (m + 1) kk tl at' bg e9 ea lr cm) → WP Γ ML_law (10, 196, c0 + X, s0 + Y) 3104 [some (.ref sa), some (.ref p), some (.ref m), some (.ref (m + 12)), some (.ref (m + 13)), some (.int (nI i0)), some (.int kk), none, none, none] [.int v9] h2 Q := by
    intro X Y h2 kk v9 hk hsim hm2
    obtain ⟨tl2, at2, bg2, e2, ea2, lr2, cm2, m2⟩ := hm2
    have m20 := m2
    unfold ModC at m2
    refine wp_istore (n := 3106) dL_law_3104 rfl rfl rfl rfl ?_
    refine wp_aload_n (n := 3107) dL_law_3106 rfl rfl ?_
    refine wp_callVs (n := 3110) (rm' := (0, 0, 0, 0)) (c0 := c0) (s0 := s0) rfl dL_law_3107 rfl mlL_156 [] rfl rfl m2 rfl rfl rfl (Nat.le_of_ble_eq_true rfl) rfl ?_
    refine s_X10_thrown m20 ?_
    show WP Γ _ _ _ _ _ _ _
    refine wp_iload (n := 3112) dL_law_3110 rfl rfl ?_
    refine wp_icmp_eq (t := 3117) (n := 3115) dL_law_3112 (by decide) rfl (fun hc => ?_) (fun hc => ?_)
    · refine wp_iload (n := 3119) dL_law_3117 rfl rfl ?_
      refine wp_if_ne (t := 3134) (n := 3122) dL_law_3119 (by decide) rfl (fun hq => ?_) (fun hq => ?_)
      · refine wp_goto (t := 3329) dL_law_3134 (by decide) ?_
        refine wp_lo (lo' := [some (.ref sa), some (.ref p), some (.ref m), some (.ref (m + 12)), some (.ref (m + 13)), some (.int (nI i0)), none, none, none, none]) (fun k v hk => ?_) ?_
        · match k, hk with
          | 0, hk => exact hk
          | 1, hk => exact hk
          | 2, hk => exact hk
          | 3, hk => exact hk
          | 4, hk => exact hk
          | 5, hk => exact hk
          | 6, hk => exact absurd hk (by simp [ax_gl])
          | 7, hk => exact absurd hk (by simp [ax_gl])
          | 8, hk => exact absurd hk (by simp [ax_gl])
          | 9, hk => exact absurd hk (by simp [ax_gl])
          | k + 10, hk => exact absurd hk (by simp [ax_gl])
        exact wp_big (rm := (10, 196, c0, s0)) (Nat.le_refl _) (Nat.le_refl _) (Nat.le_add_right _ _) (Nat.le_add_right _ _) (k h2 hsim)
      · exact absurd hq hk
    · exact absurd rfl hc
  have TO : ∀ (X Y : Nat) (h2 : AH) (r : Int32) (fo2 : Nat → Int64), Sim Γ h2 p m sa N S → (∃ tl at' bg e9 ea lr cm, ModC h2 m (m + 1) 0 tl at' bg e9 ea lr cm) → h2.2 (m + 12) = some (.inl (.long, 1, .inr (.inl fo2))) → fo2 0 = r.toInt64 → WP Γ ML_law (10, 196, c0 + X, s0 + Y) 3104 [some (.ref sa), some (.ref p), some (.ref m), some (.ref (m + 12)), some (.ref (m + 13)), some (.int (nI i0)), some (.int 0), none, none, none] [.int r] h2 Q := by
    intro X Y h2 r fo2 hsim hm2 ho2 hv2
    obtain ⟨tl2, at2, bg2, e2, ea2, lr2, cm2, m2⟩ := hm2
    have m20 := m2
    unfold ModC at m2
    have fin : ∀ l7 : Option Value, WP Γ ML_law (10, 196, c0 + (X - 0), s0 + (Y - 0)) 3134 [some (.ref sa), some (.ref p), some (.ref m), some (.ref (m + 12)), some (.ref (m + 13)), some (.int (nI i0)), some (.int 0), l7, none, none] [] h2 Q := by
      intro l7
      refine wp_goto (t := 3329) dL_law_3134 (by decide) ?_
      refine wp_lo (lo' := [some (.ref sa), some (.ref p), some (.ref m), some (.ref (m + 12)), some (.ref (m + 13)), some (.int (nI i0)), none, none, none, none]) (fun k v hk => ?_) ?_
      · match k, hk with
        | 0, hk => exact hk
        | 1, hk => exact hk
        | 2, hk => exact hk
        | 3, hk => exact hk
        | 4, hk => exact hk
        | 5, hk => exact hk
        | 6, hk => exact absurd hk (by simp [ax_gl])
        | 7, hk => exact absurd hk (by simp [ax_gl])
        | 8, hk => exact absurd hk (by simp [ax_gl])
        | 9, hk => exact absurd hk (by simp [ax_gl])
        | k + 10, hk => exact absurd hk (by simp [ax_gl])
      exact wp_big (rm := (10, 196, c0, s0)) (Nat.le_refl _) (Nat.le_refl _) (Nat.le_add_right _ _) (Nat.le_add_right _ _) (k h2 hsim)
    refine wp_istore (n := 3106) dL_law_3104 rfl rfl rfl rfl ?_
    refine wp_aload_n (n := 3107) dL_law_3106 rfl rfl ?_
    refine wp_callVs (n := 3110) (rm' := (0, 0, 0, 0)) (c0 := c0) (s0 := s0) rfl dL_law_3107 rfl mlL_156 [] rfl rfl m2 rfl rfl rfl (Nat.le_of_ble_eq_true rfl) rfl ?_
    refine s_X10_thrown m20 ?_
    show WP Γ _ _ _ _ _ _ _
    refine wp_iload (n := 3112) dL_law_3110 rfl rfl ?_
    refine wp_icmp_eq (t := 3117) (n := 3115) dL_law_3112 (by decide) rfl (fun hc => ?_) (fun hc => ?_)
    · refine wp_iload (n := 3119) dL_law_3117 rfl rfl ?_
      refine wp_if_ne (t := 3134) (n := 3122) dL_law_3119 (by decide) rfl (fun hq => ?_) (fun hq => ?_)
      · exact absurd rfl hq
      · refine wp_aload_n (n := 3123) dL_law_3122 rfl rfl ?_
        refine wp_iconst (n := 3124) (v := 0) dL_law_3123 rfl (by decide) ?_
        refine wp_lald (n := 3125) 0 dL_law_3124 rfl ho2 rfl (by omega) (by omega) ?_
        rw [hv2]
        refine wp_iload (n := 3127) dL_law_3125 rfl rfl ?_
        refine wp_i2l (n := 3128) dL_law_3127 rfl ?_
        refine wp_lcmp (n := 3129) dL_law_3128 rfl ?_
        rw [lg_self]
        refine wp_if_eq (t := 3134) (n := 3132) dL_law_3129 (by decide) rfl (fun hu => ?_) (fun hu => ?_)
        · exact fin _
        · exact absurd rfl hu
    · exact absurd rfl hc
  have MC : ∀ (X Y : Nat) (h3 : AH) (kk : Int32), h3.2 m = h.2 m → h3.2 sa = h.2 sa → WP Γ MX10_auditSet (3, 71, 0, 0) 0 [some (.ref m), some (.int (S (i0 + 1))), some (.int (S (i0 + 2))), none, none] [] h3 (ax_K Γ ML_law (10, 196, c0 + (X - 0), s0 + (Y - 0)) 3104 [some (.ref sa), some (.ref p), some (.ref m), some (.ref (m + 12)), some (.ref (m + 13)), some (.int (nI i0)), some (.int kk), none, none, none] [] Q) → WP Γ ML_law (10, 196, c0 + X, s0 + Y) 3086 [some (.ref sa), some (.ref p), some (.ref m), some (.ref (m + 12)), some (.ref (m + 13)), some (.int (nI i0)), none, none, none, none] [.int kk] h3 Q := by
    intro X Y h3 kk e1 e2 kk3
    have mC3' := ModC.mv e1 mC
    unfold ModC at mC3'
    have hsa3 := e2.trans hsa
    refine wp_istore (n := 3088) dL_law_3086 rfl rfl rfl rfl ?_
    refine wp_aload_n (n := 3089) dL_law_3088 rfl rfl ?_
    refine wp_aload_n (n := 3090) dL_law_3089 rfl rfl ?_
    refine wp_iload (n := 3092) dL_law_3090 rfl rfl ?_
    refine wp_iconst (n := 3093) (v := nI 1) dL_law_3092 rfl (by decide) ?_
    refine wp_iadd (n := 3094) dL_law_3093 rfl ?_
    refine wp_iald (n := 3095) (i0 + 1) dL_law_3094 rfl (by repeat first | assumption | exact ax_set_self _ _ _ | exact ax_newA_self _ _ _ | refine (ax_set_ne _ _ (by omega)).trans ?_ | refine (ax_newA_ne _ _ _ (by omega)).trans ?_) (by simp only [nI_zero, nI_mul, nI_add]) (by omega) (by omega) ?_
    refine wp_aload_n (n := 3096) dL_law_3095 rfl rfl ?_
    refine wp_iload (n := 3098) dL_law_3096 rfl rfl ?_
    refine wp_iconst (n := 3099) (v := nI 2) dL_law_3098 rfl (by decide) ?_
    refine wp_iadd (n := 3100) dL_law_3099 rfl ?_
    refine wp_iald (n := 3101) (i0 + 2) dL_law_3100 rfl (by repeat first | assumption | exact ax_set_self _ _ _ | exact ax_newA_self _ _ _ | refine (ax_set_ne _ _ (by omega)).trans ?_ | refine (ax_newA_ne _ _ _ (by omega)).trans ?_) (by simp only [nI_zero, nI_mul, nI_add]) (by omega) (by omega) ?_
    refine wp_callVs (n := 3104) (rm' := (3, 71, 0, 0)) (c0 := c0) (s0 := s0) rfl dL_law_3101 rfl mlL_335 [.int (S (i0 + 1)), .int (S (i0 + 2))] rfl rfl mC3' rfl rfl rfl (Nat.le_of_ble_eq_true rfl) rfl ?_
    exact kk3
  refine wp_aload_n (n := 3070) dL_law_3069 rfl rfl ?_
  refine wp_aload_n (n := 3071) dL_law_3070 rfl rfl ?_
  refine wp_iload (n := 3073) dL_law_3071 rfl rfl ?_
  refine wp_iconst (n := 3074) (v := nI 1) dL_law_3073 rfl (by decide) ?_
  refine wp_iadd (n := 3075) dL_law_3074 rfl ?_
  refine wp_iald (n := 3076) (i0 + 1) dL_law_3075 rfl (by repeat first | assumption | exact ax_set_self _ _ _ | exact ax_newA_self _ _ _ | refine (ax_set_ne _ _ (by omega)).trans ?_ | refine (ax_newA_ne _ _ _ (by omega)).trans ?_) (by simp only [nI_zero, nI_mul, nI_add]) (by omega) (by omega) ?_
  refine wp_aload_n (n := 3077) dL_law_3076 rfl rfl ?_
  refine wp_iload (n := 3079) dL_law_3077 rfl rfl ?_
  refine wp_iconst (n := 3080) (v := nI 2) dL_law_3079 rfl (by decide) ?_
  refine wp_iadd (n := 3081) dL_law_3080 rfl ?_
  refine wp_iald (n := 3082) (i0 + 2) dL_law_3081 rfl (by repeat first | assumption | exact ax_set_self _ _ _ | exact ax_newA_self _ _ _ | refine (ax_set_ne _ _ (by omega)).trans ?_ | refine (ax_newA_ne _ _ _ (by omega)).trans ?_) (by simp only [nI_zero, nI_mul, nI_add]) (by omega) (by omega) ?_
  refine wp_aload_n (n := 3083) dL_law_3082 rfl rfl ?_
  refine wp_callSH (n := 3086) (rm' := (8, 141, 1, 6)) (c0 := c0) (s0 := s0) (C := 20) (S := 4409) rfl dL_law_3083 rfl mwL_333 [.ref p, .int (S (i0 + 1)), .int (S (i0 + 2)), .ref (m + 12)] rfl rfl rfl rfl (Nat.le_of_ble_eq_true rfl) rfl ?_
  refine s_L_auditSet hF' (by omega) ?_
  refine s_X9_auditSet hF hL0 (by omega) (by omega) (by omega) (fun c hc => by obtain ⟨u, a, b⟩ := IC.1 c hc; exact ⟨u, b, a⟩) IC.2 (fun c1 n1 hn1 => ?_) (fun i j m1 m2' hij hj ei ej em1 em2 hm12 hme => ?_)
  · refine Or.inl ⟨rfl, rfl, ?_⟩
    show WP Γ _ _ _ _ _ _ _
    have B : Bet p m h h _ := Bet.n (p := p) ho hn1
    have c1 := decide_eq_false c1
    refine MC _ _ _ _ (B.1 _ (by omega)) (B.1 _ (by omega)) ?_
    refine s_X10_auditSet (ModC.mv (B.1 _ (by omega)) mC) ((B.1 _ (by omega)).trans mR) hr0 hI0 (by omega) (by omega) (fun d1 h2 fr2 m2 => ?_) (fun i2 j2 hij2 hj2 ei2 ej2 m3 m4 em3 em4 hm34 hme4 h2 fr2 m2 => ?_)
    · show WP Γ _ _ _ _ _ _ _
      exact TE _ _ h2 _ _ (by decide) (fin_q hA hs0 hM0 hP0 c10 hm B fr2 ⟨_, _, _, _, _, _, m2⟩) ⟨_, _, _, _, _, _, _, m2⟩
    · have d1 : decide (0 ≤ (S (i0 + 1)) ∧ (S (i0 + 1)) ≤ (S (i0 + 2)) ∧ (S (i0 + 2)) < nI nc) = true := decide_eq_true (by rw [ei2, ej2]; exact ⟨nI_ge0 _ (by omega), (nI_le9 (by omega) (by omega)).mpr hij2, (nI_lt9 (by omega) (by omega)).mpr hj2⟩)
      exact absurd (c1.symm.trans d1) (by decide)
  · refine ⟨fo, o1, fun fo1 hv => ?_⟩
    show WP Γ _ _ _ _ _ _ _
    have B : Bet p m h h _ := Bet.o fo1 ho hm (fun _ _ => rfl)
    have c1 : decide (0 ≤ (S (i0 + 1)) ∧ (S (i0 + 1)) ≤ (S (i0 + 2)) ∧ (S (i0 + 2)) < nI nc) = true := decide_eq_true (by rw [ei, ej]; exact ⟨nI_ge0 _ (by omega), (nI_le9 (by omega) (by omega)).mpr hij, (nI_lt9 (by omega) (by omega)).mpr hj⟩)
    refine MC _ _ _ _ (B.1 _ (by omega)) (B.1 _ (by omega)) ?_
    refine s_X10_auditSet (ModC.mv (B.1 _ (by omega)) mC) ((B.1 _ (by omega)).trans mR) hr0 hI0 (by omega) (by omega) (fun d1 h2 fr2 m2 => ?_) (fun i2 j2 hij2 hj2 ei2 ej2 m3 m4 em3 em4 hm34 hme4 h2 fr2 m2 => ?_)
    · exact absurd (c1.symm.trans d1) (by decide)
    · have d1 : decide (0 ≤ (S (i0 + 1)) ∧ (S (i0 + 1)) ≤ (S (i0 + 2)) ∧ (S (i0 + 2)) < nI nc) = true := decide_eq_true (by rw [ei2, ej2]; exact ⟨nI_ge0 _ (by omega), (nI_le9 (by omega) (by omega)).mpr hij2, (nI_lt9 (by omega) (by omega)).mpr hj2⟩)
      show WP Γ _ _ _ _ _ _ _
      obtain rfl : i = i2 := (nI_eq9 (by omega) (by omega)).mp (ei.symm.trans ei2)
      obtain rfl : j = j2 := (nI_eq9 (by omega) (by omega)).mp (ej.symm.trans ej2)
      obtain rfl : m1 = m3 := (nI_eq9 (by omega) (by omega)).mp (em1.symm.trans em3)
      obtain rfl : m2' = m4 := (nI_eq9 (by omega) (by omega)).mp (em2.symm.trans em4)
      exact TO _ _ h2 _ fo1 (fin_q hA hs0 hM0 hP0 c10 hm B fr2 ⟨_, _, _, _, _, _, m2⟩) ⟨_, _, _, _, _, _, _, m2⟩ ((fr2.2 _ (by omega)).trans (ax_set_self _ _ _)) hv
theorem cs_auditOf (hA : Γ.2.1 ≤ p) (hs : ScrP Γ h sa N S) (ho : OutP h m) (c1 : ClsP h p m b D er bs len f (mkK np qu ra re le ln nb pl tm ne rw bk nh hw nc cw t y) KS) (hP : PurP len f (mkK np qu ra re le ln nb pl tm ne rw bk nh hw nc cw t y) KS) (hM : ModP h m er bs len f (mkK np qu ra re le ln nb pl tm ne rw bk nh hw nc cw t y) KS) (hi : i0 + 5 ≤ N) (k : ∀ h', Sim Γ h' p m sa N S → WP Γ ML_law (10, 196, c0, s0) 3329 [some (.ref sa), some (.ref p), some (.ref m), some (.ref (m + 12)), some (.ref (m + 13)), some (.int (nI i0)), none, none, none, none] [] h' Q) : WP Γ ML_law (10, 196, c0 + 20, s0 + 4409) 3137 [some (.ref sa), some (.ref p), some (.ref m), some (.ref (m + 12)), some (.ref (m + 13)), some (.int (nI i0)), none, none, none, none] [] h Q := by
  have hs0 := hs
  have c10 := c1
  have hP0 := hP
  have hM0 := hM
  obtain ⟨hsa, hsl, hN, hfree⟩ := hs
  obtain ⟨⟨fo, o1⟩, fd, o2⟩ := ho
  obtain ⟨hF, hT, hR3, hBat, hSna, ⟨pk, hL⟩, hX, hbD, hm, hz, hsn, hap⟩ := c1
  obtain ⟨hlen, hI, hIS⟩ := hP
  obtain ⟨⟨th, at', bg, e9, ea, cm, mC⟩, ⟨R, mR, hr⟩, ⟨R2, mR2⟩, ⟨R3, mR3⟩, ⟨RE, mE, hre⟩, ⟨RA, mRA⟩, ⟨mpk, mP⟩, ⟨B, mB, hB⟩, ⟨CM, mK⟩, CC, CE, SV, mCC, mCE, mSV, hsv, hsr⟩ := hM
  have hI0 : Inv np qu ra re le ln nb pl tm ne rw bk nh hw nc cw t y := hI
  have hr0 : RowR R np qu ra re le ln nb pl tm ne rw bk nh hw nc cw t y := hr
  have hL0 : LedP h b np qu ra re le ln nb pl tm ne rw bk nh hw nc cw t y pk := hL
  have hre0 : ∀ j, j < np → RE j = re j := hre
  obtain ⟨⟨s1, s2, s3, s4, s5, s6, s7, s8, tn, s9, s10⟩, IM, IP, IJ, IR, IC⟩ := hI0
  have hI0 : Inv np qu ra re le ln nb pl tm ne rw bk nh hw nc cw t y := hI
  have hF' := hF
  unfold FacC at hF'
  have ho : OutP h m := ⟨⟨fo, o1⟩, fd, o2⟩
  have TE : ∀ (X Y : Nat) (h2 : AH) (kk : Int32) (v9 : Int32), ¬ kk = 0 → Sim Γ h2 p m sa N S → (∃ tl at' bg e9 ea lr cm, ModC h2 m (m + 1) kk tl at' bg e9 ea lr cm) → WP Γ ML_law (10, 196, c0 + X, s0 + Y) 3184 [some (.ref sa), some (.ref p), some (.ref m), some (.ref (m + 12)), some (.ref (m + 13)), some (.int (nI i0)), some (.int kk), none, none, none] [.int v9] h2 Q := by
    intro X Y h2 kk v9 hk hsim hm2
    obtain ⟨tl2, at2, bg2, e2, ea2, lr2, cm2, m2⟩ := hm2
    have m20 := m2
    unfold ModC at m2
    refine wp_istore (n := 3186) dL_law_3184 rfl rfl rfl rfl ?_
    refine wp_aload_n (n := 3187) dL_law_3186 rfl rfl ?_
    refine wp_callVs (n := 3190) (rm' := (0, 0, 0, 0)) (c0 := c0) (s0 := s0) rfl dL_law_3187 rfl mlL_156 [] rfl rfl m2 rfl rfl rfl (Nat.le_of_ble_eq_true rfl) rfl ?_
    refine s_X10_thrown m20 ?_
    show WP Γ _ _ _ _ _ _ _
    refine wp_iload (n := 3192) dL_law_3190 rfl rfl ?_
    refine wp_icmp_eq (t := 3197) (n := 3195) dL_law_3192 (by decide) rfl (fun hc => ?_) (fun hc => ?_)
    · refine wp_iload (n := 3199) dL_law_3197 rfl rfl ?_
      refine wp_if_ne (t := 3214) (n := 3202) dL_law_3199 (by decide) rfl (fun hq => ?_) (fun hq => ?_)
      · refine wp_goto (t := 3329) dL_law_3214 (by decide) ?_
        refine wp_lo (lo' := [some (.ref sa), some (.ref p), some (.ref m), some (.ref (m + 12)), some (.ref (m + 13)), some (.int (nI i0)), none, none, none, none]) (fun k v hk => ?_) ?_
        · match k, hk with
          | 0, hk => exact hk
          | 1, hk => exact hk
          | 2, hk => exact hk
          | 3, hk => exact hk
          | 4, hk => exact hk
          | 5, hk => exact hk
          | 6, hk => exact absurd hk (by simp [ax_gl])
          | 7, hk => exact absurd hk (by simp [ax_gl])
          | 8, hk => exact absurd hk (by simp [ax_gl])
          | 9, hk => exact absurd hk (by simp [ax_gl])
          | k + 10, hk => exact absurd hk (by simp [ax_gl])
        exact wp_big (rm := (10, 196, c0, s0)) (Nat.le_refl _) (Nat.le_refl _) (Nat.le_add_right _ _) (Nat.le_add_right _ _) (k h2 hsim)
      · exact absurd hq hk
    · exact absurd rfl hc
  have TO : ∀ (X Y : Nat) (h2 : AH) (r : Int32) (fo2 : Nat → Int64), Sim Γ h2 p m sa N S → (∃ tl at' bg e9 ea lr cm, ModC h2 m (m + 1) 0 tl at' bg e9 ea lr cm) → h2.2 (m + 12) = some (.inl (.long, 1, .inr (.inl fo2))) → fo2 0 = r.toInt64 → WP Γ ML_law (10, 196, c0 + X, s0 + Y) 3184 [some (.ref sa), some (.ref p), some (.ref m), some (.ref (m + 12)), some (.ref (m + 13)), some (.int (nI i0)), some (.int 0), none, none, none] [.int r] h2 Q := by
    intro X Y h2 r fo2 hsim hm2 ho2 hv2
    obtain ⟨tl2, at2, bg2, e2, ea2, lr2, cm2, m2⟩ := hm2
    have m20 := m2
    unfold ModC at m2
    have fin : ∀ l7 : Option Value, WP Γ ML_law (10, 196, c0 + (X - 0), s0 + (Y - 0)) 3214 [some (.ref sa), some (.ref p), some (.ref m), some (.ref (m + 12)), some (.ref (m + 13)), some (.int (nI i0)), some (.int 0), l7, none, none] [] h2 Q := by
      intro l7
      refine wp_goto (t := 3329) dL_law_3214 (by decide) ?_
      refine wp_lo (lo' := [some (.ref sa), some (.ref p), some (.ref m), some (.ref (m + 12)), some (.ref (m + 13)), some (.int (nI i0)), none, none, none, none]) (fun k v hk => ?_) ?_
      · match k, hk with
        | 0, hk => exact hk
        | 1, hk => exact hk
        | 2, hk => exact hk
        | 3, hk => exact hk
        | 4, hk => exact hk
        | 5, hk => exact hk
        | 6, hk => exact absurd hk (by simp [ax_gl])
        | 7, hk => exact absurd hk (by simp [ax_gl])
        | 8, hk => exact absurd hk (by simp [ax_gl])
        | 9, hk => exact absurd hk (by simp [ax_gl])
        | k + 10, hk => exact absurd hk (by simp [ax_gl])
      exact wp_big (rm := (10, 196, c0, s0)) (Nat.le_refl _) (Nat.le_refl _) (Nat.le_add_right _ _) (Nat.le_add_right _ _) (k h2 hsim)
    refine wp_istore (n := 3186) dL_law_3184 rfl rfl rfl rfl ?_
    refine wp_aload_n (n := 3187) dL_law_3186 rfl rfl ?_
    refine wp_callVs (n := 3190) (rm' := (0, 0, 0, 0)) (c0 := c0) (s0 := s0) rfl dL_law_3187 rfl mlL_156 [] rfl rfl m2 rfl rfl rfl (Nat.le_of_ble_eq_true rfl) rfl ?_
    refine s_X10_thrown m20 ?_
    show WP Γ _ _ _ _ _ _ _
    refine wp_iload (n := 3192) dL_law_3190 rfl rfl ?_
    refine wp_icmp_eq (t := 3197) (n := 3195) dL_law_3192 (by decide) rfl (fun hc => ?_) (fun hc => ?_)
    · refine wp_iload (n := 3199) dL_law_3197 rfl rfl ?_
      refine wp_if_ne (t := 3214) (n := 3202) dL_law_3199 (by decide) rfl (fun hq => ?_) (fun hq => ?_)
      · exact absurd rfl hq
      · refine wp_aload_n (n := 3203) dL_law_3202 rfl rfl ?_
        refine wp_iconst (n := 3204) (v := 0) dL_law_3203 rfl (by decide) ?_
        refine wp_lald (n := 3205) 0 dL_law_3204 rfl ho2 rfl (by omega) (by omega) ?_
        rw [hv2]
        refine wp_iload (n := 3207) dL_law_3205 rfl rfl ?_
        refine wp_i2l (n := 3208) dL_law_3207 rfl ?_
        refine wp_lcmp (n := 3209) dL_law_3208 rfl ?_
        rw [lg_self]
        refine wp_if_eq (t := 3214) (n := 3212) dL_law_3209 (by decide) rfl (fun hu => ?_) (fun hu => ?_)
        · exact fin _
        · exact absurd rfl hu
    · exact absurd rfl hc
  have MC : ∀ (X Y : Nat) (h3 : AH) (kk : Int32), h3.2 m = h.2 m → h3.2 sa = h.2 sa → WP Γ MX10_auditOf (3, 71, 0, 0) 0 [some (.ref m), some (.int (S (i0 + 1))), some (.int (S (i0 + 2))), some (.int (S (i0 + 3)))] [] h3 (ax_K Γ ML_law (10, 196, c0 + (X - 0), s0 + (Y - 0)) 3184 [some (.ref sa), some (.ref p), some (.ref m), some (.ref (m + 12)), some (.ref (m + 13)), some (.int (nI i0)), some (.int kk), none, none, none] [] Q) → WP Γ ML_law (10, 196, c0 + X, s0 + Y) 3160 [some (.ref sa), some (.ref p), some (.ref m), some (.ref (m + 12)), some (.ref (m + 13)), some (.int (nI i0)), none, none, none, none] [.int kk] h3 Q := by
    intro X Y h3 kk e1 e2 kk3
    have mC3' := ModC.mv e1 mC
    unfold ModC at mC3'
    have hsa3 := e2.trans hsa
    refine wp_istore (n := 3162) dL_law_3160 rfl rfl rfl rfl ?_
    refine wp_aload_n (n := 3163) dL_law_3162 rfl rfl ?_
    refine wp_aload_n (n := 3164) dL_law_3163 rfl rfl ?_
    refine wp_iload (n := 3166) dL_law_3164 rfl rfl ?_
    refine wp_iconst (n := 3167) (v := nI 1) dL_law_3166 rfl (by decide) ?_
    refine wp_iadd (n := 3168) dL_law_3167 rfl ?_
    refine wp_iald (n := 3169) (i0 + 1) dL_law_3168 rfl (by repeat first | assumption | exact ax_set_self _ _ _ | exact ax_newA_self _ _ _ | refine (ax_set_ne _ _ (by omega)).trans ?_ | refine (ax_newA_ne _ _ _ (by omega)).trans ?_) (by simp only [nI_zero, nI_mul, nI_add]) (by omega) (by omega) ?_
    refine wp_aload_n (n := 3170) dL_law_3169 rfl rfl ?_
    refine wp_iload (n := 3172) dL_law_3170 rfl rfl ?_
    refine wp_iconst (n := 3173) (v := nI 2) dL_law_3172 rfl (by decide) ?_
    refine wp_iadd (n := 3174) dL_law_3173 rfl ?_
    refine wp_iald (n := 3175) (i0 + 2) dL_law_3174 rfl (by repeat first | assumption | exact ax_set_self _ _ _ | exact ax_newA_self _ _ _ | refine (ax_set_ne _ _ (by omega)).trans ?_ | refine (ax_newA_ne _ _ _ (by omega)).trans ?_) (by simp only [nI_zero, nI_mul, nI_add]) (by omega) (by omega) ?_
    refine wp_aload_n (n := 3176) dL_law_3175 rfl rfl ?_
    refine wp_iload (n := 3178) dL_law_3176 rfl rfl ?_
    refine wp_iconst (n := 3179) (v := nI 3) dL_law_3178 rfl (by decide) ?_
    refine wp_iadd (n := 3180) dL_law_3179 rfl ?_
    refine wp_iald (n := 3181) (i0 + 3) dL_law_3180 rfl (by repeat first | assumption | exact ax_set_self _ _ _ | exact ax_newA_self _ _ _ | refine (ax_set_ne _ _ (by omega)).trans ?_ | refine (ax_newA_ne _ _ _ (by omega)).trans ?_) (by simp only [nI_zero, nI_mul, nI_add]) (by omega) (by omega) ?_
    refine wp_callVs (n := 3184) (rm' := (3, 71, 0, 0)) (c0 := c0) (s0 := s0) rfl dL_law_3181 rfl mlL_338 [.int (S (i0 + 1)), .int (S (i0 + 2)), .int (S (i0 + 3))] rfl rfl mC3' rfl rfl rfl (Nat.le_of_ble_eq_true rfl) rfl ?_
    exact kk3
  refine wp_aload_n (n := 3138) dL_law_3137 rfl rfl ?_
  refine wp_aload_n (n := 3139) dL_law_3138 rfl rfl ?_
  refine wp_iload (n := 3141) dL_law_3139 rfl rfl ?_
  refine wp_iconst (n := 3142) (v := nI 1) dL_law_3141 rfl (by decide) ?_
  refine wp_iadd (n := 3143) dL_law_3142 rfl ?_
  refine wp_iald (n := 3144) (i0 + 1) dL_law_3143 rfl (by repeat first | assumption | exact ax_set_self _ _ _ | exact ax_newA_self _ _ _ | refine (ax_set_ne _ _ (by omega)).trans ?_ | refine (ax_newA_ne _ _ _ (by omega)).trans ?_) (by simp only [nI_zero, nI_mul, nI_add]) (by omega) (by omega) ?_
  refine wp_aload_n (n := 3145) dL_law_3144 rfl rfl ?_
  refine wp_iload (n := 3147) dL_law_3145 rfl rfl ?_
  refine wp_iconst (n := 3148) (v := nI 2) dL_law_3147 rfl (by decide) ?_
  refine wp_iadd (n := 3149) dL_law_3148 rfl ?_
  refine wp_iald (n := 3150) (i0 + 2) dL_law_3149 rfl (by repeat first | assumption | exact ax_set_self _ _ _ | exact ax_newA_self _ _ _ | refine (ax_set_ne _ _ (by omega)).trans ?_ | refine (ax_newA_ne _ _ _ (by omega)).trans ?_) (by simp only [nI_zero, nI_mul, nI_add]) (by omega) (by omega) ?_
  refine wp_aload_n (n := 3151) dL_law_3150 rfl rfl ?_
  refine wp_iload (n := 3153) dL_law_3151 rfl rfl ?_
  refine wp_iconst (n := 3154) (v := nI 3) dL_law_3153 rfl (by decide) ?_
  refine wp_iadd (n := 3155) dL_law_3154 rfl ?_
  refine wp_iald (n := 3156) (i0 + 3) dL_law_3155 rfl (by repeat first | assumption | exact ax_set_self _ _ _ | exact ax_newA_self _ _ _ | refine (ax_set_ne _ _ (by omega)).trans ?_ | refine (ax_newA_ne _ _ _ (by omega)).trans ?_) (by simp only [nI_zero, nI_mul, nI_add]) (by omega) (by omega) ?_
  refine wp_aload_n (n := 3157) dL_law_3156 rfl rfl ?_
  refine wp_callSH (n := 3160) (rm' := (8, 140, 2, 12)) (c0 := c0) (s0 := s0) (C := 20) (S := 4409) rfl dL_law_3157 rfl mwL_336 [.ref p, .int (S (i0 + 1)), .int (S (i0 + 2)), .int (S (i0 + 3)), .ref (m + 12)] rfl rfl rfl rfl (Nat.le_of_ble_eq_true rfl) rfl ?_
  refine s_L_auditOf hF' (by omega) ?_
  refine s_X9_auditOf hF hL0 (by omega) (by omega) (by omega) (fun c hc => by obtain ⟨u, a, b⟩ := IC.1 c hc; exact ⟨u, b, a⟩) IC.2 (fun c1 n1 hn1 => ?_) (fun c1 c2 n1 hn1 => ?_) (fun i j m1 m2' q hij hj ei ej em1 em2 hm12 hme hq eq => ?_)
  · refine Or.inr (Or.inr ⟨rfl, Or.inl ⟨rfl, ?_⟩⟩)
    show WP Γ _ _ _ _ _ _ _
    have B : Bet p m h h _ := Bet.n (p := p) ho hn1
    refine MC _ _ _ _ (B.1 _ (by omega)) (B.1 _ (by omega)) ?_
    refine s_X10_auditOf (ModC.mv (B.1 _ (by omega)) mC) ((B.1 _ (by omega)).trans mR) hr0 hI0 (by omega) (by omega) (fun d1 h2 fr2 m2 => ?_) (fun d1 d2 h2 fr2 m2 => ?_) (fun q2 hq2 eq2 i2 j2 hij2 hj2 ei2 ej2 m3 m4 em3 em4 hm34 hme4 h2 fr2 m2 => ?_)
    · show WP Γ _ _ _ _ _ _ _
      exact TE _ _ h2 _ _ (by decide) (fin_q hA hs0 hM0 hP0 c10 hm B fr2 ⟨_, _, _, _, _, _, m2⟩) ⟨_, _, _, _, _, _, _, m2⟩
    · exact absurd (c1.symm.trans d1) (by decide)
    · have d1 : inN (S (i0 + 3)) np = true := by rw [eq2]; exact inN_of hq2 (by omega)
      have d2 : decide (0 ≤ (S (i0 + 1)) ∧ (S (i0 + 1)) ≤ (S (i0 + 2)) ∧ (S (i0 + 2)) < nI nc) = true := decide_eq_true (by rw [ei2, ej2]; exact ⟨nI_ge0 _ (by omega), (nI_le9 (by omega) (by omega)).mpr hij2, (nI_lt9 (by omega) (by omega)).mpr hj2⟩)
      exact absurd (c1.symm.trans d1) (by decide)
  · refine Or.inr (Or.inr ⟨rfl, Or.inr ⟨rfl, ?_⟩⟩)
    show WP Γ _ _ _ _ _ _ _
    have B : Bet p m h h _ := Bet.n (p := p) ho hn1
    have c2 := decide_eq_false c2
    refine MC _ _ _ _ (B.1 _ (by omega)) (B.1 _ (by omega)) ?_
    refine s_X10_auditOf (ModC.mv (B.1 _ (by omega)) mC) ((B.1 _ (by omega)).trans mR) hr0 hI0 (by omega) (by omega) (fun d1 h2 fr2 m2 => ?_) (fun d1 d2 h2 fr2 m2 => ?_) (fun q2 hq2 eq2 i2 j2 hij2 hj2 ei2 ej2 m3 m4 em3 em4 hm34 hme4 h2 fr2 m2 => ?_)
    · exact absurd (c1.symm.trans d1) (by decide)
    · show WP Γ _ _ _ _ _ _ _
      exact TE _ _ h2 _ _ (by decide) (fin_q hA hs0 hM0 hP0 c10 hm B fr2 ⟨_, _, _, _, _, _, m2⟩) ⟨_, _, _, _, _, _, _, m2⟩
    · have d1 : inN (S (i0 + 3)) np = true := by rw [eq2]; exact inN_of hq2 (by omega)
      have d2 : decide (0 ≤ (S (i0 + 1)) ∧ (S (i0 + 1)) ≤ (S (i0 + 2)) ∧ (S (i0 + 2)) < nI nc) = true := decide_eq_true (by rw [ei2, ej2]; exact ⟨nI_ge0 _ (by omega), (nI_le9 (by omega) (by omega)).mpr hij2, (nI_lt9 (by omega) (by omega)).mpr hj2⟩)
      exact absurd (c2.symm.trans d2) (by decide)
  · refine ⟨fo, o1, fun fo1 hv => ?_⟩
    show WP Γ _ _ _ _ _ _ _
    have B : Bet p m h h _ := Bet.o fo1 ho hm (fun _ _ => rfl)
    have c1 : inN (S (i0 + 3)) np = true := by rw [eq]; exact inN_of hq (by omega)
    have c2 : decide (0 ≤ (S (i0 + 1)) ∧ (S (i0 + 1)) ≤ (S (i0 + 2)) ∧ (S (i0 + 2)) < nI nc) = true := decide_eq_true (by rw [ei, ej]; exact ⟨nI_ge0 _ (by omega), (nI_le9 (by omega) (by omega)).mpr hij, (nI_lt9 (by omega) (by omega)).mpr hj⟩)
    refine MC _ _ _ _ (B.1 _ (by omega)) (B.1 _ (by omega)) ?_
    refine s_X10_auditOf (ModC.mv (B.1 _ (by omega)) mC) ((B.1 _ (by omega)).trans mR) hr0 hI0 (by omega) (by omega) (fun d1 h2 fr2 m2 => ?_) (fun d1 d2 h2 fr2 m2 => ?_) (fun q2 hq2 eq2 i2 j2 hij2 hj2 ei2 ej2 m3 m4 em3 em4 hm34 hme4 h2 fr2 m2 => ?_)
    · exact absurd (c1.symm.trans d1) (by decide)
    · exact absurd (c2.symm.trans d2) (by decide)
    · have d1 : inN (S (i0 + 3)) np = true := by rw [eq2]; exact inN_of hq2 (by omega)
      have d2 : decide (0 ≤ (S (i0 + 1)) ∧ (S (i0 + 1)) ≤ (S (i0 + 2)) ∧ (S (i0 + 2)) < nI nc) = true := decide_eq_true (by rw [ei2, ej2]; exact ⟨nI_ge0 _ (by omega), (nI_le9 (by omega) (by omega)).mpr hij2, (nI_lt9 (by omega) (by omega)).mpr hj2⟩)
      show WP Γ _ _ _ _ _ _ _
      obtain rfl : i = i2 := (nI_eq9 (by omega) (by omega)).mp (ei.symm.trans ei2)
      obtain rfl : j = j2 := (nI_eq9 (by omega) (by omega)).mp (ej.symm.trans ej2)
      obtain rfl : q = q2 := (nI_eq9 (by omega) (by omega)).mp (eq.symm.trans eq2)
      obtain rfl : m1 = m3 := (nI_eq9 (by omega) (by omega)).mp (em1.symm.trans em3)
      obtain rfl : m2' = m4 := (nI_eq9 (by omega) (by omega)).mp (em2.symm.trans em4)
      exact TO _ _ h2 _ fo1 (fin_q hA hs0 hM0 hP0 c10 hm B fr2 ⟨_, _, _, _, _, _, m2⟩) ⟨_, _, _, _, _, _, _, m2⟩ ((fr2.2 _ (by omega)).trans (ax_set_self _ _ _)) hv
end
