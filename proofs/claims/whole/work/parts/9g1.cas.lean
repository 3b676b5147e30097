/-! ===== the law: cases ===== -/
section
variable {Γ : GE} {h : AH} {Q : PO} {p m b D sa N len i0 c0 s0 np nb ne nh nc y : Nat} {er : Int32} {bs S : FI} {f : Nat → Option Nat} {KS : Nat → KL} {qu ra le ln pl tm rw hw cw : FI} {re : Nat → UInt32} {bk : Nat → Int64} {t : Int32}
theorem cs_balance (hA : Γ.2.1 ≤ p) (hs : ScrP Γ h sa N S) (ho : OutP h m) (c1 : ClsP h p m b D er bs len f (mkK np qu ra re le ln nb pl tm ne rw bk nh hw nc cw t y) KS) (hP : PurP len f (mkK np qu ra re le ln nb pl tm ne rw bk nh hw nc cw t y) KS) (hM : ModP h m er bs len f (mkK np qu ra re le ln nb pl tm ne rw bk nh hw nc cw t y) KS) (hi : i0 + 5 ≤ N) (k : ∀ h', Sim Γ h' p m sa N S → WP Γ ML_law (10, 196, c0, s0) 3329 [some (.ref sa), some (.ref p), some (.ref m), some (.ref (m + 12)), some (.ref (m + 13)), some (.int (nI i0)), none, none, none, none] [] h' Q) : WP Γ ML_law (10, 196, c0 + 20, s0 + 4409) 1123 [some (.ref sa), some (.ref p), some (.ref m), some (.ref (m + 12)), some (.ref (m + 13)), some (.int (nI i0)), none, none, none, none] [] h Q := by
  have hs0 := hs
  have c10 := c1
  have hP0 := hP
  have hM0 := hM
  obtain ⟨hsa, hsl, hN, hfree⟩ := hs
  obtain ⟨⟨fo, o1⟩, fd, o2⟩ := ho
  obtain ⟨hF, hT, hR3, hBat, hSna, ⟨pk, hL⟩, hX, hbD, hm, hz, hsn, hap⟩ := c1
  obtain ⟨hlen, hI, hIS⟩ := hP
  obtain ⟨⟨th, at', bg, e9, ea, cm, mC⟩, ⟨R, mR, hr⟩, ⟨R2, mR2⟩, ⟨R3, mR3⟩, ⟨RE, mE, hre⟩, ⟨RA, mRA⟩, ⟨mpk, mP⟩, ⟨B, mB, hB⟩, ⟨CM, mK⟩, CC, CE, SV, mCC, mCE, mSV, hsv, hsr⟩ := hM
  have hI0 : Inv np qu ra re le ln nb pl tm ne rw bk nh hw nc cw t y := hI
  have hr0 : RowR R np qu ra re le ln nb pl tm ne rw bk nh hw nc cw t y := hr
  have hL0 : LedP h b np qu ra re le ln nb pl tm ne rw bk nh hw nc cw t y pk := hL
  have hre0 : ∀ j, j < np → RE j = re j := hre
  obtain ⟨⟨s1, s2, s3, s4, s5, s6, s7, s8, tn, s9, s10⟩, IM, IP, IJ, IR, IC⟩ := hI0
  have hI0 : Inv np qu ra re le ln nb pl tm ne rw bk nh hw nc cw t y := hI
  have hF' := hF
  unfold FacC at hF'
  have ho : OutP h m := ⟨⟨fo, o1⟩, fd, o2⟩
  have TE : ∀ (X Y : Nat) (h2 : AH) (kk : Int32) (v9 : Int32), ¬ kk = 0 → Sim Γ h2 p m sa N S → (∃ tl at' bg e9 ea lr cm, ModC h2 m (m + 1) kk tl at' bg e9 ea lr cm) → WP Γ ML_law (10, 196, c0 + X, s0 + Y) 1146 [some (.ref sa), some (.ref p), some (.ref m), some (.ref (m + 12)), some (.ref (m + 13)), some (.int (nI i0)), some (.int kk), none, none, none] [.int v9] h2 Q := by
    intro X Y h2 kk v9 hk hsim hm2
    obtain ⟨tl2, at2, bg2, e2, ea2, lr2, cm2, m2⟩ := hm2
    have m20 := m2
    unfold ModC at m2
    refine wp_istore (n := 1148) dL_law_1146 rfl rfl rfl rfl ?_
    refine wp_aload_n (n := 1149) dL_law_1148 rfl rfl ?_
    refine wp_callVs (n := 1152) (rm' := (0, 0, 0, 0)) (c0 := c0) (s0 := s0) rfl dL_law_1149 rfl mlL_156 [] rfl rfl m2 rfl rfl rfl (Nat.le_of_ble_eq_true rfl) rfl ?_
    refine s_X10_thrown m20 ?_
    show WP Γ _ _ _ _ _ _ _
    refine wp_iload (n := 1154) dL_law_1152 rfl rfl ?_
    refine wp_icmp_eq (t := 1159) (n := 1157) dL_law_1154 (by decide) rfl (fun hc => ?_) (fun hc => ?_)
    · refine wp_iload (n := 1161) dL_law_1159 rfl rfl ?_
      refine wp_if_ne (t := 1176) (n := 1164) dL_law_1161 (by decide) rfl (fun hq => ?_) (fun hq => ?_)
      · refine wp_goto (t := 3329) dL_law_1176 (by decide) ?_
        refine wp_lo (lo' := [some (.ref sa), some (.ref p), some (.ref m), some (.ref (m + 12)), some (.ref (m + 13)), some (.int (nI i0)), none, none, none, none]) (fun k v hk => ?_) ?_
        · match k, hk with
          | 0, hk => exact hk
          | 1, hk => exact hk
          | 2, hk => exact hk
          | 3, hk => exact hk
          | 4, hk => exact hk
          | 5, hk => exact hk
          | 6, hk => exact absurd hk (by simp [ax_gl])
          | 7, hk => exact absurd hk (by simp [ax_gl])
          | 8, hk => exact absurd hk (by simp [ax_gl])
          | 9, hk => exact absurd hk (by simp [ax_gl])
          | k + 10, hk => exact absurd hk (by simp [ax_gl])
        exact wp_big (rm := (10, 196, c0, s0)) (Nat.le_refl _) (Nat.le_refl _) (Nat.le_add_right _ _) (Nat.le_add_right _ _) (k h2 hsim)
      · exact absurd hq hk
    · exact absurd rfl hc
  have TO : ∀ (X Y : Nat) (h2 : AH) (r : Int32) (fo2 : Nat → Int64), Sim Γ h2 p m sa N S → (∃ tl at' bg e9 ea lr cm, ModC h2 m (m + 1) 0 tl at' bg e9 ea lr cm) → h2.2 (m + 12) = some (.inl (.long, 1, .inr (.inl fo2))) → fo2 0 = r.toInt64 → WP Γ ML_law (10, 196, c0 + X, s0 + Y) 1146 [some (.ref sa), some (.ref p), some (.ref m), some (.ref (m + 12)), some (.ref (m + 13)), some (.int (nI i0)), some (.int 0), none, none, none] [.int r] h2 Q := by
    intro X Y h2 r fo2 hsim hm2 ho2 hv2
    obtain ⟨tl2, at2, bg2, e2, ea2, lr2, cm2, m2⟩ := hm2
    have m20 := m2
    unfold ModC at m2
    have fin : ∀ l7 : Option Value, WP Γ ML_law (10, 196, c0 + (X - 0), s0 + (Y - 0)) 1176 [some (.ref sa), some (.ref p), some (.ref m), some (.ref (m + 12)), some (.ref (m + 13)), some (.int (nI i0)), some (.int 0), l7, none, none] [] h2 Q := by
      intro l7
      refine wp_goto (t := 3329) dL_law_1176 (by decide) ?_
      refine wp_lo (lo' := [some (.ref sa), some (.ref p), some (.ref m), some (.ref (m + 12)), some (.ref (m + 13)), some (.int (nI i0)), none, none, none, none]) (fun k v hk => ?_) ?_
      · match k, hk with
        | 0, hk => exact hk
        | 1, hk => exact hk
        | 2, hk => exact hk
        | 3, hk => exact hk
        | 4, hk => exact hk
        | 5, hk => exact hk
        | 6, hk => exact absurd hk (by simp [ax_gl])
        | 7, hk => exact absurd hk (by simp [ax_gl])
        | 8, hk => exact absurd hk (by simp [ax_gl])
        | 9, hk => exact absurd hk (by simp [ax_gl])
        | k + 10, hk => exact absurd hk (by simp [ax_gl])
      exact wp_big (rm := (10, 196, c0, s0)) (Nat.le_refl _) (Nat.le_refl _) (Nat.le_add_right _ _) (Nat.le_add_right _ _) (k h2 hsim)
    refine wp_istore (n := 1148) dL_law_1146 rfl rfl rfl rfl ?_
    refine wp_aload_n (n := 1149) dL_law_1148 rfl rfl ?_
    refine wp_callVs (n := 1152) (rm' := (0, 0, 0, 0)) (c0 := c0) (s0 := s0) rfl dL_law_1149 rfl mlL_156 [] rfl rfl m2 rfl rfl rfl (Nat.le_of_ble_eq_true rfl) rfl ?_
    refine s_X10_thrown m20 ?_
    show WP Γ _ _ _ _ _ _ _
    refine wp_iload (n := 1154) dL_law_1152 rfl rfl ?_
    refine wp_icmp_eq (t := 1159) (n := 1157) dL_law_1154 (by decide) rfl (fun hc => ?_) (fun hc => ?_)
    · refine wp_iload (n := 1161) dL_law_1159 rfl rfl ?_
      refine wp_if_ne (t := 1176) (n := 1164) dL_law_1161 (by decide) rfl (fun hq => ?_) (fun hq => ?_)
      · exact absurd rfl hq
      · refine wp_aload_n (n := 1165) dL_law_1164 rfl rfl ?_
        refine wp_iconst (n := 1166) (v := 0) dL_law_1165 rfl (by decide) ?_
        refine wp_lald (n := 1167) 0 dL_law_1166 rfl ho2 rfl (by omega) (by omega) ?_
        rw [hv2]
        refine wp_iload (n := 1169) dL_law_1167 rfl rfl ?_
        refine wp_i2l (n := 1170) dL_law_1169 rfl ?_
        refine wp_lcmp (n := 1171) dL_law_1170 rfl ?_
        rw [lg_self]
        refine wp_if_eq (t := 1176) (n := 1174) dL_law_1171 (by decide) rfl (fun hu => ?_) (fun hu => ?_)
        · exact fin _
        · exact absurd rfl hu
    · exact absurd rfl hc
  have MC : ∀ (X Y : Nat) (h3 : AH) (kk : Int32), h3.2 m = h.2 m → h3.2 sa = h.2 sa → WP Γ MX10_balance (2, 43, 0, 0) 0 [some (.ref m), some (.int (S (i0 + 1)))] [] h3 (ax_K Γ ML_law (10, 196, c0 + (X - 0), s0 + (Y - 0)) 1146 [some (.ref sa), some (.ref p), some (.ref m), some (.ref (m + 12)), some (.ref (m + 13)), some (.int (nI i0)), some (.int kk), none, none, none] [] Q) → WP Γ ML_law (10, 196, c0 + X, s0 + Y) 1134 [some (.ref sa), some (.ref p), some (.ref m), some (.ref (m + 12)), some (.ref (m + 13)), some (.int (nI i0)), none, none, none, none] [.int kk] h3 Q := by
    intro X Y h3 kk e1 e2 kk3
    have mC3' := ModC.mv e1 mC
    unfold ModC at mC3'
    have hsa3 := e2.trans hsa
    refine wp_istore (n := 1136) dL_law_1134 rfl rfl rfl rfl ?_
    refine wp_aload_n (n := 1137) dL_law_1136 rfl rfl ?_
    refine wp_aload_n (n := 1138) dL_law_1137 rfl rfl ?_
    refine wp_iload (n := 1140) dL_law_1138 rfl rfl ?_
    refine wp_iconst (n := 1141) (v := nI 1) dL_law_1140 rfl (by decide) ?_
    refine wp_iadd (n := 1142) dL_law_1141 rfl ?_
    refine wp_iald (n := 1143) (i0 + 1) dL_law_1142 rfl (by repeat first | assumption | exact ax_set_self _ _ _ | exact ax_newA_self _ _ _ | refine (ax_set_ne _ _ (by omega)).trans ?_ | refine (ax_newA_ne _ _ _ (by omega)).trans ?_) (by simp only [nI_zero, nI_mul, nI_add]) (by omega) (by omega) ?_
    refine wp_callVs (n := 1146) (rm' := (2, 43, 0, 0)) (c0 := c0) (s0 := s0) rfl dL_law_1143 rfl mlL_223 [.int (S (i0 + 1))] rfl rfl mC3' rfl rfl rfl (Nat.le_of_ble_eq_true rfl) rfl ?_
    exact kk3
  refine wp_aload_n (n := 1124) dL_law_1123 rfl rfl ?_
  refine wp_aload_n (n := 1125) dL_law_1124 rfl rfl ?_
  refine wp_iload (n := 1127) dL_law_1125 rfl rfl ?_
  refine wp_iconst (n := 1128) (v := nI 1) dL_law_1127 rfl (by decide) ?_
  refine wp_iadd (n := 1129) dL_law_1128 rfl ?_
  refine wp_iald (n := 1130) (i0 + 1) dL_law_1129 rfl (by repeat first | assumption | exact ax_set_self _ _ _ | exact ax_newA_self _ _ _ | refine (ax_set_ne _ _ (by omega)).trans ?_ | refine (ax_newA_ne _ _ _ (by omega)).trans ?_) (by simp only [nI_zero, nI_mul, nI_add]) (by omega) (by omega) ?_
  refine wp_aload_n (n := 1131) dL_law_1130 rfl rfl ?_
  refine wp_callSH (n := 1134) (rm' := (8, 137, 1, 6)) (c0 := c0) (s0 := s0) (C := 20) (S := 4409) rfl dL_law_1131 rfl mwL_221 [.ref p, .int (S (i0 + 1)), .ref (m + 12)] rfl rfl rfl rfl (Nat.le_of_ble_eq_true rfl) rfl ?_
  refine s_L_balance hF' (by omega) ?_
  refine s_X9_balance hF hL0 (by omega) (by omega) (fun c1 n1 hn1 => ?_) (fun j hj ej => ?_)
  · refine Or.inr (Or.inl ⟨rfl, rfl, ?_⟩)
    show WP Γ _ _ _ _ _ _ _
    have B : Bet p m h h _ := Bet.n (p := p) ho hn1
    refine MC _ _ _ _ (B.1 _ (by omega)) (B.1 _ (by omega)) ?_
    refine s_X10_balance (ModC.mv (B.1 _ (by omega)) mC) ((B.1 _ (by omega)).trans mR) hr0 hI0.1 (by omega) (by omega) (fun d1 h2 fr2 m2 => ?_) (fun i hi ei h2 fr2 m2 => ?_)
    · show WP Γ _ _ _ _ _ _ _
      exact TE _ _ h2 _ _ (by decide) (fin_q hA hs0 hM0 hP0 c10 hm B fr2 ⟨_, _, _, _, _, _, m2⟩) ⟨_, _, _, _, _, _, _, m2⟩
    · have d1 : inN (S (i0 + 1)) np = true := by rw [ei]; exact inN_of hi (by omega)
      exact absurd (c1.symm.trans d1) (by decide)
  · refine ⟨fo, o1, fun fo1 hv => ?_⟩
    show WP Γ _ _ _ _ _ _ _
    have B : Bet p m h h _ := Bet.o fo1 ho hm (fun _ _ => rfl)
    have c1 : inN (S (i0 + 1)) np = true := by rw [ej]; exact inN_of hj (by omega)
    refine MC _ _ _ _ (B.1 _ (by omega)) (B.1 _ (by omega)) ?_
    refine s_X10_balance (ModC.mv (B.1 _ (by omega)) mC) ((B.1 _ (by omega)).trans mR) hr0 hI0.1 (by omega) (by omega) (fun d1 h2 fr2 m2 => ?_) (fun i hi ei h2 fr2 m2 => ?_)
    · exact absurd (c1.symm.trans d1) (by decide)
    · have d1 : inN (S (i0 + 1)) np = true := by rw [ei]; exact inN_of hi (by omega)
      show WP Γ _ _ _ _ _ _ _
      obtain rfl : j = i := (nI_eq9 (by omega) (by omega)).mp (ej.symm.trans ei)
      exact TO _ _ h2 _ fo1 (fin_q hA hs0 hM0 hP0 c10 hm B fr2 ⟨_, _, _, _, _, _, m2⟩) ⟨_, _, _, _, _, _, _, m2⟩ ((fr2.2 _ (by omega)).trans (ax_set_self _ _ _)) hv
theorem cs_booked (hA : Γ.2.1 ≤ p) (hs : ScrP Γ h sa N S) (ho : OutP h m) (c1 : ClsP h p m b D er bs len f (mkK np qu ra re le ln nb pl tm ne rw bk nh hw nc cw t y) KS) (hP : PurP len f (mkK np qu ra re le ln nb pl tm ne rw bk nh hw nc cw t y) KS) (hM : ModP h m er bs len f (mkK np qu ra re le ln nb pl tm ne rw bk nh hw nc cw t y) KS) (hi : i0 + 5 ≤ N) (k : ∀ h', Sim Γ h' p m sa N S → WP Γ ML_law (10, 196, c0, s0) 3329 [some (.ref sa), some (.ref p), some (.ref m), some (.ref (m + 12)), some (.ref (m + 13)), some (.int (nI i0)), none, none, none, none] [] h' Q) : WP Γ ML_law (10, 196, c0 + 20, s0 + 4409) 1179 [some (.ref sa), some (.ref p), some (.ref m), some (.ref (m + 12)), some (.ref (m + 13)), some (.int (nI i0)), none, none, none, none] [] h Q := by
  have hs0 := hs
  have c10 := c1
  have hP0 := hP
  have hM0 := hM
  obtain ⟨hsa, hsl, hN, hfree⟩ := hs
  obtain ⟨⟨fo, o1⟩, fd, o2⟩ := ho
  obtain ⟨hF, hT, hR3, hBat, hSna, ⟨pk, hL⟩, hX, hbD, hm, hz, hsn, hap⟩ := c1
  obtain ⟨hlen, hI, hIS⟩ := hP
  obtain ⟨⟨th, at', bg, e9, ea, cm, mC⟩, ⟨R, mR, hr⟩, ⟨R2, mR2⟩, ⟨R3, mR3⟩, ⟨RE, mE, hre⟩, ⟨RA, mRA⟩, ⟨mpk, mP⟩, ⟨B, mB, hB⟩, ⟨CM, mK⟩, CC, CE, SV, mCC, mCE, mSV, hsv, hsr⟩ := hM
  have hI0 : Inv np qu ra re le ln nb pl tm ne rw bk nh hw nc cw t y := hI
  have hr0 : RowR R np qu ra re le ln nb pl tm ne rw bk nh hw nc cw t y := hr
  have hL0 : LedP h b np qu ra re le ln nb pl tm ne rw bk nh hw nc cw t y pk := hL
  have hre0 : ∀ j, j < np → RE j = re j := hre
  obtain ⟨⟨s1, s2, s3, s4, s5, s6, s7, s8, tn, s9, s10⟩, IM, IP, IJ, IR, IC⟩ := hI0
  have hI0 : Inv np qu ra re le ln nb pl tm ne rw bk nh hw nc cw t y := hI
  have hF' := hF
  unfold FacC at hF'
  have ho : OutP h m := ⟨⟨fo, o1⟩, fd, o2⟩
  have TE : ∀ (X Y : Nat) (h2 : AH) (kk : Int32) (v9 : Int32), ¬ kk = 0 → Sim Γ h2 p m sa N S → (∃ tl at' bg e9 ea lr cm, ModC h2 m (m + 1) kk tl at' bg e9 ea lr cm) → WP Γ ML_law (10, 196, c0 + X, s0 + Y) 1202 [some (.ref sa), some (.ref p), some (.ref m), some (.ref (m + 12)), some (.ref (m + 13)), some (.int (nI i0)), some (.int kk), none, none, none] [.int v9] h2 Q := by
    intro X Y h2 kk v9 hk hsim hm2
    obtain ⟨tl2, at2, bg2, e2, ea2, lr2, cm2, m2⟩ := hm2
    have m20 := m2
    unfold ModC at m2
    refine wp_istore (n := 1204) dL_law_1202 rfl rfl rfl rfl ?_
    refine wp_aload_n (n := 1205) dL_law_1204 rfl rfl ?_
    refine wp_callVs (n := 1208) (rm' := (0, 0, 0, 0)) (c0 := c0) (s0 := s0) rfl dL_law_1205 rfl mlL_156 [] rfl rfl m2 rfl rfl rfl (Nat.le_of_ble_eq_true rfl) rfl ?_
    refine s_X10_thrown m20 ?_
    show WP Γ _ _ _ _ _ _ _
    refine wp_iload (n := 1210) dL_law_1208 rfl rfl ?_
    refine wp_icmp_eq (t := 1215) (n := 1213) dL_law_1210 (by decide) rfl (fun hc => ?_) (fun hc => ?_)
    · refine wp_iload (n := 1217) dL_law_1215 rfl rfl ?_
      refine wp_if_ne (t := 1232) (n := 1220) dL_law_1217 (by decide) rfl (fun hq => ?_) (fun hq => ?_)
      · refine wp_goto (t := 3329) dL_law_1232 (by decide) ?_
        refine wp_lo (lo' := [some (.ref sa), some (.ref p), some (.ref m), some (.ref (m + 12)), some (.ref (m + 13)), some (.int (nI i0)), none, none, none, none]) (fun k v hk => ?_) ?_
        · match k, hk with
          | 0, hk => exact hk
          | 1, hk => exact hk
          | 2, hk => exact hk
          | 3, hk => exact hk
          | 4, hk => exact hk
          | 5, hk => exact hk
          | 6, hk => exact absurd hk (by simp [ax_gl])
          | 7, hk => exact absurd hk (by simp [ax_gl])
          | 8, hk => exact absurd hk (by simp [ax_gl])
          | 9, hk => exact absurd hk (by simp [ax_gl])
          | k + 10, hk => exact absurd hk (by simp [ax_gl])
        exact wp_big (rm := (10, 196, c0, s0)) (Nat.le_refl _) (Nat.le_refl _) (Nat.le_add_right _ _) (Nat.le_add_right _ _) (k h2 hsim)
      · exact absurd hq hk
    · exact absurd rfl hc
  have TO : ∀ (X Y : Nat) (h2 : AH) (r : Int32) (fo2 : Nat → Int64), Sim Γ h2 p m sa N S → (∃ tl at' bg e9 ea lr cm, ModC h2 m (m + 1) 0 tl at' bg e9 ea lr cm) → h2.2 (m + 12) = some (.inl (.long, 1, .inr (.inl fo2))) → fo2 0 = r.toInt64 → WP Γ ML_law (10, 196, c0 + X, s0 + Y) 1202 [some (.ref sa), some (.ref p), some (.ref m), some (.ref (m + 12)), some (.ref (m + 13)), some (.int (nI i0)), some (.int 0), none, none, none] [.int r] h2 Q := by
    intro X Y h2 r fo2 hsim hm2 ho2 hv2
    obtain ⟨tl2, at2, bg2, e2, ea2, lr2, cm2, m2⟩ := hm2
    have m20 := m2
    unfold ModC at m2
    have fin : ∀ l7 : Option Value, WP Γ ML_law (10, 196, c0 + (X - 0), s0 + (Y - 0)) 1232 [some (.ref sa), some (.ref p), some (.ref m), some (.ref (m + 12)), some (.ref (m + 13)), some (.int (nI i0)), some (.int 0), l7, none, none] [] h2 Q := by
      intro l7
      refine wp_goto (t := 3329) dL_law_1232 (by decide) ?_
      refine wp_lo (lo' := [some (.ref sa), some (.ref p), some (.ref m), some (.ref (m + 12)), some (.ref (m + 13)), some (.int (nI i0)), none, none, none, none]) (fun k v hk => ?_) ?_
      · match k, hk with
        | 0, hk => exact hk
        | 1, hk => exact hk
        | 2, hk => exact hk
        | 3, hk => exact hk
        | 4, hk => exact hk
        | 5, hk => exact hk
        | 6, hk => exact absurd hk (by simp [ax_gl])
        | 7, hk => exact absurd hk (by simp [ax_gl])
        | 8, hk => exact absurd hk (by simp [ax_gl])
        | 9, hk => exact absurd hk (by simp [ax_gl])
        | k + 10, hk => exact absurd hk (by simp [ax_gl])
      exact wp_big (rm := (10, 196, c0, s0)) (Nat.le_refl _) (Nat.le_refl _) (Nat.le_add_right _ _) (Nat.le_add_right _ _) (k h2 hsim)
    refine wp_istore (n := 1204) dL_law_1202 rfl rfl rfl rfl ?_
    refine wp_aload_n (n := 1205) dL_law_1204 rfl rfl ?_
    refine wp_callVs (n := 1208) (rm' := (0, 0, 0, 0)) (c0 := c0) (s0 := s0) rfl dL_law_1205 rfl mlL_156 [] rfl rfl m2 rfl rfl rfl (Nat.le_of_ble_eq_true rfl) rfl ?_
    refine s_X10_thrown m20 ?_
    show WP Γ _ _ _ _ _ _ _
    refine wp_iload (n := 1210) dL_law_1208 rfl rfl ?_
    refine wp_icmp_eq (t := 1215) (n := 1213) dL_law_1210 (by decide) rfl (fun hc => ?_) (fun hc => ?_)
    · refine wp_iload (n := 1217) dL_law_1215 rfl rfl ?_
      refine wp_if_ne (t := 1232) (n := 1220) dL_law_1217 (by decide) rfl (fun hq => ?_) (fun hq => ?_)
      · exact absurd rfl hq
      · refine wp_aload_n (n := 1221) dL_law_1220 rfl rfl ?_
        refine wp_iconst (n := 1222) (v := 0) dL_law_1221 rfl (by decide) ?_
        refine wp_lald (n := 1223) 0 dL_law_1222 rfl ho2 rfl (by omega) (by omega) ?_
        rw [hv2]
        refine wp_iload (n := 1225) dL_law_1223 rfl rfl ?_
        refine wp_i2l (n := 1226) dL_law_1225 rfl ?_
        refine wp_lcmp (n := 1227) dL_law_1226 rfl ?_
        rw [lg_self]
        refine wp_if_eq (t := 1232) (n := 1230) dL_law_1227 (by decide) rfl (fun hu => ?_) (fun hu => ?_)
        · exact fin _
        · exact absurd rfl hu
    · exact absurd rfl hc
  have MC : ∀ (X Y : Nat) (h3 : AH) (kk : Int32), h3.2 m = h.2 m → h3.2 sa = h.2 sa → WP Γ MX10_booked (3, 67, 0, 0) 0 [some (.ref m), some (.int (S (i0 + 1)))] [] h3 (ax_K Γ ML_law (10, 196, c0 + (X - 0), s0 + (Y - 0)) 1202 [some (.ref sa), some (.ref p), some (.ref m), some (.ref (m + 12)), some (.ref (m + 13)), some (.int (nI i0)), some (.int kk), none, none, none] [] Q) → WP Γ ML_law (10, 196, c0 + X, s0 + Y) 1190 [some (.ref sa), some (.ref p), some (.ref m), some (.ref (m + 12)), some (.ref (m + 13)), some (.int (nI i0)), none, none, none, none] [.int kk] h3 Q := by
    intro X Y h3 kk e1 e2 kk3
    have mC3' := ModC.mv e1 mC
    unfold ModC at mC3'
    have hsa3 := e2.trans hsa
    refine wp_istore (n := 1192) dL_law_1190 rfl rfl rfl rfl ?_
    refine wp_aload_n (n := 1193) dL_law_1192 rfl rfl ?_
    refine wp_aload_n (n := 1194) dL_law_1193 rfl rfl ?_
    refine wp_iload (n := 1196) dL_law_1194 rfl rfl ?_
    refine wp_iconst (n := 1197) (v := nI 1) dL_law_1196 rfl (by decide) ?_
    refine wp_iadd (n := 1198) dL_law_1197 rfl ?_
    refine wp_iald (n := 1199) (i0 + 1) dL_law_1198 rfl (by repeat first | assumption | exact ax_set_self _ _ _ | exact ax_newA_self _ _ _ | refine (ax_set_ne _ _ (by omega)).trans ?_ | refine (ax_newA_ne _ _ _ (by omega)).trans ?_) (by simp only [nI_zero, nI_mul, nI_add]) (by omega) (by omega) ?_
    refine wp_callVs (n := 1202) (rm' := (3, 67, 0, 0)) (c0 := c0) (s0 := s0) rfl dL_law_1199 rfl mlL_226 [.int (S (i0 + 1))] rfl rfl mC3' rfl rfl rfl (Nat.le_of_ble_eq_true rfl) rfl ?_
    exact kk3
  refine wp_aload_n (n := 1180) dL_law_1179 rfl rfl ?_
  refine wp_aload_n (n := 1181) dL_law_1180 rfl rfl ?_
  refine wp_iload (n := 1183) dL_law_1181 rfl rfl ?_
  refine wp_iconst (n := 1184) (v := nI 1) dL_law_1183 rfl (by decide) ?_
  refine wp_iadd (n := 1185) dL_law_1184 rfl ?_
  refine wp_iald (n := 1186) (i0 + 1) dL_law_1185 rfl (by repeat first | assumption | exact ax_set_self _ _ _ | exact ax_newA_self _ _ _ | refine (ax_set_ne _ _ (by omega)).trans ?_ | refine (ax_newA_ne _ _ _ (by omega)).trans ?_) (by simp only [nI_zero, nI_mul, nI_add]) (by omega) (by omega) ?_
  refine wp_aload_n (n := 1187) dL_law_1186 rfl rfl ?_
  refine wp_callSH (n := 1190) (rm' := (8, 137, 1, 6)) (c0 := c0) (s0 := s0) (C := 20) (S := 4409) rfl dL_law_1187 rfl mwL_224 [.ref p, .int (S (i0 + 1)), .ref (m + 12)] rfl rfl rfl rfl (Nat.le_of_ble_eq_true rfl) rfl ?_
  refine s_L_booked hF' (by omega) ?_
  refine s_X9_booked hF hL0 (by omega) (by omega) (fun c1 n1 hn1 => ?_) (fun j hj ej => ?_)
  · refine Or.inr (Or.inl ⟨rfl, rfl, ?_⟩)
    show WP Γ _ _ _ _ _ _ _
    have B : Bet p m h h _ := Bet.n (p := p) ho hn1
    refine MC _ _ _ _ (B.1 _ (by omega)) (B.1 _ (by omega)) ?_
    refine s_X10_booked (ModC.mv (B.1 _ (by omega)) mC) ((B.1 _ (by omega)).trans mR) hr0 hI0 (by omega) (by omega) (fun d1 h2 fr2 m2 => ?_) (fun i hi ei h2 fr2 m2 => ?_)
    · show WP Γ _ _ _ _ _ _ _
      exact TE _ _ h2 _ _ (by decide) (fin_q hA hs0 hM0 hP0 c10 hm B fr2 ⟨_, _, _, _, _, _, m2⟩) ⟨_, _, _, _, _, _, _, m2⟩
    · have d1 : inN (S (i0 + 1)) np = true := by rw [ei]; exact inN_of hi (by omega)
      exact absurd (c1.symm.trans d1) (by decide)
  · refine ⟨fo, o1, fun fo1 hv => ?_⟩
    show WP Γ _ _ _ _ _ _ _
    have B : Bet p m h h _ := Bet.o fo1 ho hm (fun _ _ => rfl)
    have c1 : inN (S (i0 + 1)) np = true := by rw [ej]; exact inN_of hj (by omega)
    refine MC _ _ _ _ (B.1 _ (by omega)) (B.1 _ (by omega)) ?_
    refine s_X10_booked (ModC.mv (B.1 _ (by omega)) mC) ((B.1 _ (by omega)).trans mR) hr0 hI0 (by omega) (by omega) (fun d1 h2 fr2 m2 => ?_) (fun i hi ei h2 fr2 m2 => ?_)
    · exact absurd (c1.symm.trans d1) (by decide)
    · have d1 : inN (S (i0 + 1)) np = true := by rw [ei]; exact inN_of hi (by omega)
      show WP Γ _ _ _ _ _ _ _
      obtain rfl : j = i := (nI_eq9 (by omega) (by omega)).mp (ej.symm.trans ei)
      exact TO _ _ h2 _ fo1 (fin_q hA hs0 hM0 hP0 c10 hm B fr2 ⟨_, _, _, _, _, _, m2⟩) ⟨_, _, _, _, _, _, _, m2⟩ ((fr2.2 _ (by omega)).trans (ax_set_self _ _ _)) hv
theorem cs_available (hA : Γ.2.1 ≤ p) (hs : ScrP Γ h sa N S) (ho : OutP h m) (c1 : ClsP h p m b D er bs len f (mkK np qu ra re le ln nb pl tm ne rw bk nh hw nc cw t y) KS) (hP : PurP len f (mkK np qu ra re le ln nb pl tm ne rw bk nh hw nc cw t y) KS) (hM : ModP h m er bs len f (mkK np qu ra re le ln nb pl tm ne rw bk nh hw nc cw t y) KS) (hi : i0 + 5 ≤ N) (k : ∀ h', Sim Γ h' p m sa N S → WP Γ ML_law (10, 196, c0, s0) 3329 [some (.ref sa), some (.ref p), some (.ref m), some (.ref (m + 12)), some (.ref (m + 13)), some (.int (nI i0)), none, none, none, none] [] h' Q) : WP Γ ML_law (10, 196, c0 + 20, s0 + 4409) 1235 [some (.ref sa), some (.ref p), some (.ref m), some (.ref (m + 12)), some (.ref (m + 13)), some (.int (nI i0)), none, none, none, none] [] h Q := by
  have hs0 := hs
  have c10 := c1
  have hP0 := hP
  have hM0 := hM
  obtain ⟨hsa, hsl, hN, hfree⟩ := hs
  obtain ⟨⟨fo, o1⟩, fd, o2⟩ := ho
  obtain ⟨hF, hT, hR3, hBat, hSna, ⟨pk, hL⟩, hX, hbD, hm, hz, hsn, hap⟩ := c1
  obtain ⟨hlen, hI, hIS⟩ := hP
  obtain ⟨⟨th, at', bg, e9, ea, cm, mC⟩, ⟨R, mR, hr⟩, ⟨R2, mR2⟩, ⟨R3, mR3⟩, ⟨RE, mE, hre⟩, ⟨RA, mRA⟩, ⟨mpk, mP⟩, ⟨B, mB, hB⟩, ⟨CM, mK⟩, CC, CE, SV, mCC, mCE, mSV, hsv, hsr⟩ := hM
  have hI0 : Inv np qu ra re le ln nb pl tm ne rw bk nh hw nc cw t y := hI
  have hr0 : RowR R np qu ra re le ln nb pl tm ne rw bk nh hw nc cw t y := hr
  have hL0 : LedP h b np qu ra re le ln nb pl tm ne rw bk nh hw nc cw t y pk := hL
  have hre0 : ∀ j, j < np → RE j = re j := hre
  obtain ⟨⟨s1, s2, s3, s4, s5, s6, s7, s8, tn, s9, s10⟩, IM, IP, IJ, IR, IC⟩ := hI0
  have hI0 : Inv np qu ra re le ln nb pl tm ne rw bk nh hw nc cw t y := hI
  have hF' := hF
  unfold FacC at hF'
  have ho : OutP h m := ⟨⟨fo, o1⟩, fd, o2⟩
  have TE : ∀ (X Y : Nat) (h2 : AH) (kk : Int32) (v9 : Int32), ¬ kk = 0 → Sim Γ h2 p m sa N S → (∃ tl at' bg e9 ea lr cm, ModC h2 m (m + 1) kk tl at' bg e9 ea lr cm) → WP Γ ML_law (10, 196, c0 + X, s0 + Y) 1258 [some (.ref sa), some (.ref p), some (.ref m), some (.ref (m + 12)), some (.ref (m + 13)), some (.int (nI i0)), some (.int kk), none, none, none] [.int v9] h2 Q := by
    intro X Y h2 kk v9 hk hsim hm2
    obtain ⟨tl2, at2, bg2, e2, ea2, lr2, cm2, m2⟩ := hm2
    have m20 := m2
    unfold ModC at m2
    refine wp_istore (n := 1260) dL_law_1258 rfl rfl rfl rfl ?_
    refine wp_aload_n (n := 1261) dL_law_1260 rfl rfl ?_
    refine wp_callVs (n := 1264) (rm' := (0, 0, 0, 0)) (c0 := c0) (s0 := s0) rfl dL_law_1261 rfl mlL_156 [] rfl rfl m2 rfl rfl rfl (Nat.le_of_ble_eq_true rfl) rfl ?_
    refine s_X10_thrown m20 ?_
    show WP Γ _ _ _ _ _ _ _
    refine wp_iload (n := 1266) dL_law_1264 rfl rfl ?_
    refine wp_icmp_eq (t := 1271) (n := 1269) dL_law_1266 (by decide) rfl (fun hc => ?_) (fun hc => ?_)
    · refine wp_iload (n := 1273) dL_law_1271 rfl rfl ?_
      refine wp_if_ne (t := 1288) (n := 1276) dL_law_1273 (by decide) rfl (fun hq => ?_) (fun hq => ?_)
      · refine wp_goto (t := 3329) dL_law_1288 (by decide) ?_
        refine wp_lo (lo' := [some (.ref sa), some (.ref p), some (.ref m), some (.ref (m + 12)), some (.ref (m + 13)), some (.int (nI i0)), none, none, none, none]) (fun k v hk => ?_) ?_
        · match k, hk with
          | 0, hk => exact hk
          | 1, hk => exact hk
          | 2, hk => exact hk
          | 3, hk => exact hk
          | 4, hk => exact hk
          | 5, hk => exact hk
          | 6, hk => exact absurd hk (by simp [ax_gl])
          | 7, hk => exact absurd hk (by simp [ax_gl])
          | 8, hk => exact absurd hk (by simp [ax_gl])
          | 9, hk => exact absurd hk (by simp [ax_gl])
          | k + 10, hk => exact absurd hk (by simp [ax_gl])
        exact wp_big (rm := (10, 196, c0, s0)) (Nat.le_refl _) (Nat.le_refl _) (Nat.le_add_right _ _) (Nat.le_add_right _ _) (k h2 hsim)
      · exact absurd hq hk
    · exact absurd rfl hc
  have TO : ∀ (X Y : Nat) (h2 : AH) (r : Int32) (fo2 : Nat → Int64), Sim Γ h2 p m sa N S → (∃ tl at' bg e9 ea lr cm, ModC h2 m (m + 1) 0 tl at' bg e9 ea lr cm) → h2.2 (m + 12) = some (.inl (.long, 1, .inr (.inl fo2))) → fo2 0 = r.toInt64 → WP Γ ML_law (10, 196, c0 + X, s0 + Y) 1258 [some (.ref sa), some (.ref p), some (.ref m), some (.ref (m + 12)), some (.ref (m + 13)), some (.int (nI i0)), some (.int 0), none, none, none] [.int r] h2 Q := by
    intro X Y h2 r fo2 hsim hm2 ho2 hv2
    obtain ⟨tl2, at2, bg2, e2, ea2, lr2, cm2, m2⟩ := hm2
    have m20 := m2
    unfold ModC at m2
    have fin : ∀ l7 : Option Value, WP Γ ML_law (10, 196, c0 + (X - 0), s0 + (Y - 0)) 1288 [some (.ref sa), some (.ref p), some (.ref m), some (.ref (m + 12)), some (.ref (m + 13)), some (.int (nI i0)), some (.int 0), l7, none, none] [] h2 Q := by
      intro l7
      refine wp_goto (t := 3329) dL_law_1288 (by decide) ?_
      refine wp_lo (lo' := [some (.ref sa), some (.ref p), some (.ref m), some (.ref (m + 12)), some (.ref (m + 13)), some (.int (nI i0)), none, none, none, none]) (fun k v hk => ?_) ?_
      · match k, hk with
        | 0, hk => exact hk
        | 1, hk => exact hk
        | 2, hk => exact hk
        | 3, hk => exact hk
        | 4, hk => exact hk
        | 5, hk => exact hk
        | 6, hk => exact absurd hk (by simp [ax_gl])
        | 7, hk => exact absurd hk (by simp [ax_gl])
        | 8, hk => exact absurd hk (by simp [ax_gl])
        | 9, hk => exact absurd hk (by simp [ax_gl])
        | k + 10, hk => exact absurd hk (by simp [ax_gl])
      exact wp_big (rm := (10, 196, c0, s0)) (Nat.le_refl _) (Nat.le_refl _) (Nat.le_add_right _ _) (Nat.le_add_right _ _) (k h2 hsim)
    refine wp_istore (n := 1260) dL_law_1258 rfl rfl rfl rfl ?_
    refine wp_aload_n (n := 1261) dL_law_1260 rfl rfl ?_
    refine wp_callVs (n := 1264) (rm' := (0, 0, 0, 0)) (c0 := c0) (s0 := s0) rfl dL_law_1261 rfl mlL_156 [] rfl rfl m2 rfl rfl rfl (Nat.le_of_ble_eq_true rfl) rfl ?_
    refine s_X10_thrown m20 ?_
    show WP Γ _ _ _ _ _ _ _
    refine wp_iload (n := 1266) dL_law_1264 rfl rfl ?_
    refine wp_icmp_eq (t := 1271) (n := 1269) dL_law_1266 (by decide) rfl (fun hc => ?_) (fun hc => ?_)
    · refine wp_iload (n := 1273) dL_law_1271 rfl rfl ?_
      refine wp_if_ne (t := 1288) (n := 1276) dL_law_1273 (by decide) rfl (fun hq => ?_) (fun hq => ?_)
      · exact absurd rfl hq
      · refine wp_aload_n (n := 1277) dL_law_1276 rfl rfl ?_
        refine wp_iconst (n := 1278) (v := 0) dL_law_1277 rfl (by decide) ?_
        refine wp_lald (n := 1279) 0 dL_law_1278 rfl ho2 rfl (by omega) (by omega) ?_
        rw [hv2]
        refine wp_iload (n := 1281) dL_law_1279 rfl rfl ?_
        refine wp_i2l (n := 1282) dL_law_1281 rfl ?_
        refine wp_lcmp (n := 1283) dL_law_1282 rfl ?_
        rw [lg_self]
        refine wp_if_eq (t := 1288) (n := 1286) dL_law_1283 (by decide) rfl (fun hu => ?_) (fun hu => ?_)
        · exact fin _
        · exact absurd rfl hu
    · exact absurd rfl hc
  have MC : ∀ (X Y : Nat) (h3 : AH) (kk : Int32), h3.2 m = h.2 m → h3.2 sa = h.2 sa → WP Γ MX10_available (3, 67, 0, 0) 0 [some (.ref m), some (.int (S (i0 + 1)))] [] h3 (ax_K Γ ML_law (10, 196, c0 + (X - 0), s0 + (Y - 0)) 1258 [some (.ref sa), some (.ref p), some (.ref m), some (.ref (m + 12)), some (.ref (m + 13)), some (.int (nI i0)), some (.int kk), none, none, none] [] Q) → WP Γ ML_law (10, 196, c0 + X, s0 + Y) 1246 [some (.ref sa), some (.ref p), some (.ref m), some (.ref (m + 12)), some (.ref (m + 13)), some (.int (nI i0)), none, none, none, none] [.int kk] h3 Q := by
    intro X Y h3 kk e1 e2 kk3
    have mC3' := ModC.mv e1 mC
    unfold ModC at mC3'
    have hsa3 := e2.trans hsa
    refine wp_istore (n := 1248) dL_law_1246 rfl rfl rfl rfl ?_
    refine wp_aload_n (n := 1249) dL_law_1248 rfl rfl ?_
    refine wp_aload_n (n := 1250) dL_law_1249 rfl rfl ?_
    refine wp_iload (n := 1252) dL_law_1250 rfl rfl ?_
    refine wp_iconst (n := 1253) (v := nI 1) dL_law_1252 rfl (by decide) ?_
    refine wp_iadd (n := 1254) dL_law_1253 rfl ?_
    refine wp_iald (n := 1255) (i0 + 1) dL_law_1254 rfl (by repeat first | assumption | exact ax_set_self _ _ _ | exact ax_newA_self _ _ _ | refine (ax_set_ne _ _ (by omega)).trans ?_ | refine (ax_newA_ne _ _ _ (by omega)).trans ?_) (by simp only [nI_zero, nI_mul, nI_add]) (by omega) (by omega) ?_
    refine wp_callVs (n := 1258) (rm' := (3, 67, 0, 0)) (c0 := c0) (s0 := s0) rfl dL_law_1255 rfl mlL_229 [.int (S (i0 + 1))] rfl rfl mC3' rfl rfl rfl (Nat.le_of_ble_eq_true rfl) rfl ?_
    exact kk3
  refine wp_aload_n (n := 1236) dL_law_1235 rfl rfl ?_
  refine wp_aload_n (n := 1237) dL_law_1236 rfl rfl ?_
  refine wp_iload (n := 1239) dL_law_1237 rfl rfl ?_
  refine wp_iconst (n := 1240) (v := nI 1) dL_law_1239 rfl (by decide) ?_
  refine wp_iadd (n := 1241) dL_law_1240 rfl ?_
  refine wp_iald (n := 1242) (i0 + 1) dL_law_1241 rfl (by repeat first | assumption | exact ax_set_self _ _ _ | exact ax_newA_self _ _ _ | refine (ax_set_ne _ _ (by omega)).trans ?_ | refine (ax_newA_ne _ _ _ (by omega)).trans ?_) (by simp only [nI_zero, nI_mul, nI_add]) (by omega) (by omega) ?_
  refine wp_aload_n (n := 1243) dL_law_1242 rfl rfl ?_
  refine wp_callSH (n := 1246) (rm' := (8, 137, 1, 6)) (c0 := c0) (s0 := s0) (C := 20) (S := 4409) rfl dL_law_1243 rfl mwL_227 [.ref p, .int (S (i0 + 1)), .ref (m + 12)] rfl rfl rfl rfl (Nat.le_of_ble_eq_true rfl) rfl ?_
  refine s_L_available hF' (by omega) ?_
  refine s_X9_available hF hL0 (by omega) (by omega) (by omega) (fun c1 n1 hn1 => ?_) (fun j hj ej => ?_)
  · refine Or.inr (Or.inl ⟨rfl, rfl, ?_⟩)
    show WP Γ _ _ _ _ _ _ _
    have B : Bet p m h h _ := Bet.n (p := p) ho hn1
    refine MC _ _ _ _ (B.1 _ (by omega)) (B.1 _ (by omega)) ?_
    refine s_X10_available (ModC.mv (B.1 _ (by omega)) mC) ((B.1 _ (by omega)).trans mR) hr0 hI0.1 (by omega) (by omega) (fun d1 h2 fr2 m2 => ?_) (fun i hi ei h2 fr2 m2 => ?_)
    · show WP Γ _ _ _ _ _ _ _
      exact TE _ _ h2 _ _ (by decide) (fin_q hA hs0 hM0 hP0 c10 hm B fr2 ⟨_, _, _, _, _, _, m2⟩) ⟨_, _, _, _, _, _, _, m2⟩
    · have d1 : inN (S (i0 + 1)) np = true := by rw [ei]; exact inN_of hi (by omega)
      exact absurd (c1.symm.trans d1) (by decide)
  · refine ⟨fo, o1, fun fo1 hv => ?_⟩
    show WP Γ _ _ _ _ _ _ _
    have B : Bet p m h h _ := Bet.o fo1 ho hm (fun _ _ => rfl)
    have c1 : inN (S (i0 + 1)) np = true := by rw [ej]; exact inN_of hj (by omega)
    refine MC _ _ _ _ (B.1 _ (by omega)) (B.1 _ (by omega)) ?_
    refine s_X10_available (ModC.mv (B.1 _ (by omega)) mC) ((B.1 _ (by omega)).trans mR) hr0 hI0.1 (by omega) (by omega) (fun d1 h2 fr2 m2 => ?_) (fun i hi ei h2 fr2 m2 => ?_)
    · exact absurd (c1.symm.trans d1) (by decide)
    · have d1 : inN (S (i0 + 1)) np = true := by rw [ei]; exact inN_of hi (by omega)
      show WP Γ _ _ _ _ _ _ _
      obtain rfl : j = i := (nI_eq9 (by omega) (by omega)).mp (ej.symm.trans ei)
      exact TO _ _ h2 _ fo1 (fin_q hA hs0 hM0 hP0 c10 hm B fr2 ⟨_, _, _, _, _, _, m2⟩) ⟨_, _, _, _, _, _, _, m2⟩ ((fr2.2 _ (by omega)).trans (ax_set_self _ _ _)) hv
theorem cs_room (hA : Γ.2.1 ≤ p) (hs : ScrP Γ h sa N S) (ho : OutP h m) (c1 : ClsP h p m b D er bs len f (mkK np qu ra re le ln nb pl tm ne rw bk nh hw nc cw t y) KS) (hP : PurP len f (mkK np qu ra re le ln nb pl tm ne rw bk nh hw nc cw t y) KS) (hM : ModP h m er bs len f (mkK np qu ra re le ln nb pl tm ne rw bk nh hw nc cw t y) KS) (hi : i0 + 5 ≤ N) (k : ∀ h', Sim Γ h' p m sa N S → WP Γ ML_law (10, 196, c0, s0) 3329 [some (.ref sa), some (.ref p), some (.ref m), some (.ref (m + 12)), some (.ref (m + 13)), some (.int (nI i0)), none, none, none, none] [] h' Q) : WP Γ ML_law (10, 196, c0 + 20, s0 + 4409) 1291 [some (.ref sa), some (.ref p), some (.ref m), some (.ref (m + 12)), some (.ref (m + 13)), some (.int (nI i0)), none, none, none, none] [] h Q := by
  have hs0 := hs
  have c10 := c1
  have hP0 := hP
  have hM0 := hM
  obtain ⟨hsa, hsl, hN, hfree⟩ := hs
  obtain ⟨⟨fo, o1⟩, fd, o2⟩ := ho
  obtain ⟨hF, hT, hR3, hBat, hSna, ⟨pk, hL⟩, hX, hbD, hm, hz, hsn, hap⟩ := c1
  obtain ⟨hlen, hI, hIS⟩ := hP
  obtain ⟨⟨th, at', bg, e9, ea, cm, mC⟩, ⟨R, mR, hr⟩, ⟨R2, mR2⟩, ⟨R3, mR3⟩, ⟨RE, mE, hre⟩, ⟨RA, mRA⟩, ⟨mpk, mP⟩, ⟨B, mB, hB⟩, ⟨CM, mK⟩, CC, CE, SV, mCC, mCE, mSV, hsv, hsr⟩ := hM
  have hI0 : Inv np qu ra re le ln nb pl tm ne rw bk nh hw nc cw t y := hI
  have hr0 : RowR R np qu ra re le ln nb pl tm ne rw bk nh hw nc cw t y := hr
  have hL0 : LedP h b np qu ra re le ln nb pl tm ne rw bk nh hw nc cw t y pk := hL
  have hre0 : ∀ j, j < np → RE j = re j := hre
  obtain ⟨⟨s1, s2, s3, s4, s5, s6, s7, s8, tn, s9, s10⟩, IM, IP, IJ, IR, IC⟩ := hI0
  have hI0 : Inv np qu ra re le ln nb pl tm ne rw bk nh hw nc cw t y := hI
  have hF' := hF
  unfold FacC at hF'
  have ho : OutP h m := ⟨⟨fo, o1⟩, fd, o2⟩
  have TE : ∀ (X Y : Nat) (h2 : AH) (kk : Int32) (v9 : Int32), ¬ kk = 0 → Sim Γ h2 p m sa N S → (∃ tl at' bg e9 ea lr cm, ModC h2 m (m + 1) kk tl at' bg e9 ea lr cm) → WP Γ ML_law (10, 196, c0 + X, s0 + Y) 1314 [some (.ref sa), some (.ref p), some (.ref m), some (.ref (m + 12)), some (.ref (m + 13)), some (.int (nI i0)), some (.int kk), none, none, none] [.int v9] h2 Q := by
    intro X Y h2 kk v9 hk hsim hm2
    obtain ⟨tl2, at2, bg2, e2, ea2, lr2, cm2, m2⟩ := hm2
    have m20 := m2
    unfold ModC at m2
    refine wp_istore (n := 1316) dL_law_1314 rfl rfl rfl rfl ?_
    refine wp_aload_n (n := 1317) dL_law_1316 rfl rfl ?_
    refine wp_callVs (n := 1320) (rm' := (0, 0, 0, 0)) (c0 := c0) (s0 := s0) rfl dL_law_1317 rfl mlL_156 [] rfl rfl m2 rfl rfl rfl (Nat.le_of_ble_eq_true rfl) rfl ?_
    refine s_X10_thrown m20 ?_
    show WP Γ _ _ _ _ _ _ _
    refine wp_iload (n := 1322) dL_law_1320 rfl rfl ?_
    refine wp_icmp_eq (t := 1327) (n := 1325) dL_law_1322 (by decide) rfl (fun hc => ?_) (fun hc => ?_)
    · refine wp_iload (n := 1329) dL_law_1327 rfl rfl ?_
      refine wp_if_ne (t := 1344) (n := 1332) dL_law_1329 (by decide) rfl (fun hq => ?_) (fun hq => ?_)
      · refine wp_goto (t := 3329) dL_law_1344 (by decide) ?_
        refine wp_lo (lo' := [some (.ref sa), some (.ref p), some (.ref m), some (.ref (m + 12)), some (.ref (m + 13)), some (.int (nI i0)), none, none, none, none]) (fun k v hk => ?_) ?_
        · match k, hk with
          | 0, hk => exact hk
          | 1, hk => exact hk
          | 2, hk => exact hk
          | 3, hk => exact hk
          | 4, hk => exact hk
          | 5, hk => exact hk
          | 6, hk => exact absurd hk (by simp [ax_gl])
          | 7, hk => exact absurd hk (by simp [ax_gl])
          | 8, hk => exact absurd hk (by simp [ax_gl])
          | 9, hk => exact absurd hk (by simp [ax_gl])
          | k + 10, hk => exact absurd hk (by simp [ax_gl])
        exact wp_big (rm := (10, 196, c0, s0)) (Nat.le_refl _) (Nat.le_refl _) (Nat.le_add_right _ _) (Nat.le_add_right _ _) (k h2 hsim)
      · exact absurd hq hk
    · exact absurd rfl hc
  have TO : ∀ (X Y : Nat) (h2 : AH) (r : Int32) (fo2 : Nat → Int64), Sim Γ h2 p m sa N S → (∃ tl at' bg e9 ea lr cm, ModC h2 m (m + 1) 0 tl at' bg e9 ea lr cm) → h2.2 (m + 12) = some (.inl (.long, 1, .inr (.inl fo2))) → fo2 0 = r.toInt64 → WP Γ ML_law (10, 196, c0 + X, s0 + Y) 1314 [some (.ref sa), some (.ref p), some (.ref m), some (.ref (m + 12)), some (.ref (m + 13)), some (.int (nI i0)), some (.int 0), none, none, none] [.int r] h2 Q := by
    intro X Y h2 r fo2 hsim hm2 ho2 hv2
    obtain ⟨tl2, at2, bg2, e2, ea2, lr2, cm2, m2⟩ := hm2
    have m20 := m2
    unfold ModC at m2
    have fin : ∀ l7 : Option Value, WP Γ ML_law (10, 196, c0 + (X - 0), s0 + (Y - 0)) 1344 [some (.ref sa), some (.ref p), some (.ref m), some (.ref (m + 12)), some (.ref (m + 13)), some (.int (nI i0)), some (.int 0), l7, none, none] [] h2 Q := by
      intro l7
      refine wp_goto (t := 3329) dL_law_1344 (by decide) ?_
      refine wp_lo (lo' := [some (.ref sa), some (.ref p), some (.ref m), some (.ref (m + 12)), some (.ref (m + 13)), some (.int (nI i0)), none, none, none, none]) (fun k v hk => ?_) ?_
      · match k, hk with
        | 0, hk => exact hk
        | 1, hk => exact hk
        | 2, hk => exact hk
        | 3, hk => exact hk
        | 4, hk => exact hk
        | 5, hk => exact hk
        | 6, hk => exact absurd hk (by simp [ax_gl])
        | 7, hk => exact absurd hk (by simp [ax_gl])
        | 8, hk => exact absurd hk (by simp [ax_gl])
        | 9, hk => exact absurd hk (by simp [ax_gl])
        | k + 10, hk => exact absurd hk (by simp [ax_gl])
      exact wp_big (rm := (10, 196, c0, s0)) (Nat.le_refl _) (Nat.le_refl _) (Nat.le_add_right _ _) (Nat.le_add_right _ _) (k h2 hsim)
    refine wp_istore (n := 1316) dL_law_1314 rfl rfl rfl rfl ?_
    refine wp_aload_n (n := 1317) dL_law_1316 rfl rfl ?_
    refine wp_callVs (n := 1320) (rm' := (0, 0, 0, 0)) (c0 := c0) (s0 := s0) rfl dL_law_1317 rfl mlL_156 [] rfl rfl m2 rfl rfl rfl (Nat.le_of_ble_eq_true rfl) rfl ?_
    refine s_X10_thrown m20 ?_
    show WP Γ _ _ _ _ _ _ _
    refine wp_iload (n := 1322) dL_law_1320 rfl rfl ?_
    refine wp_icmp_eq (t := 1327) (n := 1325) dL_law_1322 (by decide) rfl (fun hc => ?_) (fun hc => ?_)
    · refine wp_iload (n := 1329) dL_law_1327 rfl rfl ?_
      refine wp_if_ne (t := 1344) (n := 1332) dL_law_1329 (by decide) rfl (fun hq => ?_) (fun hq => ?_)
      · exact absurd rfl hq
      · refine wp_aload_n (n := 1333) dL_law_1332 rfl rfl ?_
        refine wp_iconst (n := 1334) (v := 0) dL_law_1333 rfl (by decide) ?_
        refine wp_lald (n := 1335) 0 dL_law_1334 rfl ho2 rfl (by omega) (by omega) ?_
        rw [hv2]
        refine wp_iload (n := 1337) dL_law_1335 rfl rfl ?_
        refine wp_i2l (n := 1338) dL_law_1337 rfl ?_
        refine wp_lcmp (n := 1339) dL_law_1338 rfl ?_
        rw [lg_self]
        refine wp_if_eq (t := 1344) (n := 1342) dL_law_1339 (by decide) rfl (fun hu => ?_) (fun hu => ?_)
        · exact fin _
        · exact absurd rfl hu
    · exact absurd rfl hc
  have MC : ∀ (X Y : Nat) (h3 : AH) (kk : Int32), h3.2 m = h.2 m → h3.2 sa = h.2 sa → WP Γ MX10_room (3, 67, 0, 0) 0 [some (.ref m), some (.int (S (i0 + 1)))] [] h3 (ax_K Γ ML_law (10, 196, c0 + (X - 0), s0 + (Y - 0)) 1314 [some (.ref sa), some (.ref p), some (.ref m), some (.ref (m + 12)), some (.ref (m + 13)), some (.int (nI i0)), some (.int kk), none, none, none] [] Q) → WP Γ ML_law (10, 196, c0 + X, s0 + Y) 1302 [some (.ref sa), some (.ref p), some (.ref m), some (.ref (m + 12)), some (.ref (m + 13)), some (.int (nI i0)), none, none, none, none] [.int kk] h3 Q := by
    intro X Y h3 kk e1 e2 kk3
    have mC3' := ModC.mv e1 mC
    unfold ModC at mC3'
    have hsa3 := e2.trans hsa
    refine wp_istore (n := 1304) dL_law_1302 rfl rfl rfl rfl ?_
    refine wp_aload_n (n := 1305) dL_law_1304 rfl rfl ?_
    refine wp_aload_n (n := 1306) dL_law_1305 rfl rfl ?_
    refine wp_iload (n := 1308) dL_law_1306 rfl rfl ?_
    refine wp_iconst (n := 1309) (v := nI 1) dL_law_1308 rfl (by decide) ?_
    refine wp_iadd (n := 1310) dL_law_1309 rfl ?_
    refine wp_iald (n := 1311) (i0 + 1) dL_law_1310 rfl (by repeat first | assumption | exact ax_set_self _ _ _ | exact ax_newA_self _ _ _ | refine (ax_set_ne _ _ (by omega)).trans ?_ | refine (ax_newA_ne _ _ _ (by omega)).trans ?_) (by simp only [nI_zero, nI_mul, nI_add]) (by omega) (by omega) ?_
    refine wp_callVs (n := 1314) (rm' := (3, 67, 0, 0)) (c0 := c0) (s0 := s0) rfl dL_law_1311 rfl mlL_232 [.int (S (i0 + 1))] rfl rfl mC3' rfl rfl rfl (Nat.le_of_ble_eq_true rfl) rfl ?_
    exact kk3
  refine wp_aload_n (n := 1292) dL_law_1291 rfl rfl ?_
  refine wp_aload_n (n := 1293) dL_law_1292 rfl rfl ?_
  refine wp_iload (n := 1295) dL_law_1293 rfl rfl ?_
  refine wp_iconst (n := 1296) (v := nI 1) dL_law_1295 rfl (by decide) ?_
  refine wp_iadd (n := 1297) dL_law_1296 rfl ?_
  refine wp_iald (n := 1298) (i0 + 1) dL_law_1297 rfl (by repeat first | assumption | exact ax_set_self _ _ _ | exact ax_newA_self _ _ _ | refine (ax_set_ne _ _ (by omega)).trans ?_ | refine (ax_newA_ne _ _ _ (by omega)).trans ?_) (by simp only [nI_zero, nI_mul, nI_add]) (by omega) (by omega) ?_
  refine wp_aload_n (n := 1299) dL_law_1298 rfl rfl ?_
  refine wp_callSH (n := 1302) (rm' := (8, 137, 1, 6)) (c0 := c0) (s0 := s0) (C := 20) (S := 4409) rfl dL_law_1299 rfl mwL_230 [.ref p, .int (S (i0 + 1)), .ref (m + 12)] rfl rfl rfl rfl (Nat.le_of_ble_eq_true rfl) rfl ?_
  refine s_L_room hF' (by omega) ?_
  refine s_X9_room hF hL0 (by omega) (by omega) (by omega) (fun c1 n1 hn1 => ?_) (fun j hj ej => ?_)
  · refine Or.inr (Or.inl ⟨rfl, rfl, ?_⟩)
    show WP Γ _ _ _ _ _ _ _
    have B : Bet p m h h _ := Bet.n (p := p) ho hn1
    refine MC _ _ _ _ (B.1 _ (by omega)) (B.1 _ (by omega)) ?_
    refine s_X10_room (ModC.mv (B.1 _ (by omega)) mC) ((B.1 _ (by omega)).trans mR) hr0 hI0.1 (by omega) (by omega) (fun d1 h2 fr2 m2 => ?_) (fun i hi ei h2 fr2 m2 => ?_)
    · show WP Γ _ _ _ _ _ _ _
      exact TE _ _ h2 _ _ (by decide) (fin_q hA hs0 hM0 hP0 c10 hm B fr2 ⟨_, _, _, _, _, _, m2⟩) ⟨_, _, _, _, _, _, _, m2⟩
    · have d1 : inN (S (i0 + 1)) np = true := by rw [ei]; exact inN_of hi (by omega)
      exact absurd (c1.symm.trans d1) (by decide)
  · refine ⟨fo, o1, fun fo1 hv => ?_⟩
    show WP Γ _ _ _ _ _ _ _
    have B : Bet p m h h _ := Bet.o fo1 ho hm (fun _ _ => rfl)
    have c1 : inN (S (i0 + 1)) np = true := by rw [ej]; exact inN_of hj (by omega)
    refine MC _ _ _ _ (B.1 _ (by omega)) (B.1 _ (by omega)) ?_
    refine s_X10_room (ModC.mv (B.1 _ (by omega)) mC) ((B.1 _ (by omega)).trans mR) hr0 hI0.1 (by omega) (by omega) (fun d1 h2 fr2 m2 => ?_) (fun i hi ei h2 fr2 m2 => ?_)
    · exact absurd (c1.symm.trans d1) (by decide)
    · have d1 : inN (S (i0 + 1)) np = true := by rw [ei]; exact inN_of hi (by omega)
      show WP Γ _ _ _ _ _ _ _
      obtain rfl : j = i := (nI_eq9 (by omega) (by omega)).mp (ej.symm.trans ei)
      exact TO _ _ h2 _ fo1 (fin_q hA hs0 hM0 hP0 c10 hm B fr2 ⟨_, _, _, _, _, _, m2⟩) ⟨_, _, _, _, _, _, _, m2⟩ ((fr2.2 _ (by omega)).trans (ax_set_self _ _ _)) hv
theorem cs_runCount (hA : Γ.2.1 ≤ p) (hs : ScrP Γ h sa N S) (ho : OutP h m) (c1 : ClsP h p m b D er bs len f (mkK np qu ra re le ln nb pl tm ne rw bk nh hw nc cw t y) KS) (hP : PurP len f (mkK np qu ra re le ln nb pl tm ne rw bk nh hw nc cw t y) KS) (hM : ModP h m er bs len f (mkK np qu ra re le ln nb pl tm ne rw bk nh hw nc cw t y) KS) (hi : i0 + 5 ≤ N) (k : ∀ h', Sim Γ h' p m sa N S → WP Γ ML_law (10, 196, c0, s0) 3329 [some (.ref sa), some (.ref p), some (.ref m), some (.ref (m + 12)), some (.ref (m + 13)), some (.int (nI i0)), none, none, none, none] [] h' Q) : WP Γ ML_law (10, 196, c0 + 20, s0 + 4409) 1675 [some (.ref sa), some (.ref p), some (.ref m), some (.ref (m + 12)), some (.ref (m + 13)), some (.int (nI i0)), none, none, none, none] [] h Q := by
  have hs0 := hs
  have c10 := c1
  have hP0 := hP
  have hM0 := hM
  obtain ⟨hsa, hsl, hN, hfree⟩ := hs
  obtain ⟨⟨fo, o1⟩, fd, o2⟩ := ho
  obtain ⟨hF, hT, hR3, hBat, hSna, ⟨pk, hL⟩, hX, hbD, hm, hz, hsn, hap⟩ := c1
  obtain ⟨hlen, hI, hIS⟩ := hP
  obtain ⟨⟨th, at', bg, e9, ea, cm, mC⟩, ⟨R, mR, hr⟩, ⟨R2, mR2⟩, ⟨R3, mR3⟩, ⟨RE, mE, hre⟩, ⟨RA, mRA⟩, ⟨mpk, mP⟩, ⟨B, mB, hB⟩, ⟨CM, mK⟩, CC, CE, SV, mCC, mCE, mSV, hsv, hsr⟩ := hM
  have hI0 : Inv np qu ra re le ln nb pl tm ne rw bk nh hw nc cw t y := hI
  have hr0 : RowR R np qu ra re le ln nb pl tm ne rw bk nh hw nc cw t y := hr
  have hL0 : LedP h b np qu ra re le ln nb pl tm ne rw bk nh hw nc cw t y pk := hL
  have hre0 : ∀ j, j < np → RE j = re j := hre
  obtain ⟨⟨s1, s2, s3, s4, s5, s6, s7, s8, tn, s9, s10⟩, IM, IP, IJ, IR, IC⟩ := hI0
  have hI0 : Inv np qu ra re le ln nb pl tm ne rw bk nh hw nc cw t y := hI
  have hF' := hF
  unfold FacC at hF'
  have ho : OutP h m := ⟨⟨fo, o1⟩, fd, o2⟩
  have TE : ∀ (X Y : Nat) (h2 : AH) (kk : Int32) (v9 : Int32), ¬ kk = 0 → Sim Γ h2 p m sa N S → (∃ tl at' bg e9 ea lr cm, ModC h2 m (m + 1) kk tl at' bg e9 ea lr cm) → WP Γ ML_law (10, 196, c0 + X, s0 + Y) 1698 [some (.ref sa), some (.ref p), some (.ref m), some (.ref (m + 12)), some (.ref (m + 13)), some (.int (nI i0)), some (.int kk), none, none, none] [.int v9] h2 Q := by
    intro X Y h2 kk v9 hk hsim hm2
    obtain ⟨tl2, at2, bg2, e2, ea2, lr2, cm2, m2⟩ := hm2
    have m20 := m2
    unfold ModC at m2
    refine wp_istore (n := 1700) dL_law_1698 rfl rfl rfl rfl ?_
    refine wp_aload_n (n := 1701) dL_law_1700 rfl rfl ?_
    refine wp_callVs (n := 1704) (rm' := (0, 0, 0, 0)) (c0 := c0) (s0 := s0) rfl dL_law_1701 rfl mlL_156 [] rfl rfl m2 rfl rfl rfl (Nat.le_of_ble_eq_true rfl) rfl ?_
    refine s_X10_thrown m20 ?_
    show WP Γ _ _ _ _ _ _ _
    refine wp_iload (n := 1706) dL_law_1704 rfl rfl ?_
    refine wp_icmp_eq (t := 1711) (n := 1709) dL_law_1706 (by decide) rfl (fun hc => ?_) (fun hc => ?_)
    · refine wp_iload (n := 1713) dL_law_1711 rfl rfl ?_
      refine wp_if_ne (t := 1728) (n := 1716) dL_law_1713 (by decide) rfl (fun hq => ?_) (fun hq => ?_)
      · refine wp_goto (t := 3329) dL_law_1728 (by decide) ?_
        refine wp_lo (lo' := [some (.ref sa), some (.ref p), some (.ref m), some (.ref (m + 12)), some (.ref (m + 13)), some (.int (nI i0)), none, none, none, none]) (fun k v hk => ?_) ?_
        · match k, hk with
          | 0, hk => exact hk
          | 1, hk => exact hk
          | 2, hk => exact hk
          | 3, hk => exact hk
          | 4, hk => exact hk
          | 5, hk => exact hk
          | 6, hk => exact absurd hk (by simp [ax_gl])
          | 7, hk => exact absurd hk (by simp [ax_gl])
          | 8, hk => exact absurd hk (by simp [ax_gl])
          | 9, hk => exact absurd hk (by simp [ax_gl])
          | k + 10, hk => exact absurd hk (by simp [ax_gl])
        exact wp_big (rm := (10, 196, c0, s0)) (Nat.le_refl _) (Nat.le_refl _) (Nat.le_add_right _ _) (Nat.le_add_right _ _) (k h2 hsim)
      · exact absurd hq hk
    · exact absurd rfl hc
  have TO : ∀ (X Y : Nat) (h2 : AH) (r : Int32) (fo2 : Nat → Int64), Sim Γ h2 p m sa N S → (∃ tl at' bg e9 ea lr cm, ModC h2 m (m + 1) 0 tl at' bg e9 ea lr cm) → h2.2 (m + 12) = some (.inl (.long, 1, .inr (.inl fo2))) → fo2 0 = r.toInt64 → WP Γ ML_law (10, 196, c0 + X, s0 + Y) 1698 [some (.ref sa), some (.ref p), some (.ref m), some (.ref (m + 12)), some (.ref (m + 13)), some (.int (nI i0)), some (.int 0), none, none, none] [.int r] h2 Q := by
    intro X Y h2 r fo2 hsim hm2 ho2 hv2
    obtain ⟨tl2, at2, bg2, e2, ea2, lr2, cm2, m2⟩ := hm2
    have m20 := m2
    unfold ModC at m2
    have fin : ∀ l7 : Option Value, WP Γ ML_law (10, 196, c0 + (X - 0), s0 + (Y - 0)) 1728 [some (.ref sa), some (.ref p), some (.ref m), some (.ref (m + 12)), some (.ref (m + 13)), some (.int (nI i0)), some (.int 0), l7, none, none] [] h2 Q := by
      intro l7
      refine wp_goto (t := 3329) dL_law_1728 (by decide) ?_
      refine wp_lo (lo' := [some (.ref sa), some (.ref p), some (.ref m), some (.ref (m + 12)), some (.ref (m + 13)), some (.int (nI i0)), none, none, none, none]) (fun k v hk => ?_) ?_
      · match k, hk with
        | 0, hk => exact hk
        | 1, hk => exact hk
        | 2, hk => exact hk
        | 3, hk => exact hk
        | 4, hk => exact hk
        | 5, hk => exact hk
        | 6, hk => exact absurd hk (by simp [ax_gl])
        | 7, hk => exact absurd hk (by simp [ax_gl])
        | 8, hk => exact absurd hk (by simp [ax_gl])
        | 9, hk => exact absurd hk (by simp [ax_gl])
        | k + 10, hk => exact absurd hk (by simp [ax_gl])
      exact wp_big (rm := (10, 196, c0, s0)) (Nat.le_refl _) (Nat.le_refl _) (Nat.le_add_right _ _) (Nat.le_add_right _ _) (k h2 hsim)
    refine wp_istore (n := 1700) dL_law_1698 rfl rfl rfl rfl ?_
    refine wp_aload_n (n := 1701) dL_law_1700 rfl rfl ?_
    refine wp_callVs (n := 1704) (rm' := (0, 0, 0, 0)) (c0 := c0) (s0 := s0) rfl dL_law_1701 rfl mlL_156 [] rfl rfl m2 rfl rfl rfl (Nat.le_of_ble_eq_true rfl) rfl ?_
    refine s_X10_thrown m20 ?_
    show WP Γ _ _ _ _ _ _ _
    refine wp_iload (n := 1706) dL_law_1704 rfl rfl ?_
    refine wp_icmp_eq (t := 1711) (n := 1709) dL_law_1706 (by decide) rfl (fun hc => ?_) (fun hc => ?_)
    · refine wp_iload (n := 1713) dL_law_1711 rfl rfl ?_
      refine wp_if_ne (t := 1728) (n := 1716) dL_law_1713 (by decide) rfl (fun hq => ?_) (fun hq => ?_)
      · exact absurd rfl hq
      · refine wp_aload_n (n := 1717) dL_law_1716 rfl rfl ?_
        refine wp_iconst (n := 1718) (v := 0) dL_law_1717 rfl (by decide) ?_
        refine wp_lald (n := 1719) 0 dL_law_1718 rfl ho2 rfl (by omega) (by omega) ?_
        rw [hv2]
        refine wp_iload (n := 1721) dL_law_1719 rfl rfl ?_
        refine wp_i2l (n := 1722) dL_law_1721 rfl ?_
        refine wp_lcmp (n := 1723) dL_law_1722 rfl ?_
        rw [lg_self]
        refine wp_if_eq (t := 1728) (n := 1726) dL_law_1723 (by decide) rfl (fun hu => ?_) (fun hu => ?_)
        · exact fin _
        · exact absurd rfl hu
    · exact absurd rfl hc
  have MC : ∀ (X Y : Nat) (h3 : AH) (kk : Int32), h3.2 m = h.2 m → h3.2 sa = h.2 sa → WP Γ MX10_runCount (2, 43, 0, 0) 0 [some (.ref m), some (.int (S (i0 + 1))), none, none] [] h3 (ax_K Γ ML_law (10, 196, c0 + (X - 0), s0 + (Y - 0)) 1698 [some (.ref sa), some (.ref p), some (.ref m), some (.ref (m + 12)), some (.ref (m + 13)), some (.int (nI i0)), some (.int kk), none, none, none] [] Q) → WP Γ ML_law (10, 196, c0 + X, s0 + Y) 1686 [some (.ref sa), some (.ref p), some (.ref m), some (.ref (m + 12)), some (.ref (m + 13)), some (.int (nI i0)), none, none, none, none] [.int kk] h3 Q := by
    intro X Y h3 kk e1 e2 kk3
    have mC3' := ModC.mv e1 mC
    unfold ModC at mC3'
    have hsa3 := e2.trans hsa
    refine wp_istore (n := 1688) dL_law_1686 rfl rfl rfl rfl ?_
    refine wp_aload_n (n := 1689) dL_law_1688 rfl rfl ?_
    refine wp_aload_n (n := 1690) dL_law_1689 rfl rfl ?_
    refine wp_iload (n := 1692) dL_law_1690 rfl rfl ?_
    refine wp_iconst (n := 1693) (v := nI 1) dL_law_1692 rfl (by decide) ?_
    refine wp_iadd (n := 1694) dL_law_1693 rfl ?_
    refine wp_iald (n := 1695) (i0 + 1) dL_law_1694 rfl (by repeat first | assumption | exact ax_set_self _ _ _ | exact ax_newA_self _ _ _ | refine (ax_set_ne _ _ (by omega)).trans ?_ | refine (ax_newA_ne _ _ _ (by omega)).trans ?_) (by simp only [nI_zero, nI_mul, nI_add]) (by omega) (by omega) ?_
    refine wp_callVs (n := 1698) (rm' := (2, 43, 0, 0)) (c0 := c0) (s0 := s0) rfl dL_law_1695 rfl mlL_250 [.int (S (i0 + 1))] rfl rfl mC3' rfl rfl rfl (Nat.le_of_ble_eq_true rfl) rfl ?_
    exact kk3
  refine wp_aload_n (n := 1676) dL_law_1675 rfl rfl ?_
  refine wp_aload_n (n := 1677) dL_law_1676 rfl rfl ?_
  refine wp_iload (n := 1679) dL_law_1677 rfl rfl ?_
  refine wp_iconst (n := 1680) (v := nI 1) dL_law_1679 rfl (by decide) ?_
  refine wp_iadd (n := 1681) dL_law_1680 rfl ?_
  refine wp_iald (n := 1682) (i0 + 1) dL_law_1681 rfl (by repeat first | assumption | exact ax_set_self _ _ _ | exact ax_newA_self _ _ _ | refine (ax_set_ne _ _ (by omega)).trans ?_ | refine (ax_newA_ne _ _ _ (by omega)).trans ?_) (by simp only [nI_zero, nI_mul, nI_add]) (by omega) (by omega) ?_
  refine wp_aload_n (n := 1683) dL_law_1682 rfl rfl ?_
  refine wp_callSH (n := 1686) (rm' := (8, 137, 1, 6)) (c0 := c0) (s0 := s0) (C := 20) (S := 4409) rfl dL_law_1683 rfl mwL_248 [.ref p, .int (S (i0 + 1)), .ref (m + 12)] rfl rfl rfl rfl (Nat.le_of_ble_eq_true rfl) rfl ?_
  refine s_L_runCount hF' (by omega) ?_
  refine s_X9_runCount hF hL0 (by omega) (by omega) (fun c1 n1 hn1 => ?_) (fun j hj ej => ?_)
  · refine Or.inr (Or.inl ⟨rfl, rfl, ?_⟩)
    show WP Γ _ _ _ _ _ _ _
    have B : Bet p m h h _ := Bet.n (p := p) ho hn1
    refine MC _ _ _ _ (B.1 _ (by omega)) (B.1 _ (by omega)) ?_
    refine s_X10_runCount (ModC.mv (B.1 _ (by omega)) mC) ((B.1 _ (by omega)).trans mR) hr0 hI0 (by omega) (by omega) (fun d1 h2 fr2 m2 => ?_) (fun i hi ei h2 fr2 m2 => ?_)
    · show WP Γ _ _ _ _ _ _ _
      exact TE _ _ h2 _ _ (by decide) (fin_q hA hs0 hM0 hP0 c10 hm B fr2 ⟨_, _, _, _, _, _, m2⟩) ⟨_, _, _, _, _, _, _, m2⟩
    · have d1 : inN (S (i0 + 1)) np = true := by rw [ei]; exact inN_of hi (by omega)
      exact absurd (c1.symm.trans d1) (by decide)
  · refine ⟨fo, o1, fun fo1 hv => ?_⟩
    show WP Γ _ _ _ _ _ _ _
    have B : Bet p m h h _ := Bet.o fo1 ho hm (fun _ _ => rfl)
    have c1 : inN (S (i0 + 1)) np = true := by rw [ej]; exact inN_of hj (by omega)
    refine MC _ _ _ _ (B.1 _ (by omega)) (B.1 _ (by omega)) ?_
    refine s_X10_runCount (ModC.mv (B.1 _ (by omega)) mC) ((B.1 _ (by omega)).trans mR) hr0 hI0 (by omega) (by omega) (fun d1 h2 fr2 m2 => ?_) (fun i hi ei h2 fr2 m2 => ?_)
    · exact absurd (c1.symm.trans d1) (by decide)
    · have d1 : inN (S (i0 + 1)) np = true := by rw [ei]; exact inN_of hi (by omega)
      show WP Γ _ _ _ _ _ _ _
      obtain rfl : j = i := (nI_eq9 (by omega) (by omega)).mp (ej.symm.trans ei)
      exact TO _ _ h2 _ fo1 (fin_q hA hs0 hM0 hP0 c10 hm B fr2 ⟨_, _, _, _, _, _, m2⟩) ⟨_, _, _, _, _, _, _, m2⟩ ((fr2.2 _ (by omega)).trans (ax_set_self _ _ _)) hv
theorem cs_longestRun (hA : Γ.2.1 ≤ p) (hs : ScrP Γ h sa N S) (ho : OutP h m) (c1 : ClsP h p m b D er bs len f (mkK np qu ra re le ln nb pl tm ne rw bk nh hw nc cw t y) KS) (hP : PurP len f (mkK np qu ra re le ln nb pl tm ne rw bk nh hw nc cw t y) KS) (hM : ModP h m er bs len f (mkK np qu ra re le ln nb pl tm ne rw bk nh hw nc cw t y) KS) (hi : i0 + 5 ≤ N) (k : ∀ h', Sim Γ h' p m sa N S → WP Γ ML_law (10, 196, c0, s0) 3329 [some (.ref sa), some (.ref p), some (.ref m), some (.ref (m + 12)), some (.ref (m + 13)), some (.int (nI i0)), none, none, none, none] [] h' Q) : WP Γ ML_law (10, 196, c0 + 20, s0 + 4409) 1731 [some (.ref sa), some (.ref p), some (.ref m), some (.ref (m + 12)), some (.ref (m + 13)), some (.int (nI i0)), none, none, none, none] [] h Q := by
  have hs0 := hs
  have c10 := c1
  have hP0 := hP
  have hM0 := hM
  obtain ⟨hsa, hsl, hN, hfree⟩ := hs
  obtain ⟨⟨fo, o1⟩, fd, o2⟩ := ho
  obtain ⟨hF, hT, hR3, hBat, hSna, ⟨pk, hL⟩, hX, hbD, hm, hz, hsn, hap⟩ := c1
  obtain ⟨hlen, hI, hIS⟩ := hP
  obtain ⟨⟨th, at', bg, e9, ea, cm, mC⟩, ⟨R, mR, hr⟩, ⟨R2, mR2⟩, ⟨R3, mR3⟩, ⟨RE, mE, hre⟩, ⟨RA, mRA⟩, ⟨mpk, mP⟩, ⟨B, mB, hB⟩, ⟨CM, mK⟩, CC, CE, SV, mCC, mCE, mSV, hsv, hsr⟩ := hM
  have hI0 : Inv np qu ra re le ln nb pl tm ne rw bk nh hw nc cw t y := hI
  have hr0 : RowR R np qu ra re le ln nb pl tm ne rw bk nh hw nc cw t y := hr
  have hL0 : LedP h b np qu ra re le ln nb pl tm ne rw bk nh hw nc cw t y pk := hL
  have hre0 : ∀ j, j < np → RE j = re j := hre
  obtain ⟨⟨s1, s2, s3, s4, s5, s6, s7, s8, tn, s9, s10⟩, IM, IP, IJ, IR, IC⟩ := hI0
  have hI0 : Inv np qu ra re le ln nb pl tm ne rw bk nh hw nc cw t y := hI
  have hF' := hF
  unfold FacC at hF'
  have ho : OutP h m := ⟨⟨fo, o1⟩, fd, o2⟩
  have TE : ∀ (X Y : Nat) (h2 : AH) (kk : Int32) (v9 : Int32), ¬ kk = 0 → Sim Γ h2 p m sa N S → (∃ tl at' bg e9 ea lr cm, ModC h2 m (m + 1) kk tl at' bg e9 ea lr cm) → WP Γ ML_law (10, 196, c0 + X, s0 + Y) 1754 [some (.ref sa), some (.ref p), some (.ref m), some (.ref (m + 12)), some (.ref (m + 13)), some (.int (nI i0)), some (.int kk), none, none, none] [.int v9] h2 Q := by
    intro X Y h2 kk v9 hk hsim hm2
    obtain ⟨tl2, at2, bg2, e2, ea2, lr2, cm2, m2⟩ := hm2
    have m20 := m2
    unfold ModC at m2
    refine wp_istore (n := 1756) dL_law_1754 rfl rfl rfl rfl ?_
    refine wp_aload_n (n := 1757) dL_law_1756 rfl rfl ?_
    refine wp_callVs (n := 1760) (rm' := (0, 0, 0, 0)) (c0 := c0) (s0 := s0) rfl dL_law_1757 rfl mlL_156 [] rfl rfl m2 rfl rfl rfl (Nat.le_of_ble_eq_true rfl) rfl ?_
    refine s_X10_thrown m20 ?_
    show WP Γ _ _ _ _ _ _ _
    refine wp_iload (n := 1762) dL_law_1760 rfl rfl ?_
    refine wp_icmp_eq (t := 1767) (n := 1765) dL_law_1762 (by decide) rfl (fun hc => ?_) (fun hc => ?_)
    · refine wp_iload (n := 1769) dL_law_1767 rfl rfl ?_
      refine wp_if_ne (t := 1784) (n := 1772) dL_law_1769 (by decide) rfl (fun hq => ?_) (fun hq => ?_)
      · refine wp_goto (t := 3329) dL_law_1784 (by decide) ?_
        refine wp_lo (lo' := [some (.ref sa), some (.ref p), some (.ref m), some (.ref (m + 12)), some (.ref (m + 13)), some (.int (nI i0)), none, none, none, none]) (fun k v hk => ?_) ?_
        · match k, hk with
          | 0, hk => exact hk
          | 1, hk => exact hk
          | 2, hk => exact hk
          | 3, hk => exact hk
          | 4, hk => exact hk
          | 5, hk => exact hk
          | 6, hk => exact absurd hk (by simp [ax_gl])
          | 7, hk => exact absurd hk (by simp [ax_gl])
          | 8, hk => exact absurd hk (by simp [ax_gl])
          | 9, hk => exact absurd hk (by simp [ax_gl])
          | k + 10, hk => exact absurd hk (by simp [ax_gl])
        exact wp_big (rm := (10, 196, c0, s0)) (Nat.le_refl _) (Nat.le_refl _) (Nat.le_add_right _ _) (Nat.le_add_right _ _) (k h2 hsim)
      · exact absurd hq hk
    · exact absurd rfl hc
  have TO : ∀ (X Y : Nat) (h2 : AH) (r : Int32) (fo2 : Nat → Int64), Sim Γ h2 p m sa N S → (∃ tl at' bg e9 ea lr cm, ModC h2 m (m + 1) 0 tl at' bg e9 ea lr cm) → h2.2 (m + 12) = some (.inl (.long, 1, .inr (.inl fo2))) → fo2 0 = r.toInt64 → WP Γ ML_law (10, 196, c0 + X, s0 + Y) 1754 [some (.ref sa), some (.ref p), some (.ref m), some (.ref (m + 12)), some (.ref (m + 13)), some (.int (nI i0)), some (.int 0), none, none, none] [.int r] h2 Q := by
    intro X Y h2 r fo2 hsim hm2 ho2 hv2
    obtain ⟨tl2, at2, bg2, e2, ea2, lr2, cm2, m2⟩ := hm2
    have m20 := m2
    unfold ModC at m2
    have fin : ∀ l7 : Option Value, WP Γ ML_law (10, 196, c0 + (X - 0), s0 + (Y - 0)) 1784 [some (.ref sa), some (.ref p), some (.ref m), some (.ref (m + 12)), some (.ref (m + 13)), some (.int (nI i0)), some (.int 0), l7, none, none] [] h2 Q := by
      intro l7
      refine wp_goto (t := 3329) dL_law_1784 (by decide) ?_
      refine wp_lo (lo' := [some (.ref sa), some (.ref p), some (.ref m), some (.ref (m + 12)), some (.ref (m + 13)), some (.int (nI i0)), none, none, none, none]) (fun k v hk => ?_) ?_
      · match k, hk with
        | 0, hk => exact hk
        | 1, hk => exact hk
        | 2, hk => exact hk
        | 3, hk => exact hk
        | 4, hk => exact hk
        | 5, hk => exact hk
        | 6, hk => exact absurd hk (by simp [ax_gl])
        | 7, hk => exact absurd hk (by simp [ax_gl])
        | 8, hk => exact absurd hk (by simp [ax_gl])
        | 9, hk => exact absurd hk (by simp [ax_gl])
        | k + 10, hk => exact absurd hk (by simp [ax_gl])
      exact wp_big (rm := (10, 196, c0, s0)) (Nat.le_refl _) (Nat.le_refl _) (Nat.le_add_right _ _) (Nat.le_add_right _ _) (k h2 hsim)
    refine wp_istore (n := 1756) dL_law_1754 rfl rfl rfl rfl ?_
    refine wp_aload_n (n := 1757) dL_law_1756 rfl rfl ?_
    refine wp_callVs (n := 1760) (rm' := (0, 0, 0, 0)) (c0 := c0) (s0 := s0) rfl dL_law_1757 rfl mlL_156 [] rfl rfl m2 rfl rfl rfl (Nat.le_of_ble_eq_true rfl) rfl ?_
    refine s_X10_thrown m20 ?_
    show WP Γ _ _ _ _ _ _ _
    refine wp_iload (n := 1762) dL_law_1760 rfl rfl ?_
    refine wp_icmp_eq (t := 1767) (n := 1765) dL_law_1762 (by decide) rfl (fun hc => ?_) (fun hc => ?_)
    · refine wp_iload (n := 1769) dL_law_1767 rfl rfl ?_
      refine wp_if_ne (t := 1784) (n := 1772) dL_law_1769 (by decide) rfl (fun hq => ?_) (fun hq => ?_)
      · exact absurd rfl hq
      · refine wp_aload_n (n := 1773) dL_law_1772 rfl rfl ?_
        refine wp_iconst (n := 1774) (v := 0) dL_law_1773 rfl (by decide) ?_
        refine wp_lald (n := 1775) 0 dL_law_1774 rfl ho2 rfl (by omega) (by omega) ?_
        rw [hv2]
        refine wp_iload (n := 1777) dL_law_1775 rfl rfl ?_
        refine wp_i2l (n := 1778) dL_law_1777 rfl ?_
        refine wp_lcmp (n := 1779) dL_law_1778 rfl ?_
        rw [lg_self]
        refine wp_if_eq (t := 1784) (n := 1782) dL_law_1779 (by decide) rfl (fun hu => ?_) (fun hu => ?_)
        · exact fin _
        · exact absurd rfl hu
    · exact absurd rfl hc
  have MC : ∀ (X Y : Nat) (h3 : AH) (kk : Int32), h3.2 m = h.2 m → h3.2 sa = h.2 sa → WP Γ MX10_longestRun (2, 84, 0, 0) 0 [some (.ref m), some (.int (S (i0 + 1)))] [] h3 (ax_K Γ ML_law (10, 196, c0 + (X - 0), s0 + (Y - 0)) 1754 [some (.ref sa), some (.ref p), some (.ref m), some (.ref (m + 12)), some (.ref (m + 13)), some (.int (nI i0)), some (.int kk), none, none, none] [] Q) → WP Γ ML_law (10, 196, c0 + X, s0 + Y) 1742 [some (.ref sa), some (.ref p), some (.ref m), some (.ref (m + 12)), some (.ref (m + 13)), some (.int (nI i0)), none, none, none, none] [.int kk] h3 Q := by
    intro X Y h3 kk e1 e2 kk3
    have mC3' := ModC.mv e1 mC
    unfold ModC at mC3'
    have hsa3 := e2.trans hsa
    refine wp_istore (n := 1744) dL_law_1742 rfl rfl rfl rfl ?_
    refine wp_aload_n (n := 1745) dL_law_1744 rfl rfl ?_
    refine wp_aload_n (n := 1746) dL_law_1745 rfl rfl ?_
    refine wp_iload (n := 1748) dL_law_1746 rfl rfl ?_
    refine wp_iconst (n := 1749) (v := nI 1) dL_law_1748 rfl (by decide) ?_
    refine wp_iadd (n := 1750) dL_law_1749 rfl ?_
    refine wp_iald (n := 1751) (i0 + 1) dL_law_1750 rfl (by repeat first | assumption | exact ax_set_self _ _ _ | exact ax_newA_self _ _ _ | refine (ax_set_ne _ _ (by omega)).trans ?_ | refine (ax_newA_ne _ _ _ (by omega)).trans ?_) (by simp only [nI_zero, nI_mul, nI_add]) (by omega) (by omega) ?_
    refine wp_callVs (n := 1754) (rm' := (2, 84, 0, 0)) (c0 := c0) (s0 := s0) rfl dL_law_1751 rfl mlL_253 [.int (S (i0 + 1))] rfl rfl mC3' rfl rfl rfl (Nat.le_of_ble_eq_true rfl) rfl ?_
    exact kk3
  refine wp_aload_n (n := 1732) dL_law_1731 rfl rfl ?_
  refine wp_aload_n (n := 1733) dL_law_1732 rfl rfl ?_
  refine wp_iload (n := 1735) dL_law_1733 rfl rfl ?_
  refine wp_iconst (n := 1736) (v := nI 1) dL_law_1735 rfl (by decide) ?_
  refine wp_iadd (n := 1737) dL_law_1736 rfl ?_
  refine wp_iald (n := 1738) (i0 + 1) dL_law_1737 rfl (by repeat first | assumption | exact ax_set_self _ _ _ | exact ax_newA_self _ _ _ | refine (ax_set_ne _ _ (by omega)).trans ?_ | refine (ax_newA_ne _ _ _ (by omega)).trans ?_) (by simp only [nI_zero, nI_mul, nI_add]) (by omega) (by omega) ?_
  refine wp_aload_n (n := 1739) dL_law_1738 rfl rfl ?_
  refine wp_callSH (n := 1742) (rm' := (8, 137, 1, 6)) (c0 := c0) (s0 := s0) (C := 20) (S := 4409) rfl dL_law_1739 rfl mwL_251 [.ref p, .int (S (i0 + 1)), .ref (m + 12)] rfl rfl rfl rfl (Nat.le_of_ble_eq_true rfl) rfl ?_
  refine s_L_longestRun hF' (by omega) ?_
  refine s_X9_longestRun hF hL0 (by omega) (by omega) (fun c1 n1 hn1 => ?_) (fun j hj ej => ?_)
  · refine Or.inr (Or.inl ⟨rfl, rfl, ?_⟩)
    show WP Γ _ _ _ _ _ _ _
    have B : Bet p m h h _ := Bet.n (p := p) ho hn1
    refine MC _ _ _ _ (B.1 _ (by omega)) (B.1 _ (by omega)) ?_
    refine s_X10_longestRun (ModC.mv (B.1 _ (by omega)) mC) ((B.1 _ (by omega)).trans mR) hr0 hI0 (by omega) (by omega) (fun d1 h2 fr2 m2 => ?_) (fun i hi ei h2 fr2 m2 => ?_)
    · show WP Γ _ _ _ _ _ _ _
      exact TE _ _ h2 _ _ (by decide) (fin_q hA hs0 hM0 hP0 c10 hm B fr2 ⟨_, _, _, _, _, _, m2⟩) ⟨_, _, _, _, _, _, _, m2⟩
    · have d1 : inN (S (i0 + 1)) np = true := by rw [ei]; exact inN_of hi (by omega)
      exact absurd (c1.symm.trans d1) (by decide)
  · refine ⟨fo, o1, fun fo1 hv => ?_⟩
    show WP Γ _ _ _ _ _ _ _
    have B : Bet p m h h _ := Bet.o fo1 ho hm (fun _ _ => rfl)
    have c1 : inN (S (i0 + 1)) np = true := by rw [ej]; exact inN_of hj (by omega)
    refine MC _ _ _ _ (B.1 _ (by omega)) (B.1 _ (by omega)) ?_
    refine s_X10_longestRun (ModC.mv (B.1 _ (by omega)) mC) ((B.1 _ (by omega)).trans mR) hr0 hI0 (by omega) (by omega) (fun d1 h2 fr2 m2 => ?_) (fun i hi ei h2 fr2 m2 => ?_)
    · exact absurd (c1.symm.trans d1) (by decide)
    · have d1 : inN (S (i0 + 1)) np = true := by rw [ei]; exact inN_of hi (by omega)
      show WP Γ _ _ _ _ _ _ _
      obtain rfl : j = i := (nI_eq9 (by omega) (by omega)).mp (ej.symm.trans ei)
      exact TO _ _ h2 _ fo1 (fin_q hA hs0 hM0 hP0 c10 hm B fr2 ⟨_, _, _, _, _, _, m2⟩) ⟨_, _, _, _, _, _, _, m2⟩ ((fr2.2 _ (by omega)).trans (ax_set_self _ _ _)) hv
theorem cs_blockAt (hA : Γ.2.1 ≤ p) (hs : ScrP Γ h sa N S) (ho : OutP h m) (c1 : ClsP h p m b D er bs len f (mkK np qu ra re le ln nb pl tm ne rw bk nh hw nc cw t y) KS) (hP : PurP len f (mkK np qu ra re le ln nb pl tm ne rw bk nh hw nc cw t y) KS) (hM : ModP h m er bs len f (mkK np qu ra re le ln nb pl tm ne rw bk nh hw nc cw t y) KS) (hi : i0 + 5 ≤ N) (k : ∀ h', Sim Γ h' p m sa N S → WP Γ ML_law (10, 196, c0, s0) 3329 [some (.ref sa), some (.ref p), some (.ref m), some (.ref (m + 12)), some (.ref (m + 13)), some (.int (nI i0)), none, none, none, none] [] h' Q) : WP Γ ML_law (10, 196, c0 + 20, s0 + 4409) 1527 [some (.ref sa), some (.ref p), some (.ref m), some (.ref (m + 12)), some (.ref (m + 13)), some (.int (nI i0)), none, none, none, none] [] h Q := by
  have hs0 := hs
  have c10 := c1
  have hP0 := hP
  have hM0 := hM
  obtain ⟨hsa, hsl, hN, hfree⟩ := hs
  obtain ⟨⟨fo, o1⟩, fd, o2⟩ := ho
  obtain ⟨hF, hT, hR3, hBat, hSna, ⟨pk, hL⟩, hX, hbD, hm, hz, hsn, hap⟩ := c1
  obtain ⟨hlen, hI, hIS⟩ := hP
  obtain ⟨⟨th, at', bg, e9, ea, cm, mC⟩, ⟨R, mR, hr⟩, ⟨R2, mR2⟩, ⟨R3, mR3⟩, ⟨RE, mE, hre⟩, ⟨RA, mRA⟩, ⟨mpk, mP⟩, ⟨B, mB, hB⟩, ⟨CM, mK⟩, CC, CE, SV, mCC, mCE, mSV, hsv, hsr⟩ := hM
  have hI0 : Inv np qu ra re le ln nb pl tm ne rw bk nh hw nc cw t y := hI
  have hr0 : RowR R np qu ra re le ln nb pl tm ne rw bk nh hw nc cw t y := hr
  have hL0 : LedP h b np qu ra re le ln nb pl tm ne rw bk nh hw nc cw t y pk := hL
  have hre0 : ∀ j, j < np → RE j = re j := hre
  obtain ⟨⟨s1, s2, s3, s4, s5, s6, s7, s8, tn, s9, s10⟩, IM, IP, IJ, IR, IC⟩ := hI0
  have hI0 : Inv np qu ra re le ln nb pl tm ne rw bk nh hw nc cw t y := hI
  have hF' := hF
  unfold FacC at hF'
  have ho : OutP h m := ⟨⟨fo, o1⟩, fd, o2⟩
  have TE : ∀ (X Y : Nat) (h2 : AH) (kk : Int32) (v9 : Int32), ¬ kk = 0 → Sim Γ h2 p m sa N S → (∃ tl at' bg e9 ea lr cm, ModC h2 m (m + 1) kk tl at' bg e9 ea lr cm) → WP Γ ML_law (10, 196, c0 + X, s0 + Y) 1562 [some (.ref sa), some (.ref p), some (.ref m), some (.ref (m + 12)), some (.ref (m + 13)), some (.int (nI i0)), some (.int kk), none, none, none] [.int v9] h2 Q := by
    intro X Y h2 kk v9 hk hsim hm2
    obtain ⟨tl2, at2, bg2, e2, ea2, lr2, cm2, m2⟩ := hm2
    have m20 := m2
    unfold ModC at m2
    refine wp_istore (n := 1564) dL_law_1562 rfl rfl rfl rfl ?_
    refine wp_aload_n (n := 1565) dL_law_1564 rfl rfl ?_
    refine wp_callVs (n := 1568) (rm' := (0, 0, 0, 0)) (c0 := c0) (s0 := s0) rfl dL_law_1565 rfl mlL_156 [] rfl rfl m2 rfl rfl rfl (Nat.le_of_ble_eq_true rfl) rfl ?_
    refine s_X10_thrown m20 ?_
    show WP Γ _ _ _ _ _ _ _
    refine wp_iload (n := 1570) dL_law_1568 rfl rfl ?_
    refine wp_icmp_eq (t := 1575) (n := 1573) dL_law_1570 (by decide) rfl (fun hc => ?_) (fun hc => ?_)
    · refine wp_iload (n := 1577) dL_law_1575 rfl rfl ?_
      refine wp_if_ne (t := 1592) (n := 1580) dL_law_1577 (by decide) rfl (fun hq => ?_) (fun hq => ?_)
      · refine wp_goto (t := 3329) dL_law_1592 (by decide) ?_
        refine wp_lo (lo' := [some (.ref sa), some (.ref p), some (.ref m), some (.ref (m + 12)), some (.ref (m + 13)), some (.int (nI i0)), none, none, none, none]) (fun k v hk => ?_) ?_
        · match k, hk with
          | 0, hk => exact hk
          | 1, hk => exact hk
          | 2, hk => exact hk
          | 3, hk => exact hk
          | 4, hk => exact hk
          | 5, hk => exact hk
          | 6, hk => exact absurd hk (by simp [ax_gl])
          | 7, hk => exact absurd hk (by simp [ax_gl])
          | 8, hk => exact absurd hk (by simp [ax_gl])
          | 9, hk => exact absurd hk (by simp [ax_gl])
          | k + 10, hk => exact absurd hk (by simp [ax_gl])
        exact wp_big (rm := (10, 196, c0, s0)) (Nat.le_refl _) (Nat.le_refl _) (Nat.le_add_right _ _) (Nat.le_add_right _ _) (k h2 hsim)
      · exact absurd hq hk
    · exact absurd rfl hc
  have TO : ∀ (X Y : Nat) (h2 : AH) (r : Int32) (fo2 : Nat → Int64), Sim Γ h2 p m sa N S → (∃ tl at' bg e9 ea lr cm, ModC h2 m (m + 1) 0 tl at' bg e9 ea lr cm) → h2.2 (m + 12) = some (.inl (.long, 1, .inr (.inl fo2))) → fo2 0 = r.toInt64 → WP Γ ML_law (10, 196, c0 + X, s0 + Y) 1562 [some (.ref sa), some (.ref p), some (.ref m), some (.ref (m + 12)), some (.ref (m + 13)), some (.int (nI i0)), some (.int 0), none, none, none] [.int r] h2 Q := by
    intro X Y h2 r fo2 hsim hm2 ho2 hv2
    obtain ⟨tl2, at2, bg2, e2, ea2, lr2, cm2, m2⟩ := hm2
    have m20 := m2
    unfold ModC at m2
    have fin : ∀ l7 : Option Value, WP Γ ML_law (10, 196, c0 + (X - 0), s0 + (Y - 0)) 1592 [some (.ref sa), some (.ref p), some (.ref m), some (.ref (m + 12)), some (.ref (m + 13)), some (.int (nI i0)), some (.int 0), l7, none, none] [] h2 Q := by
      intro l7
      refine wp_goto (t := 3329) dL_law_1592 (by decide) ?_
      refine wp_lo (lo' := [some (.ref sa), some (.ref p), some (.ref m), some (.ref (m + 12)), some (.ref (m + 13)), some (.int (nI i0)), none, none, none, none]) (fun k v hk => ?_) ?_
      · match k, hk with
        | 0, hk => exact hk
        | 1, hk => exact hk
        | 2, hk => exact hk
        | 3, hk => exact hk
        | 4, hk => exact hk
        | 5, hk => exact hk
        | 6, hk => exact absurd hk (by simp [ax_gl])
        | 7, hk => exact absurd hk (by simp [ax_gl])
        | 8, hk => exact absurd hk (by simp [ax_gl])
        | 9, hk => exact absurd hk (by simp [ax_gl])
        | k + 10, hk => exact absurd hk (by simp [ax_gl])
      exact wp_big (rm := (10, 196, c0, s0)) (Nat.le_refl _) (Nat.le_refl _) (Nat.le_add_right _ _) (Nat.le_add_right _ _) (k h2 hsim)
    refine wp_istore (n := 1564) dL_law_1562 rfl rfl rfl rfl ?_
    refine wp_aload_n (n := 1565) dL_law_1564 rfl rfl ?_
    refine wp_callVs (n := 1568) (rm' := (0, 0, 0, 0)) (c0 := c0) (s0 := s0) rfl dL_law_1565 rfl mlL_156 [] rfl rfl m2 rfl rfl rfl (Nat.le_of_ble_eq_true rfl) rfl ?_
    refine s_X10_thrown m20 ?_
    show WP Γ _ _ _ _ _ _ _
    refine wp_iload (n := 1570) dL_law_1568 rfl rfl ?_
    refine wp_icmp_eq (t := 1575) (n := 1573) dL_law_1570 (by decide) rfl (fun hc => ?_) (fun hc => ?_)
    · refine wp_iload (n := 1577) dL_law_1575 rfl rfl ?_
      refine wp_if_ne (t := 1592) (n := 1580) dL_law_1577 (by decide) rfl (fun hq => ?_) (fun hq => ?_)
      · exact absurd rfl hq
      · refine wp_aload_n (n := 1581) dL_law_1580 rfl rfl ?_
        refine wp_iconst (n := 1582) (v := 0) dL_law_1581 rfl (by decide) ?_
        refine wp_lald (n := 1583) 0 dL_law_1582 rfl ho2 rfl (by omega) (by omega) ?_
        rw [hv2]
        refine wp_iload (n := 1585) dL_law_1583 rfl rfl ?_
        refine wp_i2l (n := 1586) dL_law_1585 rfl ?_
        refine wp_lcmp (n := 1587) dL_law_1586 rfl ?_
        rw [lg_self]
        refine wp_if_eq (t := 1592) (n := 1590) dL_law_1587 (by decide) rfl (fun hu => ?_) (fun hu => ?_)
        · exact fin _
        · exact absurd rfl hu
    · exact absurd rfl hc
  have MC : ∀ (X Y : Nat) (h3 : AH) (kk : Int32), h3.2 m = h.2 m → h3.2 sa = h.2 sa → WP Γ MX10_blockAt (2, 43, 0, 0) 0 [some (.ref m), some (.int (S (i0 + 1))), some (.int (S (i0 + 2))), none, none] [] h3 (ax_K Γ ML_law (10, 196, c0 + (X - 0), s0 + (Y - 0)) 1562 [some (.ref sa), some (.ref p), some (.ref m), some (.ref (m + 12)), some (.ref (m + 13)), some (.int (nI i0)), some (.int kk), none, none, none] [] Q) → WP Γ ML_law (10, 196, c0 + X, s0 + Y) 1544 [some (.ref sa), some (.ref p), some (.ref m), some (.ref (m + 12)), some (.ref (m + 13)), some (.int (nI i0)), none, none, none, none] [.int kk] h3 Q := by
    intro X Y h3 kk e1 e2 kk3
    have mC3' := ModC.mv e1 mC
    unfold ModC at mC3'
    have hsa3 := e2.trans hsa
    refine wp_istore (n := 1546) dL_law_1544 rfl rfl rfl rfl ?_
    refine wp_aload_n (n := 1547) dL_law_1546 rfl rfl ?_
    refine wp_aload_n (n := 1548) dL_law_1547 rfl rfl ?_
    refine wp_iload (n := 1550) dL_law_1548 rfl rfl ?_
    refine wp_iconst (n := 1551) (v := nI 1) dL_law_1550 rfl (by decide) ?_
    refine wp_iadd (n := 1552) dL_law_1551 rfl ?_
    refine wp_iald (n := 1553) (i0 + 1) dL_law_1552 rfl (by repeat first | assumption | exact ax_set_self _ _ _ | exact ax_newA_self _ _ _ | refine (ax_set_ne _ _ (by omega)).trans ?_ | refine (ax_newA_ne _ _ _ (by omega)).trans ?_) (by simp only [nI_zero, nI_mul, nI_add]) (by omega) (by omega) ?_
    refine wp_aload_n (n := 1554) dL_law_1553 rfl rfl ?_
    refine wp_iload (n := 1556) dL_law_1554 rfl rfl ?_
    refine wp_iconst (n := 1557) (v := nI 2) dL_law_1556 rfl (by decide) ?_
    refine wp_iadd (n := 1558) dL_law_1557 rfl ?_
    refine wp_iald (n := 1559) (i0 + 2) dL_law_1558 rfl (by repeat first | assumption | exact ax_set_self _ _ _ | exact ax_newA_self _ _ _ | refine (ax_set_ne _ _ (by omega)).trans ?_ | refine (ax_newA_ne _ _ _ (by omega)).trans ?_) (by simp only [nI_zero, nI_mul, nI_add]) (by omega) (by omega) ?_
    refine wp_callVs (n := 1562) (rm' := (2, 43, 0, 0)) (c0 := c0) (s0 := s0) rfl dL_law_1559 rfl mlL_244 [.int (S (i0 + 1)), .int (S (i0 + 2))] rfl rfl mC3' rfl rfl rfl (Nat.le_of_ble_eq_true rfl) rfl ?_
    exact kk3
  refine wp_aload_n (n := 1528) dL_law_1527 rfl rfl ?_
  refine wp_aload_n (n := 1529) dL_law_1528 rfl rfl ?_
  refine wp_iload (n := 1531) dL_law_1529 rfl rfl ?_
  refine wp_iconst (n := 1532) (v := nI 1) dL_law_1531 rfl (by decide) ?_
  refine wp_iadd (n := 1533) dL_law_1532 rfl ?_
  refine wp_iald (n := 1534) (i0 + 1) dL_law_1533 rfl (by repeat first | assumption | exact ax_set_self _ _ _ | exact ax_newA_self _ _ _ | refine (ax_set_ne _ _ (by omega)).trans ?_ | refine (ax_newA_ne _ _ _ (by omega)).trans ?_) (by simp only [nI_zero, nI_mul, nI_add]) (by omega) (by omega) ?_
  refine wp_aload_n (n := 1535) dL_law_1534 rfl rfl ?_
  refine wp_iload (n := 1537) dL_law_1535 rfl rfl ?_
  refine wp_iconst (n := 1538) (v := nI 2) dL_law_1537 rfl (by decide) ?_
  refine wp_iadd (n := 1539) dL_law_1538 rfl ?_
  refine wp_iald (n := 1540) (i0 + 2) dL_law_1539 rfl (by repeat first | assumption | exact ax_set_self _ _ _ | exact ax_newA_self _ _ _ | refine (ax_set_ne _ _ (by omega)).trans ?_ | refine (ax_newA_ne _ _ _ (by omega)).trans ?_) (by simp only [nI_zero, nI_mul, nI_add]) (by omega) (by omega) ?_
  refine wp_aload_n (n := 1541) dL_law_1540 rfl rfl ?_
  refine wp_callSH (n := 1544) (rm' := (8, 138, 1, 6)) (c0 := c0) (s0 := s0) (C := 20) (S := 4409) rfl dL_law_1541 rfl mwL_242 [.ref p, .int (S (i0 + 1)), .int (S (i0 + 2)), .ref (m + 12)] rfl rfl rfl rfl (Nat.le_of_ble_eq_true rfl) rfl ?_
  refine s_L_blockAt hF' (by omega) ?_
  refine s_X9_blockAt hF hL0 (by omega) (by omega) (fun c1 n1 hn1 => ?_) (fun j hj ej => ?_)
  · refine Or.inr (Or.inl ⟨rfl, rfl, ?_⟩)
    show WP Γ _ _ _ _ _ _ _
    have B : Bet p m h h _ := Bet.n (p := p) ho hn1
    refine MC _ _ _ _ (B.1 _ (by omega)) (B.1 _ (by omega)) ?_
    refine s_X10_blockAt (ModC.mv (B.1 _ (by omega)) mC) ((B.1 _ (by omega)).trans mR) hr0 hI0 (by omega) (by omega) (fun d1 h2 fr2 m2 => ?_) (fun i hi ei h2 fr2 m2 => ?_)
    · show WP Γ _ _ _ _ _ _ _
      exact TE _ _ h2 _ _ (by decide) (fin_q hA hs0 hM0 hP0 c10 hm B fr2 ⟨_, _, _, _, _, _, m2⟩) ⟨_, _, _, _, _, _, _, m2⟩
    · have d1 : inN (S (i0 + 1)) np = true := by rw [ei]; exact inN_of hi (by omega)
      exact absurd (c1.symm.trans d1) (by decide)
  · refine ⟨fo, o1, fun fo1 hv => ?_⟩
    show WP Γ _ _ _ _ _ _ _
    have B : Bet p m h h _ := Bet.o fo1 ho hm (fun _ _ => rfl)
    have c1 : inN (S (i0 + 1)) np = true := by rw [ej]; exact inN_of hj (by omega)
    refine MC _ _ _ _ (B.1 _ (by omega)) (B.1 _ (by omega)) ?_
    refine s_X10_blockAt (ModC.mv (B.1 _ (by omega)) mC) ((B.1 _ (by omega)).trans mR) hr0 hI0 (by omega) (by omega) (fun d1 h2 fr2 m2 => ?_) (fun i hi ei h2 fr2 m2 => ?_)
    · exact absurd (c1.symm.trans d1) (by decide)
    · have d1 : inN (S (i0 + 1)) np = true := by rw [ei]; exact inN_of hi (by omega)
      show WP Γ _ _ _ _ _ _ _
      obtain rfl : j = i := (nI_eq9 (by omega) (by omega)).mp (ej.symm.trans ei)
      exact TO _ _ h2 _ fo1 (fin_q hA hs0 hM0 hP0 c10 hm B fr2 ⟨_, _, _, _, _, _, m2⟩) ⟨_, _, _, _, _, _, _, m2⟩ ((fr2.2 _ (by omega)).trans (ax_set_self _ _ _)) hv
theorem cs_reservedFrom (hA : Γ.2.1 ≤ p) (hs : ScrP Γ h sa N S) (ho : OutP h m) (c1 : ClsP h p m b D er bs len f (mkK np qu ra re le ln nb pl tm ne rw bk nh hw nc cw t y) KS) (hP : PurP len f (mkK np qu ra re le ln nb pl tm ne rw bk nh hw nc cw t y) KS) (hM : ModP h m er bs len f (mkK np qu ra re le ln nb pl tm ne rw bk nh hw nc cw t y) KS) (hi : i0 + 5 ≤ N) (k : ∀ h', Sim Γ h' p m sa N S → WP Γ ML_law (10, 196, c0, s0) 3329 [some (.ref sa), some (.ref p), some (.ref m), some (.ref (m + 12)), some (.ref (m + 13)), some (.int (nI i0)), none, none, none, none] [] h' Q) : WP Γ ML_law (10, 196, c0 + 20, s0 + 4409) 2614 [some (.ref sa), some (.ref p), some (.ref m), some (.ref (m + 12)), some (.ref (m + 13)), some (.int (nI i0)), none, none, none, none] [] h Q := by
  have hs0 := hs
  have c10 := c1
  have hP0 := hP
  have hM0 := hM
  obtain ⟨hsa, hsl, hN, hfree⟩ := hs
  obtain ⟨⟨fo, o1⟩, fd, o2⟩ := ho
  obtain ⟨hF, hT, hR3, hBat, hSna, ⟨pk, hL⟩, hX, hbD, hm, hz, hsn, hap⟩ := c1
  obtain ⟨hlen, hI, hIS⟩ := hP
  obtain ⟨⟨th, at', bg, e9, ea, cm, mC⟩, ⟨R, mR, hr⟩, ⟨R2, mR2⟩, ⟨R3, mR3⟩, ⟨RE, mE, hre⟩, ⟨RA, mRA⟩, ⟨mpk, mP⟩, ⟨B, mB, hB⟩, ⟨CM, mK⟩, CC, CE, SV, mCC, mCE, mSV, hsv, hsr⟩ := hM
  have hI0 : Inv np qu ra re le ln nb pl tm ne rw bk nh hw nc cw t y := hI
  have hr0 : RowR R np qu ra re le ln nb pl tm ne rw bk nh hw nc cw t y := hr
  have hL0 : LedP h b np qu ra re le ln nb pl tm ne rw bk nh hw nc cw t y pk := hL
  have hre0 : ∀ j, j < np → RE j = re j := hre
  obtain ⟨⟨s1, s2, s3, s4, s5, s6, s7, s8, tn, s9, s10⟩, IM, IP, IJ, IR, IC⟩ := hI0
  have hI0 : Inv np qu ra re le ln nb pl tm ne rw bk nh hw nc cw t y := hI
  have hF' := hF
  unfold FacC at hF'
  have ho : OutP h m := ⟨⟨fo, o1⟩, fd, o2⟩
  have TE : ∀ (X Y : Nat) (h2 : AH) (kk : Int32) (v9 : Int32), ¬ kk = 0 → Sim Γ h2 p m sa N S → (∃ tl at' bg e9 ea lr cm, ModC h2 m (m + 1) kk tl at' bg e9 ea lr cm) → WP Γ ML_law (10, 196, c0 + X, s0 + Y) 2637 [some (.ref sa), some (.ref p), some (.ref m), some (.ref (m + 12)), some (.ref (m + 13)), some (.int (nI i0)), some (.int kk), none, none, none] [.int v9] h2 Q := by
    intro X Y h2 kk v9 hk hsim hm2
    obtain ⟨tl2, at2, bg2, e2, ea2, lr2, cm2, m2⟩ := hm2
    have m20 := m2
    unfold ModC at m2
    refine wp_istore (n := 2639) dL_law_2637 rfl rfl rfl rfl ?_
    refine wp_aload_n (n := 2640) dL_law_2639 rfl rfl ?_
    refine wp_callVs (n := 2643) (rm' := (0, 0, 0, 0)) (c0 := c0) (s0 := s0) rfl dL_law_2640 rfl mlL_156 [] rfl rfl m2 rfl rfl rfl (Nat.le_of_ble_eq_true rfl) rfl ?_
    refine s_X10_thrown m20 ?_
    show WP Γ _ _ _ _ _ _ _
    refine wp_iload (n := 2645) dL_law_2643 rfl rfl ?_
    refine wp_icmp_eq (t := 2650) (n := 2648) dL_law_2645 (by decide) rfl (fun hc => ?_) (fun hc => ?_)
    · refine wp_iload (n := 2652) dL_law_2650 rfl rfl ?_
      refine wp_if_ne (t := 2667) (n := 2655) dL_law_2652 (by decide) rfl (fun hq => ?_) (fun hq => ?_)
      · refine wp_goto (t := 3329) dL_law_2667 (by decide) ?_
        refine wp_lo (lo' := [some (.ref sa), some (.ref p), some (.ref m), some (.ref (m + 12)), some (.ref (m + 13)), some (.int (nI i0)), none, none, none, none]) (fun k v hk => ?_) ?_
        · match k, hk with
          | 0, hk => exact hk
          | 1, hk => exact hk
          | 2, hk => exact hk
          | 3, hk => exact hk
          | 4, hk => exact hk
          | 5, hk => exact hk
          | 6, hk => exact absurd hk (by simp [ax_gl])
          | 7, hk => exact absurd hk (by simp [ax_gl])
          | 8, hk => exact absurd hk (by simp [ax_gl])
          | 9, hk => exact absurd hk (by simp [ax_gl])
          | k + 10, hk => exact absurd hk (by simp [ax_gl])
        exact wp_big (rm := (10, 196, c0, s0)) (Nat.le_refl _) (Nat.le_refl _) (Nat.le_add_right _ _) (Nat.le_add_right _ _) (k h2 hsim)
      · exact absurd hq hk
    · exact absurd rfl hc
  have TO : ∀ (X Y : Nat) (h2 : AH) (r : Int32) (fo2 : Nat → Int64), Sim Γ h2 p m sa N S → (∃ tl at' bg e9 ea lr cm, ModC h2 m (m + 1) 0 tl at' bg e9 ea lr cm) → h2.2 (m + 12) = some (.inl (.long, 1, .inr (.inl fo2))) → fo2 0 = r.toInt64 → WP Γ ML_law (10, 196, c0 + X, s0 + Y) 2637 [some (.ref sa), some (.ref p), some (.ref m), some (.ref (m + 12)), some (.ref (m + 13)), some (.int (nI i0)), some (.int 0), none, none, none] [.int r] h2 Q := by
    intro X Y h2 r fo2 hsim hm2 ho2 hv2
    obtain ⟨tl2, at2, bg2, e2, ea2, lr2, cm2, m2⟩ := hm2
    have m20 := m2
    unfold ModC at m2
    have fin : ∀ l7 : Option Value, WP Γ ML_law (10, 196, c0 + (X - 0), s0 + (Y - 0)) 2667 [some (.ref sa), some (.ref p), some (.ref m), some (.ref (m + 12)), some (.ref (m + 13)), some (.int (nI i0)), some (.int 0), l7, none, none] [] h2 Q := by
      intro l7
      refine wp_goto (t := 3329) dL_law_2667 (by decide) ?_
      refine wp_lo (lo' := [some (.ref sa), some (.ref p), some (.ref m), some (.ref (m + 12)), some (.ref (m + 13)), some (.int (nI i0)), none, none, none, none]) (fun k v hk => ?_) ?_
      · match k, hk with
        | 0, hk => exact hk
        | 1, hk => exact hk
        | 2, hk => exact hk
        | 3, hk => exact hk
        | 4, hk => exact hk
        | 5, hk => exact hk
        | 6, hk => exact absurd hk (by simp [ax_gl])
        | 7, hk => exact absurd hk (by simp [ax_gl])
        | 8, hk => exact absurd hk (by simp [ax_gl])
        | 9, hk => exact absurd hk (by simp [ax_gl])
        | k + 10, hk => exact absurd hk (by simp [ax_gl])
      exact wp_big (rm := (10, 196, c0, s0)) (Nat.le_refl _) (Nat.le_refl _) (Nat.le_add_right _ _) (Nat.le_add_right _ _) (k h2 hsim)
    refine wp_istore (n := 2639) dL_law_2637 rfl rfl rfl rfl ?_
    refine wp_aload_n (n := 2640) dL_law_2639 rfl rfl ?_
    refine wp_callVs (n := 2643) (rm' := (0, 0, 0, 0)) (c0 := c0) (s0 := s0) rfl dL_law_2640 rfl mlL_156 [] rfl rfl m2 rfl rfl rfl (Nat.le_of_ble_eq_true rfl) rfl ?_
    refine s_X10_thrown m20 ?_
    show WP Γ _ _ _ _ _ _ _
    refine wp_iload (n := 2645) dL_law_2643 rfl rfl ?_
    refine wp_icmp_eq (t := 2650) (n := 2648) dL_law_2645 (by decide) rfl (fun hc => ?_) (fun hc => ?_)
    · refine wp_iload (n := 2652) dL_law_2650 rfl rfl ?_
      refine wp_if_ne (t := 2667) (n := 2655) dL_law_2652 (by decide) rfl (fun hq => ?_) (fun hq => ?_)
      · exact absurd rfl hq
      · refine wp_aload_n (n := 2656) dL_law_2655 rfl rfl ?_
        refine wp_iconst (n := 2657) (v := 0) dL_law_2656 rfl (by decide) ?_
        refine wp_lald (n := 2658) 0 dL_law_2657 rfl ho2 rfl (by omega) (by omega) ?_
        rw [hv2]
        refine wp_iload (n := 2660) dL_law_2658 rfl rfl ?_
        refine wp_i2l (n := 2661) dL_law_2660 rfl ?_
        refine wp_lcmp (n := 2662) dL_law_2661 rfl ?_
        rw [lg_self]
        refine wp_if_eq (t := 2667) (n := 2665) dL_law_2662 (by decide) rfl (fun hu => ?_) (fun hu => ?_)
        · exact fin _
        · exact absurd rfl hu
    · exact absurd rfl hc
  have MC : ∀ (X Y : Nat) (h3 : AH) (kk : Int32), h3.2 m = h.2 m → h3.2 sa = h.2 sa → WP Γ MX10_reservedFrom (2, 46, 0, 0) 0 [some (.ref m), some (.int (S (i0 + 1)))] [] h3 (ax_K Γ ML_law (10, 196, c0 + (X - 0), s0 + (Y - 0)) 2637 [some (.ref sa), some (.ref p), some (.ref m), some (.ref (m + 12)), some (.ref (m + 13)), some (.int (nI i0)), some (.int kk), none, none, none] [] Q) → WP Γ ML_law (10, 196, c0 + X, s0 + Y) 2625 [some (.ref sa), some (.ref p), some (.ref m), some (.ref (m + 12)), some (.ref (m + 13)), some (.int (nI i0)), none, none, none, none] [.int kk] h3 Q := by
    intro X Y h3 kk e1 e2 kk3
    have mC3' := ModC.mv e1 mC
    unfold ModC at mC3'
    have hsa3 := e2.trans hsa
    refine wp_istore (n := 2627) dL_law_2625 rfl rfl rfl rfl ?_
    refine wp_aload_n (n := 2628) dL_law_2627 rfl rfl ?_
    refine wp_aload_n (n := 2629) dL_law_2628 rfl rfl ?_
    refine wp_iload (n := 2631) dL_law_2629 rfl rfl ?_
    refine wp_iconst (n := 2632) (v := nI 1) dL_law_2631 rfl (by decide) ?_
    refine wp_iadd (n := 2633) dL_law_2632 rfl ?_
    refine wp_iald (n := 2634) (i0 + 1) dL_law_2633 rfl (by repeat first | assumption | exact ax_set_self _ _ _ | exact ax_newA_self _ _ _ | refine (ax_set_ne _ _ (by omega)).trans ?_ | refine (ax_newA_ne _ _ _ (by omega)).trans ?_) (by simp only [nI_zero, nI_mul, nI_add]) (by omega) (by omega) ?_
    refine wp_callVs (n := 2637) (rm' := (2, 46, 0, 0)) (c0 := c0) (s0 := s0) rfl dL_law_2634 rfl mlL_298 [.int (S (i0 + 1))] rfl rfl mC3' rfl rfl rfl (Nat.le_of_ble_eq_true rfl) rfl ?_
    exact kk3
  refine wp_aload_n (n := 2615) dL_law_2614 rfl rfl ?_
  refine wp_aload_n (n := 2616) dL_law_2615 rfl rfl ?_
  refine wp_iload (n := 2618) dL_law_2616 rfl rfl ?_
  refine wp_iconst (n := 2619) (v := nI 1) dL_law_2618 rfl (by decide) ?_
  refine wp_iadd (n := 2620) dL_law_2619 rfl ?_
  refine wp_iald (n := 2621) (i0 + 1) dL_law_2620 rfl (by repeat first | assumption | exact ax_set_self _ _ _ | exact ax_newA_self _ _ _ | refine (ax_set_ne _ _ (by omega)).trans ?_ | refine (ax_newA_ne _ _ _ (by omega)).trans ?_) (by simp only [nI_zero, nI_mul, nI_add]) (by omega) (by omega) ?_
  refine wp_aload_n (n := 2622) dL_law_2621 rfl rfl ?_
  refine wp_callSH (n := 2625) (rm' := (8, 137, 1, 6)) (c0 := c0) (s0 := s0) (C := 20) (S := 4409) rfl dL_law_2622 rfl mwL_296 [.ref p, .int (S (i0 + 1)), .ref (m + 12)] rfl rfl rfl rfl (Nat.le_of_ble_eq_true rfl) rfl ?_
  refine s_L_reservedFrom hF' (by omega) ?_
  refine s_X9_reservedFrom hF hL0 (by omega) (by omega) (fun c1 n1 hn1 => ?_) (fun j hj ej => ?_)
  · refine Or.inr (Or.inl ⟨rfl, rfl, ?_⟩)
    show WP Γ _ _ _ _ _ _ _
    have B : Bet p m h h _ := Bet.n (p := p) ho hn1
    refine MC _ _ _ _ (B.1 _ (by omega)) (B.1 _ (by omega)) ?_
    refine s_X10_reservedFrom (ModC.mv (B.1 _ (by omega)) mC) ((B.1 _ (by omega)).trans mR) hr0 hI0.1 (by omega) (by omega) (fun d1 h2 fr2 m2 => ?_) (fun i hi ei h2 fr2 m2 => ?_)
    · show WP Γ _ _ _ _ _ _ _
      exact TE _ _ h2 _ _ (by decide) (fin_q hA hs0 hM0 hP0 c10 hm B fr2 ⟨_, _, _, _, _, _, m2⟩) ⟨_, _, _, _, _, _, _, m2⟩
    · have d1 : inN (S (i0 + 1)) np = true := by rw [ei]; exact inN_of hi (by omega)
      exact absurd (c1.symm.trans d1) (by decide)
  · refine ⟨fo, o1, fun fo1 hv => ?_⟩
    show WP Γ _ _ _ _ _ _ _
    have B : Bet p m h h _ := Bet.o fo1 ho hm (fun _ _ => rfl)
    have c1 : inN (S (i0 + 1)) np = true := by rw [ej]; exact inN_of hj (by omega)
    refine MC _ _ _ _ (B.1 _ (by omega)) (B.1 _ (by omega)) ?_
    refine s_X10_reservedFrom (ModC.mv (B.1 _ (by omega)) mC) ((B.1 _ (by omega)).trans mR) hr0 hI0.1 (by omega) (by omega) (fun d1 h2 fr2 m2 => ?_) (fun i hi ei h2 fr2 m2 => ?_)
    · exact absurd (c1.symm.trans d1) (by decide)
    · have d1 : inN (S (i0 + 1)) np = true := by rw [ei]; exact inN_of hi (by omega)
      show WP Γ _ _ _ _ _ _ _
      obtain rfl : j = i := (nI_eq9 (by omega) (by omega)).mp (ej.symm.trans ei)
      exact TO _ _ h2 _ fo1 (fin_q hA hs0 hM0 hP0 c10 hm B fr2 ⟨_, _, _, _, _, _, m2⟩) ⟨_, _, _, _, _, _, _, m2⟩ ((fr2.2 _ (by omega)).trans (ax_set_self _ _ _)) hv
theorem cs_poolOf (hA : Γ.2.1 ≤ p) (hs : ScrP Γ h sa N S) (ho : OutP h m) (c1 : ClsP h p m b D er bs len f (mkK np qu ra re le ln nb pl tm ne rw bk nh hw nc cw t y) KS) (hP : PurP len f (mkK np qu ra re le ln nb pl tm ne rw bk nh hw nc cw t y) KS) (hM : ModP h m er bs len f (mkK np qu ra re le ln nb pl tm ne rw bk nh hw nc cw t y) KS) (hi : i0 + 5 ≤ N) (k : ∀ h', Sim Γ h' p m sa N S → WP Γ ML_law (10, 196, c0, s0) 3329 [some (.ref sa), some (.ref p), some (.ref m), some (.ref (m + 12)), some (.ref (m + 13)), some (.int (nI i0)), none, none, none, none] [] h' Q) : WP Γ ML_law (10, 196, c0 + 20, s0 + 4409) 1415 [some (.ref sa), some (.ref p), some (.ref m), some (.ref (m + 12)), some (.ref (m + 13)), some (.int (nI i0)), none, none, none, none] [] h Q := by
  have hs0 := hs
  have c10 := c1
  have hP0 := hP
  have hM0 := hM
  obtain ⟨hsa, hsl, hN, hfree⟩ := hs
  obtain ⟨⟨fo, o1⟩, fd, o2⟩ := ho
  obtain ⟨hF, hT, hR3, hBat, hSna, ⟨pk, hL⟩, hX, hbD, hm, hz, hsn, hap⟩ := c1
  obtain ⟨hlen, hI, hIS⟩ := hP
  obtain ⟨⟨th, at', bg, e9, ea, cm, mC⟩, ⟨R, mR, hr⟩, ⟨R2, mR2⟩, ⟨R3, mR3⟩, ⟨RE, mE, hre⟩, ⟨RA, mRA⟩, ⟨mpk, mP⟩, ⟨B, mB, hB⟩, ⟨CM, mK⟩, CC, CE, SV, mCC, mCE, mSV, hsv, hsr⟩ := hM
  have hI0 : Inv np qu ra re le ln nb pl tm ne rw bk nh hw nc cw t y := hI
  have hr0 : RowR R np qu ra re le ln nb pl tm ne rw bk nh hw nc cw t y := hr
  have hL0 : LedP h b np qu ra re le ln nb pl tm ne rw bk nh hw nc cw t y pk := hL
  have hre0 : ∀ j, j < np → RE j = re j := hre
  obtain ⟨⟨s1, s2, s3, s4, s5, s6, s7, s8, tn, s9, s10⟩, IM, IP, IJ, IR, IC⟩ := hI0
  have hI0 : Inv np qu ra re le ln nb pl tm ne rw bk nh hw nc cw t y := hI
  have hF' := hF
  unfold FacC at hF'
  have ho : OutP h m := ⟨⟨fo, o1⟩, fd, o2⟩
  have TE : ∀ (X Y : Nat) (h2 : AH) (kk : Int32) (v9 : Int32), ¬ kk = 0 → Sim Γ h2 p m sa N S → (∃ tl at' bg e9 ea lr cm, ModC h2 m (m + 1) kk tl at' bg e9 ea lr cm) → WP Γ ML_law (10, 196, c0 + X, s0 + Y) 1438 [some (.ref sa), some (.ref p), some (.ref m), some (.ref (m + 12)), some (.ref (m + 13)), some (.int (nI i0)), some (.int kk), none, none, none] [.int v9] h2 Q := by
    intro X Y h2 kk v9 hk hsim hm2
    obtain ⟨tl2, at2, bg2, e2, ea2, lr2, cm2, m2⟩ := hm2
    have m20 := m2
    unfold ModC at m2
    refine wp_istore (n := 1440) dL_law_1438 rfl rfl rfl rfl ?_
    refine wp_aload_n (n := 1441) dL_law_1440 rfl rfl ?_
    refine wp_callVs (n := 1444) (rm' := (0, 0, 0, 0)) (c0 := c0) (s0 := s0) rfl dL_law_1441 rfl mlL_156 [] rfl rfl m2 rfl rfl rfl (Nat.le_of_ble_eq_true rfl) rfl ?_
    refine s_X10_thrown m20 ?_
    show WP Γ _ _ _ _ _ _ _
    refine wp_iload (n := 1446) dL_law_1444 rfl rfl ?_
    refine wp_icmp_eq (t := 1451) (n := 1449) dL_law_1446 (by decide) rfl (fun hc => ?_) (fun hc => ?_)
    · refine wp_iload (n := 1453) dL_law_1451 rfl rfl ?_
      refine wp_if_ne (t := 1468) (n := 1456) dL_law_1453 (by decide) rfl (fun hq => ?_) (fun hq => ?_)
      · refine wp_goto (t := 3329) dL_law_1468 (by decide) ?_
        refine wp_lo (lo' := [some (.ref sa), some (.ref p), some (.ref m), some (.ref (m + 12)), some (.ref (m + 13)), some (.int (nI i0)), none, none, none, none]) (fun k v hk => ?_) ?_
        · match k, hk with
          | 0, hk => exact hk
          | 1, hk => exact hk
          | 2, hk => exact hk
          | 3, hk => exact hk
          | 4, hk => exact hk
          | 5, hk => exact hk
          | 6, hk => exact absurd hk (by simp [ax_gl])
          | 7, hk => exact absurd hk (by simp [ax_gl])
          | 8, hk => exact absurd hk (by simp [ax_gl])
          | 9, hk => exact absurd hk (by simp [ax_gl])
          | k + 10, hk => exact absurd hk (by simp [ax_gl])
        exact wp_big (rm := (10, 196, c0, s0)) (Nat.le_refl _) (Nat.le_refl _) (Nat.le_add_right _ _) (Nat.le_add_right _ _) (k h2 hsim)
      · exact absurd hq hk
    · exact absurd rfl hc
  have TO : ∀ (X Y : Nat) (h2 : AH) (r : Int32) (fo2 : Nat → Int64), Sim Γ h2 p m sa N S → (∃ tl at' bg e9 ea lr cm, ModC h2 m (m + 1) 0 tl at' bg e9 ea lr cm) → h2.2 (m + 12) = some (.inl (.long, 1, .inr (.inl fo2))) → fo2 0 = r.toInt64 → WP Γ ML_law (10, 196, c0 + X, s0 + Y) 1438 [some (.ref sa), some (.ref p), some (.ref m), some (.ref (m + 12)), some (.ref (m + 13)), some (.int (nI i0)), some (.int 0), none, none, none] [.int r] h2 Q := by
    intro X Y h2 r fo2 hsim hm2 ho2 hv2
    obtain ⟨tl2, at2, bg2, e2, ea2, lr2, cm2, m2⟩ := hm2
    have m20 := m2
    unfold ModC at m2
    have fin : ∀ l7 : Option Value, WP Γ ML_law (10, 196, c0 + (X - 0), s0 + (Y - 0)) 1468 [some (.ref sa), some (.ref p), some (.ref m), some (.ref (m + 12)), some (.ref (m + 13)), some (.int (nI i0)), some (.int 0), l7, none, none] [] h2 Q := by
      intro l7
      refine wp_goto (t := 3329) dL_law_1468 (by decide) ?_
      refine wp_lo (lo' := [some (.ref sa), some (.ref p), some (.ref m), some (.ref (m + 12)), some (.ref (m + 13)), some (.int (nI i0)), none, none, none, none]) (fun k v hk => ?_) ?_
      · match k, hk with
        | 0, hk => exact hk
        | 1, hk => exact hk
        | 2, hk => exact hk
        | 3, hk => exact hk
        | 4, hk => exact hk
        | 5, hk => exact hk
        | 6, hk => exact absurd hk (by simp [ax_gl])
        | 7, hk => exact absurd hk (by simp [ax_gl])
        | 8, hk => exact absurd hk (by simp [ax_gl])
        | 9, hk => exact absurd hk (by simp [ax_gl])
        | k + 10, hk => exact absurd hk (by simp [ax_gl])
      exact wp_big (rm := (10, 196, c0, s0)) (Nat.le_refl _) (Nat.le_refl _) (Nat.le_add_right _ _) (Nat.le_add_right _ _) (k h2 hsim)
    refine wp_istore (n := 1440) dL_law_1438 rfl rfl rfl rfl ?_
    refine wp_aload_n (n := 1441) dL_law_1440 rfl rfl ?_
    refine wp_callVs (n := 1444) (rm' := (0, 0, 0, 0)) (c0 := c0) (s0 := s0) rfl dL_law_1441 rfl mlL_156 [] rfl rfl m2 rfl rfl rfl (Nat.le_of_ble_eq_true rfl) rfl ?_
    refine s_X10_thrown m20 ?_
    show WP Γ _ _ _ _ _ _ _
    refine wp_iload (n := 1446) dL_law_1444 rfl rfl ?_
    refine wp_icmp_eq (t := 1451) (n := 1449) dL_law_1446 (by decide) rfl (fun hc => ?_) (fun hc => ?_)
    · refine wp_iload (n := 1453) dL_law_1451 rfl rfl ?_
      refine wp_if_ne (t := 1468) (n := 1456) dL_law_1453 (by decide) rfl (fun hq => ?_) (fun hq => ?_)
      · exact absurd rfl hq
      · refine wp_aload_n (n := 1457) dL_law_1456 rfl rfl ?_
        refine wp_iconst (n := 1458) (v := 0) dL_law_1457 rfl (by decide) ?_
        refine wp_lald (n := 1459) 0 dL_law_1458 rfl ho2 rfl (by omega) (by omega) ?_
        rw [hv2]
        refine wp_iload (n := 1461) dL_law_1459 rfl rfl ?_
        refine wp_i2l (n := 1462) dL_law_1461 rfl ?_
        refine wp_lcmp (n := 1463) dL_law_1462 rfl ?_
        rw [lg_self]
        refine wp_if_eq (t := 1468) (n := 1466) dL_law_1463 (by decide) rfl (fun hu => ?_) (fun hu => ?_)
        · exact fin _
        · exact absurd rfl hu
    · exact absurd rfl hc
  have MC : ∀ (X Y : Nat) (h3 : AH) (kk : Int32), h3.2 m = h.2 m → h3.2 sa = h.2 sa → WP Γ MX10_poolOf (2, 43, 0, 0) 0 [some (.ref m), some (.int (S (i0 + 1)))] [] h3 (ax_K Γ ML_law (10, 196, c0 + (X - 0), s0 + (Y - 0)) 1438 [some (.ref sa), some (.ref p), some (.ref m), some (.ref (m + 12)), some (.ref (m + 13)), some (.int (nI i0)), some (.int kk), none, none, none] [] Q) → WP Γ ML_law (10, 196, c0 + X, s0 + Y) 1426 [some (.ref sa), some (.ref p), some (.ref m), some (.ref (m + 12)), some (.ref (m + 13)), some (.int (nI i0)), none, none, none, none] [.int kk] h3 Q := by
    intro X Y h3 kk e1 e2 kk3
    have mC3' := ModC.mv e1 mC
    unfold ModC at mC3'
    have hsa3 := e2.trans hsa
    refine wp_istore (n := 1428) dL_law_1426 rfl rfl rfl rfl ?_
    refine wp_aload_n (n := 1429) dL_law_1428 rfl rfl ?_
    refine wp_aload_n (n := 1430) dL_law_1429 rfl rfl ?_
    refine wp_iload (n := 1432) dL_law_1430 rfl rfl ?_
    refine wp_iconst (n := 1433) (v := nI 1) dL_law_1432 rfl (by decide) ?_
    refine wp_iadd (n := 1434) dL_law_1433 rfl ?_
    refine wp_iald (n := 1435) (i0 + 1) dL_law_1434 rfl (by repeat first | assumption | exact ax_set_self _ _ _ | exact ax_newA_self _ _ _ | refine (ax_set_ne _ _ (by omega)).trans ?_ | refine (ax_newA_ne _ _ _ (by omega)).trans ?_) (by simp only [nI_zero, nI_mul, nI_add]) (by omega) (by omega) ?_
    refine wp_callVs (n := 1438) (rm' := (2, 43, 0, 0)) (c0 := c0) (s0 := s0) rfl dL_law_1435 rfl mlL_238 [.int (S (i0 + 1))] rfl rfl mC3' rfl rfl rfl (Nat.le_of_ble_eq_true rfl) rfl ?_
    exact kk3
  refine wp_aload_n (n := 1416) dL_law_1415 rfl rfl ?_
  refine wp_aload_n (n := 1417) dL_law_1416 rfl rfl ?_
  refine wp_iload (n := 1419) dL_law_1417 rfl rfl ?_
  refine wp_iconst (n := 1420) (v := nI 1) dL_law_1419 rfl (by decide) ?_
  refine wp_iadd (n := 1421) dL_law_1420 rfl ?_
  refine wp_iald (n := 1422) (i0 + 1) dL_law_1421 rfl (by repeat first | assumption | exact ax_set_self _ _ _ | exact ax_newA_self _ _ _ | refine (ax_set_ne _ _ (by omega)).trans ?_ | refine (ax_newA_ne _ _ _ (by omega)).trans ?_) (by simp only [nI_zero, nI_mul, nI_add]) (by omega) (by omega) ?_
  refine wp_aload_n (n := 1423) dL_law_1422 rfl rfl ?_
  refine wp_callSH (n := 1426) (rm' := (8, 137, 1, 6)) (c0 := c0) (s0 := s0) (C := 20) (S := 4409) rfl dL_law_1423 rfl mwL_236 [.ref p, .int (S (i0 + 1)), .ref (m + 12)] rfl rfl rfl rfl (Nat.le_of_ble_eq_true rfl) rfl ?_
  refine s_L_poolOf hF' (by omega) ?_
  refine s_X9_poolOf hF hL0 (by omega) (fun c1 n1 hn1 => ?_) (fun j hj ej => ?_)
  · refine Or.inr (Or.inl ⟨rfl, rfl, ?_⟩)
    show WP Γ _ _ _ _ _ _ _
    have B : Bet p m h h _ := Bet.n (p := p) ho hn1
    refine MC _ _ _ _ (B.1 _ (by omega)) (B.1 _ (by omega)) ?_
    refine s_X10_poolOf (ModC.mv (B.1 _ (by omega)) mC) ((B.1 _ (by omega)).trans mR) hr0 hI0.1 (by omega) (by omega) (fun d1 h2 fr2 m2 => ?_) (fun i hi ei h2 fr2 m2 => ?_)
    · show WP Γ _ _ _ _ _ _ _
      exact TE _ _ h2 _ _ (by decide) (fin_q hA hs0 hM0 hP0 c10 hm B fr2 ⟨_, _, _, _, _, _, m2⟩) ⟨_, _, _, _, _, _, _, m2⟩
    · have d1 : inN (S (i0 + 1)) nb = true := by rw [ei]; exact inN_of hi (by omega)
      exact absurd (c1.symm.trans d1) (by decide)
  · refine ⟨fo, o1, fun fo1 hv => ?_⟩
    show WP Γ _ _ _ _ _ _ _
    have B : Bet p m h h _ := Bet.o fo1 ho hm (fun _ _ => rfl)
    have c1 : inN (S (i0 + 1)) nb = true := by rw [ej]; exact inN_of hj (by omega)
    refine MC _ _ _ _ (B.1 _ (by omega)) (B.1 _ (by omega)) ?_
    refine s_X10_poolOf (ModC.mv (B.1 _ (by omega)) mC) ((B.1 _ (by omega)).trans mR) hr0 hI0.1 (by omega) (by omega) (fun d1 h2 fr2 m2 => ?_) (fun i hi ei h2 fr2 m2 => ?_)
    · exact absurd (c1.symm.trans d1) (by decide)
    · have d1 : inN (S (i0 + 1)) nb = true := by rw [ei]; exact inN_of hi (by omega)
      show WP Γ _ _ _ _ _ _ _
      obtain rfl : j = i := (nI_eq9 (by omega) (by omega)).mp (ej.symm.trans ei)
      exact TO _ _ h2 _ fo1 (fin_q hA hs0 hM0 hP0 c10 hm B fr2 ⟨_, _, _, _, _, _, m2⟩) ⟨_, _, _, _, _, _, _, m2⟩ ((fr2.2 _ (by omega)).trans (ax_set_self _ _ _)) hv
end
