/-! ===== the law: cases ===== -/
section
variable {Γ : GE} {h : AH} {Q : PO} {p m b D sa N len i0 c0 s0 np nb ne nh nc y : Nat} {er : Int32} {bs S : FI} {f : Nat → Option Nat} {KS : Nat → KL} {qu ra le ln pl tm rw hw cw : FI} {re : Nat → UInt32} {bk : Nat → Int64} {t : Int32}
theorem cs_balance (hA : Γ.2.1 ≤ p) (hs : ScrP Γ h sa N S) (ho : OutP h m) (c1 : ClsP h p m b D er bs len f (mkK np qu ra re le ln nb pl tm ne rw bk nh hw nc cw t y) KS) (hP : PurP len f (mkK np qu ra re le ln nb pl tm ne rw bk nh hw nc cw t y) KS) (hM : ModP h m er bs len f (mkK np qu ra re le ln nb pl tm ne rw bk nh hw nc cw t y) KS) (hi : i0 + 5 ≤ N) (k : ∀ h', Sim Γ h' p m sa N S → WP Γ ML_law (10, 196, c0, s0) 3329 [some (.ref sa), some (.ref p), some (.ref m), some (.ref (m + 12)), some (.ref (m + 13)), some (.int (nI i0)), none, none, none, none] [] h' Q) : WP Γ ML_law (10, 196, c0 + 20, s0 + 4409) 1123 [some (.ref sa), some (.ref p), some (.ref m), some (.ref (m + 12)), some (.ref (m + 13)), some (.int (nI i0)), none, none, none, none] [] h Q := by
  have hs0 := hs
  have c10 := c1
  have hP0 := hP
  have hM0 := hM
  obtain ⟨hsa, hsl, hN, hfree⟩ := hs
  obtain ⟨⟨fo, o1⟩, fd, o2⟩ := ho
  obtain ⟨hF, hT, hR3, hBat, hSna, ⟨pk, hL⟩, hX, hbD, hm, hz, hsn, hap⟩ := c1
  obtain ⟨hlen, hI, hIS⟩ := hP
  obtain ⟨⟨th, at', bg, e9, ea, cm, mC⟩, ⟨R, mR, hr⟩, ⟨R2, mR2⟩, ⟨R3, mR3⟩, ⟨RE, mE, hre⟩, ⟨RA, mRA⟩, ⟨mpk, mP⟩, ⟨B, mB, hB⟩, ⟨CM, mK⟩, CC, CE, SV, mCC, mCE, mSV, hsv, hsr⟩ := hM
  have hI0 : Inv np qu ra re le ln nb pl tm ne rw bk nh hw nc cw t y := hI
  have hr0 : RowR R np qu ra re le ln nb pl tm ne rw bk nh hw nc cw t y := hr
  have hL0 : LedP h b np qu ra re le ln nb pl tm ne rw bk nh hw nc cw t y pk := hL
  have hre0 : ∀ j, j < np → RE j = re j := hre
  obtain ⟨⟨s1, s2, s3, s4, s5, s6, s7, s8, tn, s9, s10⟩, IM, IP, IJ, IR, IC⟩ := hI0
  have hI0 : Inv np qu ra re le ln nb pl tm ne rw bk nh hw nc cw t y := hI
  have hF' := hF
  unfold FacC at hF'
  have ho : OutP h m := ⟨⟨fo, o1⟩, fd, o2⟩
  have TE : ∀ (X Y : Nat) (h2 : AH) (kk : Int32) (v9 : Int32), ¬ kk = 0 → Sim Γ h2 p m sa N S → (∃ tl at' bg e9 ea lr cm, ModC h2 m (m + 1) kk tl at' bg e9 ea lr cm) → WP Γ ML_law (10, 196, c0 + X, s0 + Y) 1146 [some (.ref sa), some (.ref p), some (.ref m), some (.ref (m + 12)), some (.ref (m + 13)), some (.int (nI i0)), some (.int kk), none, none, none] [.int v9] h2 Q := by
    intro X Y h2 kk v9 hk hsim hm2
    obtain ⟨tl2, at2, bg2, e2, ea2, lr2, cm2, m2⟩ := hm2
    have m20 := m2
    unfold ModC at m2
    refine wp_istore (n := 1148) dL_law_1146 rfl rfl rfl rfl ?_
    refine wp_aload_n (n := 1149) dL_law_1148 rfl rfl ?_
    refine wp_callVs (n := 1152) (rm' := (0, 0, 0, 0)) (c0 := c0) (s0 := s0) rfl dL_law_1149 rfl mlL_156 [] rfl rfl m2 rfl rfl rfl (Nat.le_of_ble_eq_true rfl) rfl ?_
    refine s_X10_thrown m20 ?_
    show WP Γ _ _ _ _ _ _ _
    refine wp_iload (n := 1154) dL_law_1152 rfl rfl ?_
    refine wp_icmp_eq (t := 1159) (n := 1157) dL_law_1154 (by decide) rfl (fun hc => ?_) (fun hc => ?_)
    · refine wp_iload (n := 1161) dL_law_1159 rfl rfl ?_
      refine wp_if_ne (t := 1176) (n := 1164) dL_law_1161 (by decide) rfl (fun hq => ?_) (fun hq => ?_)
      · refine wp_goto (t := 3329) dL_law_1176 (by decide) ?_
        refine wp_lo (lo' := [some (.ref sa), some (.ref p), some (.ref m), some (.ref (m + 12)), some (.ref (m + 13)), some (.int (nI i0)), none, none, none, none]) (fun k v hk => ?_) ?_
        · match k, hk with
          | 0, hk => exact hk
          | 1, hk => exact hk
          | 2, hk => exact hk
          | 3, hk => exact hk
          | 4, hk => exact hk
          | 5, hk => exact hk
          | 6, hk => exact absurd hk (by simp [ax_gl])
          | 7, hk => exact absurd hk (by simp [ax_gl])
          | 8, hk => exact absurd hk (by simp [ax_gl])
          | 9, hk => exact absurd hk (by simp [ax_gl])
          | k + 10, hk => exact absurd hk (by simp [ax_gl])
        exact wp_big (rm := (10, 196, c0, s0)) (Nat.le_refl _) (Nat.le_refl _) (Nat.le_add_right _ _) (Nat.le_add_right _ _) (k h2 hsim)
      · exact absurd hq hk
    · exact absurd rfl hc
  have TO : ∀ (X Y : Nat) (h2 : AH) (r : Int32) (fo2 : Nat → Int64), Sim Γ h2 p m sa N S → (∃ tl at' bg e9 ea lr cm, ModC h2 m (m + 1) 0 tl at' bg e9 ea lr cm) → h2.2 (m + 12) = some (.inl (.long, 1, .inr (.inl fo2))) → fo2 0 = r.toInt64 → WP Γ ML_law (10, 196, c0 + X, s0 + Y) 1146 [some (.ref sa), some (.ref p), some (.ref m), some (.ref (m + 12)), some (.ref (m + 13)), some (.int (nI i0)), some (.int 0), none, none, none] [.int r] h2 Q := by
    intro X Y h2 r fo2 hsim hm2 ho2 hv2
    obtain ⟨tl2, at2, bg2, e2, ea2, lr2, cm2, m2⟩ := hm2
    have m20 := m2
    unfold ModC at m2
    have fin : ∀ l7 : Option Value, WP Γ ML_law (10, 196, c0 + (X - 0), s0 + (Y - 0)) 1176 [some (.ref sa), some (.ref p), some (.ref m), some (.ref (m + 12)), some (.ref (m + 13)), some (.int (nI i0)), some (.int 0), l7, none, none] [] h2 Q := by
      intro l7
      refine wp_goto (t := 3329) dL_law_1176 (by decide) ?_
      refine wp_lo (lo' := [some (.ref sa), some (.ref p), some (.ref m), some (.ref (m + 12)), some (.ref (m + 13)), some (.int (nI i0)), none, none, none, none]) (fun k v hk => ?_) ?_
      · match k, hk with
        | 0, hk => exact hk
        | 1, hk => exact hk
        | 2, hk => exact hk
        | 3, hk => exact hk
        | 4, hk => exact hk
        | 5, hk => exact hk
        | 6, hk => exact absurd hk (by simp [ax_gl])
        | 7, hk => exact absurd hk (by simp [ax_gl])
        | 8, hk => exact absurd hk (by simp [ax_gl])
        | 9, hk => exact absurd hk (by simp [ax_gl])
        | k + 10, hk => exact absurd hk (by simp [ax_gl])
      exact wp_big (rm := (10, 196, c0, s0)) (Nat.le_refl _) (Nat.le_refl _) (Nat.le_add_right _ _) (Nat.le_add_right _ _) (k h2 hsim)
    refine wp_istore (n := 1148) dL_law_1146 rfl rfl rfl rfl ?_
    refine wp_aload_n (n := 1149) dL_law_1148 rfl rfl ?_
    refine wp_callVs (n := 1152) (rm' := (0, 0, 0, 0)) (c0 := c0) (s0 := s0) rfl dL_law_1149 rfl mlL_156 [] rfl rfl m2 rfl rfl rfl (Nat.le_of_ble_eq_true rfl) rfl ?_
    refine s_X10_thrown m20 ?_
    show WP Γ _ _ _ _ _ _ _
    refine wp_iload (n := 1154) dL_law_1152 rfl rfl ?_
    refine wp_icmp_eq (t := 1159) (n := 1157) dL_law_1154 (by decide) rfl (fun hc => ?_) (fun hc => ?_)
    · refine wp_iload (n := 1161) dL_law_1159 rfl rfl ?_
      refine wp_if_ne (t := 1176) (n := 1164) dL_law_1161 (by decide) rfl (fun hq => ?_) (fun hq => ?_)
      · exact absurd rfl hq
      · refine wp_aload_n (n := 1165) dL_law_1164 rfl rfl ?_
        refine wp_iconst (n := 1166) (v := 0) dL_law_1165 rfl (by decide) ?_
        refine wp_lald (n := 1167) 0 dL_law_1166 rfl ho2 rfl (by omega) (by omega) ?_
        rw [hv2]
        refine wp_iload (n := 1169) dL_law_1167 rfl rfl ?_
        refine wp_i2l (n := 1170) dL_law_1169 rfl ?_
        refine wp_lcmp (n := 1171) dL_law_1170 rfl ?_
        rw [lg_self]
        refine wp_if_eq (t := 1176) (n := 1174) dL_law_1171 (by decide) rfl (fun hu => ?_) (fun hu => ?_)
        · exact fin _
        · exact absurd rfl hu
    · exact absurd rfl hc
  have MC : ∀ (X Y : Nat) (h3 : AH) (kk : Int32), h3.2 m = h.2 m → h3.2 sa = h.2 sa → WP Γ MX10_balance (2, 43, 0, 0) 0 [some (.ref m), some (.int (S (i0 + 1)))] [] h3 (ax_K Γ ML_law (10, 196, c0 + (X - 0), s0 + (Y - 0)) 1146 [some (.ref sa), some (.ref p), some (.ref m), some (.ref (m + 12)), some (.ref (m + 13)), some (.int (nI i0)), some (.int kk), none, none, none] [] Q) → WP Γ ML_law (10, 196, c0 + X, s0 + Y) 1134 [some (.ref sa), some (.ref p), some (.ref m), some (.ref (m + 12)), some (.ref (m + 13)), some (.int (nI i0)), none, none, none, none] [.int kk] h3 Q := by
    intro X Y h3 kk e1 e2 kk3
    have mC3' := ModC.mv e1 mC
    unfold ModC at mC3'
    have hsa3 := e2.trans hsa
    refine wp_istore (n := 1136) dL_law_1134 rfl rfl rfl rfl ?_
    refine wp_aload_n (n := 1137) dL_law_1136 rfl rfl ?_
    refine wp_aload_n (n := 1138) dL_law_1137 rfl rfl ?_
    refine wp_iload (n := 1140) dL_law_1138 rfl rfl ?_
    refine wp_iconst (n := 1141) (v := nI 1) dL_law_1140 rfl (by decide) ?_
    refine wp_iadd (n := 1142) dL_law_1141 rfl ?_
    refine wp_iald (n := 1143) (i0 + 1) dL_law_1142 rfl (by repeat first | assumption | exact ax_set_self _ _ _ | exact ax_newA_self _ _ _ | refine (ax_set_ne _ _ (by omega)).trans ?_ | refine (ax_newA_ne _ _ _ (by omega)).trans ?_) (by simp only [nI_zero, nI_mul, nI_add]) (by omega) (by omega) ?_
    refine wp_callVs (n := 1146) (rm' := (2, 43, 0, 0)) (c0 := c0) (s0 := s0) rfl dL_law_1143 rfl mlL_223 [.int (S (i0 + 1))] rfl rfl mC3' rfl rfl rfl (Nat.le_of_ble_eq_true rfl) rfl ?_
    exact kk3
  refine wp_aload_n (n := 1124) dL_law_1123 rfl rfl ?_
  refine wp_aload_n (n := 1125) dL_law_1124 rfl rfl ?_
  refine wp_iload (n := 1127) dL_law_1125 rfl rfl ?_
  refine wp_iconst (n := 1128) (v := nI 1) dL_law_1127 rfl (by decide) ?_
  refine wp_iadd (n := 1129) dL_law_1128 rfl ?_
  refine wp_iald (n := 1130) (i0 + 1) dL_law_1129 rfl (by repeat first | assumption | exact ax_set_self _ _ _ | exact ax_newA_self _ _ _ | refine (ax_set_ne _ _ (by omega)).trans ?_ | refine (ax_newA_ne _ _ _ (by omega)).trans ?_) (by simp only [nI_zero, nI_mul, nI_add]) (by omega) (by omega) ?_
  refine wp_aload_n (n := 1131) dL_law_1130 rfl rfl ?_
  refine wp_callSH (n := 1134) (rm' := (8, 137, 1, 6)) (c0 := c0) (s0 := s0) (C := 20) (S := 4409) rfl dL_law_1131 rfl mwL_221 [.ref p, .int (S (i0 + 1)), .ref (m + 12)] rfl rfl rfl rfl (Nat.le_of_ble_eq_true rfl) rfl ?_
  refine s_L_balance hF' (by omega) ?_
  refine s_X9_balance hF hL0 (by omega) (by omega) (fun c1 n1 hn1 => ?_) (fun j hj ej => ?_)
  · refine Or.inr (Or.inl ⟨rfl, rfl, ?_⟩)
    show WP Γ _ _ _ _ _ _ _
    have B : Bet p m h h _ := Bet.n (p := p) ho hn1
    refine MC _ _ _ _ (B.1 _ (by omega)) (B.1 _ (by omega)) ?_
    refine s_X10_balance (ModC.mv (B.1 _ (by omega)) mC) ((B.1 _ (by omega)).trans mR) hr0 hI0.1 (by omega) (by omega) (fun d1 h2 fr2 m2 => ?_) (fun i hi ei h2 fr2 m2 => ?_)
    · show WP Γ _ _ _ _ _ _ _
      exact TE _ _ h2 _ _ (by decide) (fin_q hA hs0 hM0 hP0 c10 hm B fr2 ⟨_, _, _, _, _, _, m2⟩) ⟨_, _, _, _, _, _, _, m2⟩
    · have d1 : inN (S (i0 + 1)) np = true := by rw [ei]; exact inN_of hi (by omega)
      exact absurd (c1.symm.trans d1) (by decide)
  · refine ⟨fo, o1, fun fo1 hv => ?_⟩
    show WP Γ _ _ _ _ _ _ _
    have B : Bet p m h h _ := Bet.o fo1 ho hm (fun _ _ => rfl)
    have c1 : inN (S (i0 + 1)) np = true := by rw [ej]; exact inN_of hj (by omega)
    refine MC _ _ _ _ (B.1 _ (by omega)) (B.1 _ (by omega)) ?_
    refine s_X10_balance (ModC.mv (B.1 _ (by omega)) mC) ((B.1 _ (by omega)).trans mR) hr0 hI0.1 (by omega) (by omega) (fun d1 h2 fr2 m2 => ?_) (fun i hi ei h2 fr2 m2 => ?_)
    · exact absurd (c1.symm.trans d1) (by decide)
    · have d1 : inN (S (i0 + 1)) np = true := by rw [ei]; exact inN_of hi (by omega)
      show WP Γ _ _ _ _ _ _ _
      obtain rfl : j = i := (nI_eq9 (by omega) (by omega)).mp (ej.symm.trans ei)
      exact TO _ _ h2 _ fo1 (fin_q hA hs0 hM0 hP0 c10 hm B fr2 ⟨_, _, _, _, _, _, m2⟩) ⟨_, _, _, _, _, _, _, m2⟩ ((fr2.2 _ (by omega)).trans (ax_set_self _ _ _)) hv
end
