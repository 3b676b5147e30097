/-! ===== the law: cases ===== -/
section
variable {Γ : GE} {h : AH} {Q : PO} {p m b D sa N len i0 c0 s0 np nb ne nh nc y : Nat} {er : Int32} {bs S : FI} {f : Nat → Option Nat} {KS : Nat → KL} {qu ra le ln pl tm rw hw cw : FI} {re : Nat → UInt32} {bk : Nat → Int64} {t : Int32}
theorem cs_saveSnapshot (hA : Γ.2.1 ≤ p) (hs : ScrP Γ h sa N S) (ho : OutP h m) (c1 : ClsP h p m b D er bs len f (mkK np qu ra re le ln nb pl tm ne rw bk nh hw nc cw t y) KS) (hP : PurP len f (mkK np qu ra re le ln nb pl tm ne rw bk nh hw nc cw t y) KS) (hM : ModP h m er bs len f (mkK np qu ra re le ln nb pl tm ne rw bk nh hw nc cw t y) KS) (hi : i0 + 5 ≤ N) (k : ∀ h', Sim Γ h' p m sa N S → WP Γ ML_law (10, 196, c0, s0) 3329 [some (.ref sa), some (.ref p), some (.ref m), some (.ref (m + 12)), some (.ref (m + 13)), some (.int (nI i0)), none, none, none, none] [] h' Q) : WP Γ ML_law (10, 196, c0 + 20, s0 + 4409) 3217 [some (.ref sa), some (.ref p), some (.ref m), some (.ref (m + 12)), some (.ref (m + 13)), some (.int (nI i0)), none, none, none, none] [] h Q := by
  have hs0 := hs
  have c10 := c1
  have hP0 := hP
  have hM0 := hM
  obtain ⟨hsa, hsl, hN, hfree⟩ := hs
  obtain ⟨⟨fo, o1⟩, fd, o2⟩ := ho
  obtain ⟨hF, hT, hR3, hBat, hSna, ⟨pk, hL⟩, hX, hbD, hm, hz, hsn, hap⟩ := c1
  obtain ⟨hlen, hI, hIS⟩ := hP
  obtain ⟨⟨th, at', bg, e9, ea, cm, mC⟩, ⟨R, mR, hr⟩, ⟨R2, mR2⟩, ⟨R3, mR3⟩, ⟨RE, mE, hre⟩, ⟨RA, mRA⟩, ⟨mpk, mP⟩, ⟨B, mB, hB⟩, ⟨CM, mK⟩, CC, CE, SV, mCC, mCE, mSV, hsv, hsr⟩ := hM
  have hI0 : Inv np qu ra re le ln nb pl tm ne rw bk nh hw nc cw t y := hI
  have hr0 : RowR R np qu ra re le ln nb pl tm ne rw bk nh hw nc cw t y := hr
  have hL0 : LedP h b np qu ra re le ln nb pl tm ne rw bk nh hw nc cw t y pk := hL
  have hre0 : ∀ j, j < np → RE j = re j := hre
  obtain ⟨⟨s1, s2, s3, s4, s5, s6, s7, s8, tn, s9, s10⟩, IM, IP, IJ, IR, IC⟩ := hI0
  have hI0 : Inv np qu ra re le ln nb pl tm ne rw bk nh hw nc cw t y := hI
  have hF' := hF
  unfold FacC at hF'
  have ho : OutP h m := ⟨⟨fo, o1⟩, fd, o2⟩
  have TE : ∀ (X Y : Nat) (h2 : AH) (kk : Int32) (v9 : Int32), ¬ kk = 0 → Sim Γ h2 p m sa N S → (∃ tl at' bg e9 ea lr cm, ModC h2 m (m + 1) kk tl at' bg e9 ea lr cm) → WP Γ ML_law (10, 196, c0 + X, s0 + Y) 3240 [some (.ref sa), some (.ref p), some (.ref m), some (.ref (m + 12)), some (.ref (m + 13)), some (.int (nI i0)), some (.int kk), none, none, none] [.int v9] h2 Q := by
    intro X Y h2 kk v9 hk hsim hm2
    obtain ⟨tl2, at2, bg2, e2, ea2, lr2, cm2, m2⟩ := hm2
    have m20 := m2
    unfold ModC at m2
    refine wp_istore (n := 3242) dL_law_3240 rfl rfl rfl rfl ?_
    refine wp_aload_n (n := 3243) dL_law_3242 rfl rfl ?_
    refine wp_callVs (n := 3246) (rm' := (0, 0, 0, 0)) (c0 := c0) (s0 := s0) rfl dL_law_3243 rfl mlL_156 [] rfl rfl m2 rfl rfl rfl (Nat.le_of_ble_eq_true rfl) rfl ?_
    refine s_X10_thrown m20 ?_
    show WP Γ _ _ _ _ _ _ _
    refine wp_iload (n := 3248) dL_law_3246 rfl rfl ?_
    refine wp_icmp_eq (t := 3253) (n := 3251) dL_law_3248 (by decide) rfl (fun hc => ?_) (fun hc => ?_)
    · refine wp_iload (n := 3255) dL_law_3253 rfl rfl ?_
      refine wp_if_ne (t := 3270) (n := 3258) dL_law_3255 (by decide) rfl (fun hq => ?_) (fun hq => ?_)
      · refine wp_goto (t := 3329) dL_law_3270 (by decide) ?_
        refine wp_lo (lo' := [some (.ref sa), some (.ref p), some (.ref m), some (.ref (m + 12)), some (.ref (m + 13)), some (.int (nI i0)), none, none, none, none]) (fun k v hk => ?_) ?_
        · match k, hk with
          | 0, hk => exact hk
          | 1, hk => exact hk
          | 2, hk => exact hk
          | 3, hk => exact hk
          | 4, hk => exact hk
          | 5, hk => exact hk
          | 6, hk => exact absurd hk (by simp [ax_gl])
          | 7, hk => exact absurd hk (by simp [ax_gl])
          | 8, hk => exact absurd hk (by simp [ax_gl])
          | 9, hk => exact absurd hk (by simp [ax_gl])
          | k + 10, hk => exact absurd hk (by simp [ax_gl])
        exact wp_big (rm := (10, 196, c0, s0)) (Nat.le_refl _) (Nat.le_refl _) (Nat.le_add_right _ _) (Nat.le_add_right _ _) (k h2 hsim)
      · exact absurd hq hk
    · exact absurd rfl hc
  have TO : ∀ (X Y : Nat) (h2 : AH) (r : Int32) (fo2 : Nat → Int64), Sim Γ h2 p m sa N S → (∃ tl at' bg e9 ea lr cm, ModC h2 m (m + 1) 0 tl at' bg e9 ea lr cm) → h2.2 (m + 12) = some (.inl (.long, 1, .inr (.inl fo2))) → fo2 0 = r.toInt64 → WP Γ ML_law (10, 196, c0 + X, s0 + Y) 3240 [some (.ref sa), some (.ref p), some (.ref m), some (.ref (m + 12)), some (.ref (m + 13)), some (.int (nI i0)), some (.int 0), none, none, none] [.int r] h2 Q := by
    intro X Y h2 r fo2 hsim hm2 ho2 hv2
    obtain ⟨tl2, at2, bg2, e2, ea2, lr2, cm2, m2⟩ := hm2
    have m20 := m2
    unfold ModC at m2
    have fin : ∀ l7 : Option Value, WP Γ ML_law (10, 196, c0 + (X - 0), s0 + (Y - 0)) 3270 [some (.ref sa), some (.ref p), some (.ref m), some (.ref (m + 12)), some (.ref (m + 13)), some (.int (nI i0)), some (.int 0), l7, none, none] [] h2 Q := by
      intro l7
      refine wp_goto (t := 3329) dL_law_3270 (by decide) ?_
      refine wp_lo (lo' := [some (.ref sa), some (.ref p), some (.ref m), some (.ref (m + 12)), some (.ref (m + 13)), some (.int (nI i0)), none, none, none, none]) (fun k v hk => ?_) ?_
      · match k, hk with
        | 0, hk => exact hk
        | 1, hk => exact hk
        | 2, hk => exact hk
        | 3, hk => exact hk
        | 4, hk => exact hk
        | 5, hk => exact hk
        | 6, hk => exact absurd hk (by simp [ax_gl])
        | 7, hk => exact absurd hk (by simp [ax_gl])
        | 8, hk => exact absurd hk (by simp [ax_gl])
        | 9, hk => exact absurd hk (by simp [ax_gl])
        | k + 10, hk => exact absurd hk (by simp [ax_gl])
      exact wp_big (rm := (10, 196, c0, s0)) (Nat.le_refl _) (Nat.le_refl _) (Nat.le_add_right _ _) (Nat.le_add_right _ _) (k h2 hsim)
    refine wp_istore (n := 3242) dL_law_3240 rfl rfl rfl rfl ?_
    refine wp_aload_n (n := 3243) dL_law_3242 rfl rfl ?_
    refine wp_callVs (n := 3246) (rm' := (0, 0, 0, 0)) (c0 := c0) (s0 := s0) rfl dL_law_3243 rfl mlL_156 [] rfl rfl m2 rfl rfl rfl (Nat.le_of_ble_eq_true rfl) rfl ?_
    refine s_X10_thrown m20 ?_
    show WP Γ _ _ _ _ _ _ _
    refine wp_iload (n := 3248) dL_law_3246 rfl rfl ?_
    refine wp_icmp_eq (t := 3253) (n := 3251) dL_law_3248 (by decide) rfl (fun hc => ?_) (fun hc => ?_)
    · refine wp_iload (n := 3255) dL_law_3253 rfl rfl ?_
      refine wp_if_ne (t := 3270) (n := 3258) dL_law_3255 (by decide) rfl (fun hq => ?_) (fun hq => ?_)
      · exact absurd rfl hq
      · refine wp_aload_n (n := 3259) dL_law_3258 rfl rfl ?_
        refine wp_iconst (n := 3260) (v := 0) dL_law_3259 rfl (by decide) ?_
        refine wp_lald (n := 3261) 0 dL_law_3260 rfl ho2 rfl (by omega) (by omega) ?_
        rw [hv2]
        refine wp_iload (n := 3263) dL_law_3261 rfl rfl ?_
        refine wp_i2l (n := 3264) dL_law_3263 rfl ?_
        refine wp_lcmp (n := 3265) dL_law_3264 rfl ?_
        rw [lg_self]
        refine wp_if_eq (t := 3270) (n := 3268) dL_law_3265 (by decide) rfl (fun hu => ?_) (fun hu => ?_)
        · exact fin _
        · exact absurd rfl hu
    · exact absurd rfl hc
  have MC : ∀ (X Y : Nat) (h3 : AH) (kk : Int32), h3.2 m = h.2 m → h3.2 sa = h.2 sa → WP Γ MX10_saveSnapshot (1, 24, 0, 0) 0 [some (.ref m), some (.int (S (i0 + 1)))] [] h3 (ax_K Γ ML_law (10, 196, c0 + (X - 0), s0 + (Y - 0)) 3240 [some (.ref sa), some (.ref p), some (.ref m), some (.ref (m + 12)), some (.ref (m + 13)), some (.int (nI i0)), some (.int kk), none, none, none] [] Q) → WP Γ ML_law (10, 196, c0 + X, s0 + Y) 3228 [some (.ref sa), some (.ref p), some (.ref m), some (.ref (m + 12)), some (.ref (m + 13)), some (.int (nI i0)), none, none, none, none] [.int kk] h3 Q := by
    intro X Y h3 kk e1 e2 kk3
    have mC3' := ModC.mv e1 mC
    unfold ModC at mC3'
    have hsa3 := e2.trans hsa
    refine wp_istore (n := 3230) dL_law_3228 rfl rfl rfl rfl ?_
    refine wp_aload_n (n := 3231) dL_law_3230 rfl rfl ?_
    refine wp_aload_n (n := 3232) dL_law_3231 rfl rfl ?_
    refine wp_iload (n := 3234) dL_law_3232 rfl rfl ?_
    refine wp_iconst (n := 3235) (v := nI 1) dL_law_3234 rfl (by decide) ?_
    refine wp_iadd (n := 3236) dL_law_3235 rfl ?_
    refine wp_iald (n := 3237) (i0 + 1) dL_law_3236 rfl (by repeat first | assumption | exact ax_set_self _ _ _ | exact ax_newA_self _ _ _ | refine (ax_set_ne _ _ (by omega)).trans ?_ | refine (ax_newA_ne _ _ _ (by omega)).trans ?_) (by simp only [nI_zero, nI_mul, nI_add]) (by omega) (by omega) ?_
    refine wp_callVs (n := 3240) (rm' := (1, 24, 0, 0)) (c0 := c0) (s0 := s0) rfl dL_law_3237 rfl mlL_341 [.int (S (i0 + 1))] rfl rfl mC3' rfl rfl rfl (Nat.le_of_ble_eq_true rfl) rfl ?_
    exact kk3
  refine wp_aload_n (n := 3218) dL_law_3217 rfl rfl ?_
  refine wp_aload_n (n := 3219) dL_law_3218 rfl rfl ?_
  refine wp_iload (n := 3221) dL_law_3219 rfl rfl ?_
  refine wp_iconst (n := 3222) (v := nI 1) dL_law_3221 rfl (by decide) ?_
  refine wp_iadd (n := 3223) dL_law_3222 rfl ?_
  refine wp_iald (n := 3224) (i0 + 1) dL_law_3223 rfl (by repeat first | assumption | exact ax_set_self _ _ _ | exact ax_newA_self _ _ _ | refine (ax_set_ne _ _ (by omega)).trans ?_ | refine (ax_newA_ne _ _ _ (by omega)).trans ?_) (by simp only [nI_zero, nI_mul, nI_add]) (by omega) (by omega) ?_
  refine wp_aload_n (n := 3225) dL_law_3224 rfl rfl ?_
  refine wp_callSH (n := 3228) (rm' := (8, 137, 20, 4409)) (c0 := c0) (s0 := s0) (C := 20) (S := 4409) rfl dL_law_3225 rfl mwL_339 [.ref p, .int (S (i0 + 1)), .ref (m + 12)] rfl rfl rfl rfl (Nat.le_of_ble_eq_true rfl) rfl ?_
  refine s_L_saveSnapshot hF' (by omega) ?_
  refine s_X9_saveSnapshot hF hL0 hSna (by omega) (by omega) (by omega) (fun j s hj hs => by obtain ⟨d1, d2, d3⟩ := hsn j s hj hs; exact ⟨d1.x, by omega, by omega⟩) (fun c1 n1 hn1 => ?_) (fun j s hj ej ef h1 fr1 hL1 => ?_) (fun j hj ej ef h1 hz1 fr1 hS1 hL1 => ?_)
  · refine Or.inl ⟨rfl, rfl, ?_⟩
    show WP Γ _ _ _ _ _ _ _
    have B : Bet p m h h _ := Bet.n (p := p) ho hn1
    have c1 := (inN_inI (n := 1) (by decide)).symm.trans c1
    refine MC _ _ _ _ (B.1 _ (by omega)) (B.1 _ (by omega)) ?_
    refine s_X10_saveSnapshot (ModC.mv (B.1 _ (by omega)) mC) ((B.1 _ (by omega)).trans mR) hr0 hI0 (by omega) (by omega) ((B.1 _ (by omega)).trans mCC) ((B.1 _ (by omega)).trans mE) ((B.1 _ (by omega)).trans mCE) ((B.1 _ (by omega)).trans mSV) rfl (fun d1 h2 fr2 m2 => ?_) (fun i hi ei h2 C9 E9 fz fr2 m2 rC rE rV eC1 eC2 eE1 eE2 => ?_)
    · show WP Γ _ _ _ _ _ _ _
      exact TE _ _ h2 _ _ (by decide) (fin_q hA hs0 hM0 hP0 c10 hm B fr2 ⟨_, _, _, _, _, _, m2⟩) ⟨_, _, _, _, _, _, _, m2⟩
    · have d1 : inI (S (i0 + 1)) 0 1 = true := by rw [ei]; exact inI_of (by omega) hi (by decide)
      exact absurd (c1.symm.trans d1) (by decide)
  · obtain ⟨_, y1, y2⟩ := hsn j s hj ef
    refine ⟨fo, ((fr1.2 _ (by omega)).trans o1), fun fo1 hv => ?_⟩
    show WP Γ _ _ _ _ _ _ _
    have B : Bet p m h h1 _ := Bet.o fo1 ho hm (fun c hc => fr1.2 c (by omega))
    have c1 : inI (S (i0 + 1)) 0 1 = true := by rw [ej]; exact inI_of (by omega) (by omega) (by decide)
    refine MC _ _ _ _ (B.1 _ (by omega)) (B.1 _ (by omega)) ?_
    refine s_X10_saveSnapshot (ModC.mv (B.1 _ (by omega)) mC) ((B.1 _ (by omega)).trans mR) hr0 hI0 (by omega) (by omega) ((B.1 _ (by omega)).trans mCC) ((B.1 _ (by omega)).trans mE) ((B.1 _ (by omega)).trans mCE) ((B.1 _ (by omega)).trans mSV) rfl (fun d1 h2 fr2 m2 => ?_) (fun i hi ei h2 C9 E9 fz fr2 m2 rC rE rV eC1 eC2 eE1 eE2 => ?_)
    · exact absurd (c1.symm.trans d1) (by decide)
    · have d1 : inI (S (i0 + 1)) 0 1 = true := by rw [ei]; exact inI_of (by omega) hi (by decide)
      show WP Γ _ _ _ _ _ _ _
      obtain rfl : j = i := (nI_eq9 (by omega) (by omega)).mp (ej.symm.trans ei)
      obtain ⟨w1, w2, w3⟩ := sv_rows (K := mkK np qu ra re le ln nb pl tm ne rw bk nh hw nc cw t y) (KS := KS) (f' := f) hj (fun _ _ => rfl) ⟨s, ef⟩ hI hIS hr hre hsv hsr eC1 eC2 eE1 eE2
      exact TO _ _ h2 _ fo1 (fin_r (KS := (fun q => if q = j then mkK np qu ra re le ln nb pl tm ne rw bk nh hw nc cw t y else KS q)) (K := mkK np qu ra re le ln nb pl tm ne rw bk nh hw nc cw t y) hA hs0 hm (c10.svS hj ef fr1 hL1) ⟨hlen, hI, w2⟩ B (fun c hc => fr2 c (by omega) (by omega) (by omega) (by omega)) fz ⟨⟨_, _, _, _, _, _, m2⟩, ⟨R, (fr2 _ (by omega) (by omega) (by omega) (by omega)).trans ((B.1 _ (by omega)).trans mR), hr⟩, ⟨R2, (fr2 _ (by omega) (by omega) (by omega) (by omega)).trans ((B.1 _ (by omega)).trans mR2)⟩, ⟨R3, (fr2 _ (by omega) (by omega) (by omega) (by omega)).trans ((B.1 _ (by omega)).trans mR3)⟩, ⟨RE, (fr2 _ (by omega) (by omega) (by omega) (by omega)).trans ((B.1 _ (by omega)).trans mE), hre⟩, ⟨RA, (fr2 _ (by omega) (by omega) (by omega) (by omega)).trans ((B.1 _ (by omega)).trans mRA)⟩, ⟨mpk, (fr2 _ (by omega) (by omega) (by omega) (by omega)).trans ((B.1 _ (by omega)).trans mP)⟩, ⟨_, (fr2 _ (by omega) (by omega) (by omega) (by omega)).trans ((B.1 _ (by omega)).trans mB), hB⟩, ⟨CM, (fr2 _ (by omega) (by omega) (by omega) (by omega)).trans ((B.1 _ (by omega)).trans mK)⟩, C9, E9, _, rC, rE, rV, w1, w3⟩) ⟨_, _, _, _, _, _, _, m2⟩ ((fr2 _ (by omega) (by omega) (by omega) (by omega)).trans (ax_set_self _ _ _)) hv
  · have fr1' : ∀ c, (c < p ∨ (m ≤ c ∧ c < m + 14)) → h1.2 c = h.2 c := fun c hc => fr1 c (by omega) (by omega)
    refine ⟨fo, ((fr1' _ (by omega)).trans o1), fun fo1 hv => ?_⟩
    show WP Γ _ _ _ _ _ _ _
    have B : Bet p m h h1 _ := Bet.o fo1 ho hm (fun c hc => fr1' c (by omega))
    have c1 : inI (S (i0 + 1)) 0 1 = true := by rw [ej]; exact inI_of (by omega) (by omega) (by decide)
    refine MC _ _ _ _ (B.1 _ (by omega)) (B.1 _ (by omega)) ?_
    refine s_X10_saveSnapshot (ModC.mv (B.1 _ (by omega)) mC) ((B.1 _ (by omega)).trans mR) hr0 hI0 (by omega) (by omega) ((B.1 _ (by omega)).trans mCC) ((B.1 _ (by omega)).trans mE) ((B.1 _ (by omega)).trans mCE) ((B.1 _ (by omega)).trans mSV) rfl (fun d1 h2 fr2 m2 => ?_) (fun i hi ei h2 C9 E9 fz fr2 m2 rC rE rV eC1 eC2 eE1 eE2 => ?_)
    · exact absurd (c1.symm.trans d1) (by decide)
    · have d1 : inI (S (i0 + 1)) 0 1 = true := by rw [ei]; exact inI_of (by omega) hi (by decide)
      show WP Γ _ _ _ _ _ _ _
      obtain rfl : j = i := (nI_eq9 (by omega) (by omega)).mp (ej.symm.trans ei)
      obtain ⟨w1, w2, w3⟩ := sv_rows (K := mkK np qu ra re le ln nb pl tm ne rw bk nh hw nc cw t y) (KS := KS) (f' := va_up f j (some h.1)) hj (fun q hq => if_neg hq) ⟨h.1, if_pos rfl⟩ hI hIS hr hre hsv hsr eC1 eC2 eE1 eE2
      exact TO _ _ h2 _ fo1 (fin_r (KS := (fun q => if q = j then mkK np qu ra re le ln nb pl tm ne rw bk nh hw nc cw t y else KS q)) (K := mkK np qu ra re le ln nb pl tm ne rw bk nh hw nc cw t y) hA hs0 hm (c10.svN hj ef hz1 fr1 hS1 hL1) ⟨hlen, hI, w2⟩ B (fun c hc => fr2 c (by omega) (by omega) (by omega) (by omega)) fz ⟨⟨_, _, _, _, _, _, m2⟩, ⟨R, (fr2 _ (by omega) (by omega) (by omega) (by omega)).trans ((B.1 _ (by omega)).trans mR), hr⟩, ⟨R2, (fr2 _ (by omega) (by omega) (by omega) (by omega)).trans ((B.1 _ (by omega)).trans mR2)⟩, ⟨R3, (fr2 _ (by omega) (by omega) (by omega) (by omega)).trans ((B.1 _ (by omega)).trans mR3)⟩, ⟨RE, (fr2 _ (by omega) (by omega) (by omega) (by omega)).trans ((B.1 _ (by omega)).trans mE), hre⟩, ⟨RA, (fr2 _ (by omega) (by omega) (by omega) (by omega)).trans ((B.1 _ (by omega)).trans mRA)⟩, ⟨mpk, (fr2 _ (by omega) (by omega) (by omega) (by omega)).trans ((B.1 _ (by omega)).trans mP)⟩, ⟨_, (fr2 _ (by omega) (by omega) (by omega) (by omega)).trans ((B.1 _ (by omega)).trans mB), hB⟩, ⟨CM, (fr2 _ (by omega) (by omega) (by omega) (by omega)).trans ((B.1 _ (by omega)).trans mK)⟩, C9, E9, _, rC, rE, rV, w1, w3⟩) ⟨_, _, _, _, _, _, _, m2⟩ ((fr2 _ (by omega) (by omega) (by omega) (by omega)).trans (ax_set_self _ _ _)) hv
theorem cs_restoreSnapshot (hA : Γ.2.1 ≤ p) (hs : ScrP Γ h sa N S) (ho : OutP h m) (c1 : ClsP h p m b D er bs len f (mkK np qu ra re le ln nb pl tm ne rw bk nh hw nc cw t y) KS) (hP : PurP len f (mkK np qu ra re le ln nb pl tm ne rw bk nh hw nc cw t y) KS) (hM : ModP h m er bs len f (mkK np qu ra re le ln nb pl tm ne rw bk nh hw nc cw t y) KS) (hi : i0 + 5 ≤ N) (k : ∀ h', Sim Γ h' p m sa N S → WP Γ ML_law (10, 196, c0, s0) 3329 [some (.ref sa), some (.ref p), some (.ref m), some (.ref (m + 12)), some (.ref (m + 13)), some (.int (nI i0)), none, none, none, none] [] h' Q) : WP Γ ML_law (10, 196, c0 + 20, s0 + 4409) 3273 [some (.ref sa), some (.ref p), some (.ref m), some (.ref (m + 12)), some (.ref (m + 13)), some (.int (nI i0)), none, none, none, none] [] h Q := by
  have hs0 := hs
  have c10 := c1
  have hP0 := hP
  have hM0 := hM
  obtain ⟨hsa, hsl, hN, hfree⟩ := hs
  obtain ⟨⟨fo, o1⟩, fd, o2⟩ := ho
  obtain ⟨hF, hT, hR3, hBat, hSna, ⟨pk, hL⟩, hX, hbD, hm, hz, hsn, hap⟩ := c1
  obtain ⟨hlen, hI, hIS⟩ := hP
  obtain ⟨⟨th, at', bg, e9, ea, cm, mC⟩, ⟨R, mR, hr⟩, ⟨R2, mR2⟩, ⟨R3, mR3⟩, ⟨RE, mE, hre⟩, ⟨RA, mRA⟩, ⟨mpk, mP⟩, ⟨B, mB, hB⟩, ⟨CM, mK⟩, CC, CE, SV, mCC, mCE, mSV, hsv, hsr⟩ := hM
  have hI0 : Inv np qu ra re le ln nb pl tm ne rw bk nh hw nc cw t y := hI
  have hr0 : RowR R np qu ra re le ln nb pl tm ne rw bk nh hw nc cw t y := hr
  have hL0 : LedP h b np qu ra re le ln nb pl tm ne rw bk nh hw nc cw t y pk := hL
  have hre0 : ∀ j, j < np → RE j = re j := hre
  obtain ⟨⟨s1, s2, s3, s4, s5, s6, s7, s8, tn, s9, s10⟩, IM, IP, IJ, IR, IC⟩ := hI0
  have hI0 : Inv np qu ra re le ln nb pl tm ne rw bk nh hw nc cw t y := hI
  have hF' := hF
  unfold FacC at hF'
  have ho : OutP h m := ⟨⟨fo, o1⟩, fd, o2⟩
  have TE : ∀ (X Y : Nat) (h2 : AH) (kk : Int32) (v9 : Int32), ¬ kk = 0 → Sim Γ h2 p m sa N S → (∃ tl at' bg e9 ea lr cm, ModC h2 m (m + 1) kk tl at' bg e9 ea lr cm) → WP Γ ML_law (10, 196, c0 + X, s0 + Y) 3296 [some (.ref sa), some (.ref p), some (.ref m), some (.ref (m + 12)), some (.ref (m + 13)), some (.int (nI i0)), some (.int kk), none, none, none] [.int v9] h2 Q := by
    intro X Y h2 kk v9 hk hsim hm2
    obtain ⟨tl2, at2, bg2, e2, ea2, lr2, cm2, m2⟩ := hm2
    have m20 := m2
    unfold ModC at m2
    refine wp_istore (n := 3298) dL_law_3296 rfl rfl rfl rfl ?_
    refine wp_aload_n (n := 3299) dL_law_3298 rfl rfl ?_
    refine wp_callVs (n := 3302) (rm' := (0, 0, 0, 0)) (c0 := c0) (s0 := s0) rfl dL_law_3299 rfl mlL_156 [] rfl rfl m2 rfl rfl rfl (Nat.le_of_ble_eq_true rfl) rfl ?_
    refine s_X10_thrown m20 ?_
    show WP Γ _ _ _ _ _ _ _
    refine wp_iload (n := 3304) dL_law_3302 rfl rfl ?_
    refine wp_icmp_eq (t := 3309) (n := 3307) dL_law_3304 (by decide) rfl (fun hc => ?_) (fun hc => ?_)
    · refine wp_iload (n := 3311) dL_law_3309 rfl rfl ?_
      refine wp_if_ne (t := 3326) (n := 3314) dL_law_3311 (by decide) rfl (fun hq => ?_) (fun hq => ?_)
      · refine wp_goto (t := 3329) dL_law_3326 (by decide) ?_
        refine wp_lo (lo' := [some (.ref sa), some (.ref p), some (.ref m), some (.ref (m + 12)), some (.ref (m + 13)), some (.int (nI i0)), none, none, none, none]) (fun k v hk => ?_) ?_
        · match k, hk with
          | 0, hk => exact hk
          | 1, hk => exact hk
          | 2, hk => exact hk
          | 3, hk => exact hk
          | 4, hk => exact hk
          | 5, hk => exact hk
          | 6, hk => exact absurd hk (by simp [ax_gl])
          | 7, hk => exact absurd hk (by simp [ax_gl])
          | 8, hk => exact absurd hk (by simp [ax_gl])
          | 9, hk => exact absurd hk (by simp [ax_gl])
          | k + 10, hk => exact absurd hk (by simp [ax_gl])
        exact wp_big (rm := (10, 196, c0, s0)) (Nat.le_refl _) (Nat.le_refl _) (Nat.le_add_right _ _) (Nat.le_add_right _ _) (k h2 hsim)
      · exact absurd hq hk
    · exact absurd rfl hc
  have TO : ∀ (X Y : Nat) (h2 : AH) (r : Int32) (fo2 : Nat → Int64), Sim Γ h2 p m sa N S → (∃ tl at' bg e9 ea lr cm, ModC h2 m (m + 1) 0 tl at' bg e9 ea lr cm) → h2.2 (m + 12) = some (.inl (.long, 1, .inr (.inl fo2))) → fo2 0 = r.toInt64 → WP Γ ML_law (10, 196, c0 + X, s0 + Y) 3296 [some (.ref sa), some (.ref p), some (.ref m), some (.ref (m + 12)), some (.ref (m + 13)), some (.int (nI i0)), some (.int 0), none, none, none] [.int r] h2 Q := by
    intro X Y h2 r fo2 hsim hm2 ho2 hv2
    obtain ⟨tl2, at2, bg2, e2, ea2, lr2, cm2, m2⟩ := hm2
    have m20 := m2
    unfold ModC at m2
    have fin : ∀ l7 : Option Value, WP Γ ML_law (10, 196, c0 + (X - 0), s0 + (Y - 0)) 3326 [some (.ref sa), some (.ref p), some (.ref m), some (.ref (m + 12)), some (.ref (m + 13)), some (.int (nI i0)), some (.int 0), l7, none, none] [] h2 Q := by
      intro l7
      refine wp_goto (t := 3329) dL_law_3326 (by decide) ?_
      refine wp_lo (lo' := [some (.ref sa), some (.ref p), some (.ref m), some (.ref (m + 12)), some (.ref (m + 13)), some (.int (nI i0)), none, none, none, none]) (fun k v hk => ?_) ?_
      · match k, hk with
        | 0, hk => exact hk
        | 1, hk => exact hk
        | 2, hk => exact hk
        | 3, hk => exact hk
        | 4, hk => exact hk
        | 5, hk => exact hk
        | 6, hk => exact absurd hk (by simp [ax_gl])
        | 7, hk => exact absurd hk (by simp [ax_gl])
        | 8, hk => exact absurd hk (by simp [ax_gl])
        | 9, hk => exact absurd hk (by simp [ax_gl])
        | k + 10, hk => exact absurd hk (by simp [ax_gl])
      exact wp_big (rm := (10, 196, c0, s0)) (Nat.le_refl _) (Nat.le_refl _) (Nat.le_add_right _ _) (Nat.le_add_right _ _) (k h2 hsim)
    refine wp_istore (n := 3298) dL_law_3296 rfl rfl rfl rfl ?_
    refine wp_aload_n (n := 3299) dL_law_3298 rfl rfl ?_
    refine wp_callVs (n := 3302) (rm' := (0, 0, 0, 0)) (c0 := c0) (s0 := s0) rfl dL_law_3299 rfl mlL_156 [] rfl rfl m2 rfl rfl rfl (Nat.le_of_ble_eq_true rfl) rfl ?_
    refine s_X10_thrown m20 ?_
    show WP Γ _ _ _ _ _ _ _
    refine wp_iload (n := 3304) dL_law_3302 rfl rfl ?_
    refine wp_icmp_eq (t := 3309) (n := 3307) dL_law_3304 (by decide) rfl (fun hc => ?_) (fun hc => ?_)
    · refine wp_iload (n := 3311) dL_law_3309 rfl rfl ?_
      refine wp_if_ne (t := 3326) (n := 3314) dL_law_3311 (by decide) rfl (fun hq => ?_) (fun hq => ?_)
      · exact absurd rfl hq
      · refine wp_aload_n (n := 3315) dL_law_3314 rfl rfl ?_
        refine wp_iconst (n := 3316) (v := 0) dL_law_3315 rfl (by decide) ?_
        refine wp_lald (n := 3317) 0 dL_law_3316 rfl ho2 rfl (by omega) (by omega) ?_
        rw [hv2]
        refine wp_iload (n := 3319) dL_law_3317 rfl rfl ?_
        refine wp_i2l (n := 3320) dL_law_3319 rfl ?_
        refine wp_lcmp (n := 3321) dL_law_3320 rfl ?_
        rw [lg_self]
        refine wp_if_eq (t := 3326) (n := 3324) dL_law_3321 (by decide) rfl (fun hu => ?_) (fun hu => ?_)
        · exact fin _
        · exact absurd rfl hu
    · exact absurd rfl hc
  have MC : ∀ (X Y : Nat) (h3 : AH) (kk : Int32), h3.2 m = h.2 m → h3.2 sa = h.2 sa → WP Γ MX10_restoreSnapshot (1, 24, 0, 0) 0 [some (.ref m), some (.int (S (i0 + 1)))] [] h3 (ax_K Γ ML_law (10, 196, c0 + (X - 0), s0 + (Y - 0)) 3296 [some (.ref sa), some (.ref p), some (.ref m), some (.ref (m + 12)), some (.ref (m + 13)), some (.int (nI i0)), some (.int kk), none, none, none] [] Q) → WP Γ ML_law (10, 196, c0 + X, s0 + Y) 3284 [some (.ref sa), some (.ref p), some (.ref m), some (.ref (m + 12)), some (.ref (m + 13)), some (.int (nI i0)), none, none, none, none] [.int kk] h3 Q := by
    intro X Y h3 kk e1 e2 kk3
    have mC3' := ModC.mv e1 mC
    unfold ModC at mC3'
    have hsa3 := e2.trans hsa
    refine wp_istore (n := 3286) dL_law_3284 rfl rfl rfl rfl ?_
    refine wp_aload_n (n := 3287) dL_law_3286 rfl rfl ?_
    refine wp_aload_n (n := 3288) dL_law_3287 rfl rfl ?_
    refine wp_iload (n := 3290) dL_law_3288 rfl rfl ?_
    refine wp_iconst (n := 3291) (v := nI 1) dL_law_3290 rfl (by decide) ?_
    refine wp_iadd (n := 3292) dL_law_3291 rfl ?_
    refine wp_iald (n := 3293) (i0 + 1) dL_law_3292 rfl (by repeat first | assumption | exact ax_set_self _ _ _ | exact ax_newA_self _ _ _ | refine (ax_set_ne _ _ (by omega)).trans ?_ | refine (ax_newA_ne _ _ _ (by omega)).trans ?_) (by simp only [nI_zero, nI_mul, nI_add]) (by omega) (by omega) ?_
    refine wp_callVs (n := 3296) (rm' := (1, 24, 0, 0)) (c0 := c0) (s0 := s0) rfl dL_law_3293 rfl mlL_344 [.int (S (i0 + 1))] rfl rfl mC3' rfl rfl rfl (Nat.le_of_ble_eq_true rfl) rfl ?_
    exact kk3
  refine wp_aload_n (n := 3274) dL_law_3273 rfl rfl ?_
  refine wp_aload_n (n := 3275) dL_law_3274 rfl rfl ?_
  refine wp_iload (n := 3277) dL_law_3275 rfl rfl ?_
  refine wp_iconst (n := 3278) (v := nI 1) dL_law_3277 rfl (by decide) ?_
  refine wp_iadd (n := 3279) dL_law_3278 rfl ?_
  refine wp_iald (n := 3280) (i0 + 1) dL_law_3279 rfl (by repeat first | assumption | exact ax_set_self _ _ _ | exact ax_newA_self _ _ _ | refine (ax_set_ne _ _ (by omega)).trans ?_ | refine (ax_newA_ne _ _ _ (by omega)).trans ?_) (by simp only [nI_zero, nI_mul, nI_add]) (by omega) (by omega) ?_
  refine wp_aload_n (n := 3281) dL_law_3280 rfl rfl ?_
  refine wp_callSH (n := 3284) (rm' := (8, 137, 1, 6)) (c0 := c0) (s0 := s0) (C := 20) (S := 4409) rfl dL_law_3281 rfl mwL_342 [.ref p, .int (S (i0 + 1)), .ref (m + 12)] rfl rfl rfl rfl (Nat.le_of_ble_eq_true rfl) rfl ?_
  refine s_L_restoreSnapshot hF' (by omega) ?_
  refine s_X9_restoreSnapshot hF hL0 hSna (by omega) (by omega) (fun j s hj hs => by obtain ⟨d1, d2, d3⟩ := hsn j s hj hs; exact ⟨d1, by omega, by omega⟩) (fun c1 n1 hn1 => ?_) (fun j hj ej ef => ?_) (fun j s hj ej ef h1 fr1 hL1 => ?_)
  · refine Or.inl ⟨rfl, rfl, ?_⟩
    show WP Γ _ _ _ _ _ _ _
    have B : Bet p m h h _ := Bet.n (p := p) ho hn1
    have c1 := (inN_inI (n := 1) (by decide)).symm.trans c1
    refine MC _ _ _ _ (B.1 _ (by omega)) (B.1 _ (by omega)) ?_
    refine s_X10_restoreSnapshot (ModC.mv (B.1 _ (by omega)) mC) ((B.1 _ (by omega)).trans mR) hr0 hI0 (by omega) (by omega) ((B.1 _ (by omega)).trans mCC) ((B.1 _ (by omega)).trans mE) ((B.1 _ (by omega)).trans mCE) ((B.1 _ (by omega)).trans mSV) rfl (fun d1 h2 fr2 m2 => ?_) (fun i hi ei hv0 h2 fr2 m2 => ?_) (fun i hi ei hv0 h2 R9 E9 fz fr2 m2 r9 rE9 eR eE => ?_)
    · show WP Γ _ _ _ _ _ _ _
      exact TE _ _ h2 _ _ (by decide) (fin_q hA hs0 hM0 hP0 c10 hm B fr2 ⟨_, _, _, _, _, _, m2⟩) ⟨_, _, _, _, _, _, _, m2⟩
    · have d1 : inI (S (i0 + 1)) 0 1 = true := by rw [ei]; exact inI_of (by omega) hi (by decide)
      exact absurd (c1.symm.trans d1) (by decide)
    · have d1 : inI (S (i0 + 1)) 0 1 = true := by rw [ei]; exact inI_of (by omega) hi (by decide)
      exact absurd (c1.symm.trans d1) (by decide)
  · refine ⟨fo, o1, fun fo1 hv => ?_⟩
    show WP Γ _ _ _ _ _ _ _
    have B : Bet p m h h _ := Bet.o fo1 ho hm (fun _ _ => rfl)
    have c1 : inI (S (i0 + 1)) 0 1 = true := by rw [ej]; exact inI_of (by omega) (by omega) (by decide)
    refine MC _ _ _ _ (B.1 _ (by omega)) (B.1 _ (by omega)) ?_
    refine s_X10_restoreSnapshot (ModC.mv (B.1 _ (by omega)) mC) ((B.1 _ (by omega)).trans mR) hr0 hI0 (by omega) (by omega) ((B.1 _ (by omega)).trans mCC) ((B.1 _ (by omega)).trans mE) ((B.1 _ (by omega)).trans mCE) ((B.1 _ (by omega)).trans mSV) rfl (fun d1 h2 fr2 m2 => ?_) (fun i hi ei hv0 h2 fr2 m2 => ?_) (fun i hi ei hv0 h2 R9 E9 fz fr2 m2 r9 rE9 eR eE => ?_)
    · exact absurd (c1.symm.trans d1) (by decide)
    · have d1 : inI (S (i0 + 1)) 0 1 = true := by rw [ei]; exact inI_of (by omega) hi (by decide)
      show WP Γ _ _ _ _ _ _ _
      exact TO _ _ h2 _ fo1 (fin_q hA hs0 hM0 hP0 c10 hm B fr2 ⟨_, _, _, _, _, _, m2⟩) ⟨_, _, _, _, _, _, _, m2⟩ ((fr2.2 _ (by omega)).trans (ax_set_self _ _ _)) hv
    · have d1 : inI (S (i0 + 1)) 0 1 = true := by rw [ei]; exact inI_of (by omega) hi (by decide)
      obtain rfl : j = i := (nI_eq9 (by omega) (by omega)).mp (ej.symm.trans ei)
      exact absurd ((hsv j hj).mpr ef) hv0
  · refine ⟨fo, ((fr1.2 _ (by omega)).trans o1), fun fo1 hv => ?_⟩
    show WP Γ _ _ _ _ _ _ _
    have B : Bet p m h h1 _ := Bet.o fo1 ho hm (fun c hc => fr1.2 c (by omega))
    have c1 : inI (S (i0 + 1)) 0 1 = true := by rw [ej]; exact inI_of (by omega) (by omega) (by decide)
    refine MC _ _ _ _ (B.1 _ (by omega)) (B.1 _ (by omega)) ?_
    refine s_X10_restoreSnapshot (ModC.mv (B.1 _ (by omega)) mC) ((B.1 _ (by omega)).trans mR) hr0 hI0 (by omega) (by omega) ((B.1 _ (by omega)).trans mCC) ((B.1 _ (by omega)).trans mE) ((B.1 _ (by omega)).trans mCE) ((B.1 _ (by omega)).trans mSV) rfl (fun d1 h2 fr2 m2 => ?_) (fun i hi ei hv0 h2 fr2 m2 => ?_) (fun i hi ei hv0 h2 R9 E9 fz fr2 m2 r9 rE9 eR eE => ?_)
    · exact absurd (c1.symm.trans d1) (by decide)
    · have d1 : inI (S (i0 + 1)) 0 1 = true := by rw [ei]; exact inI_of (by omega) hi (by decide)
      obtain rfl : j = i := (nI_eq9 (by omega) (by omega)).mp (ej.symm.trans ei)
      cases (ef.symm.trans ((hsv j hj).mp hv0))
    · have d1 : inI (S (i0 + 1)) 0 1 = true := by rw [ei]; exact inI_of (by omega) hi (by decide)
      show WP Γ _ _ _ _ _ _ _
      obtain rfl : j = i := (nI_eq9 (by omega) (by omega)).mp (ej.symm.trans ei)
      obtain ⟨w1, w2⟩ := hsr j s hj ef
      have wI := hIS j s hj ef
      have hnp : (KS j).1.1 ≤ 8 := wI.1.2.1
      exact TO _ _ h2 _ fo1 (fin_s (K' := KS j) hA hs0 hM0 ⟨hlen, wI, hIS⟩ (c10.led fr1 hL1) hm B fz (fun c a b d _ => fr2 c a b d) ⟨_, _, _, _, _, _, m2⟩ ⟨R9, r9, w1.same wI (fun u hu => eR u hu)⟩ ⟨E9, rE9, fun q hq => (eE q (by omega)).trans (w2 q hq)⟩ ⟨mpk, (fr2 _ (by omega) (by omega) (by omega)).trans ((B.1 _ (by omega)).trans mP)⟩) ⟨_, _, _, _, _, _, _, m2⟩ ((fr2 _ (by omega) (by omega) (by omega)).trans (ax_set_self _ _ _)) (hv.trans (congrArg Int32.toInt64 (w1.1.2.2.1).symm))
end
