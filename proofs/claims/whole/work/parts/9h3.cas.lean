/-! ===== the law: cases ===== -/
section
variable {Γ : GE} {h : AH} {Q : PO} {p m b D sa N len i0 c0 s0 np nb ne nh nc y : Nat} {er : Int32} {bs S : FI} {f : Nat → Option Nat} {KS : Nat → KL} {qu ra le ln pl tm rw hw cw : FI} {re : Nat → UInt32} {bk : Nat → Int64} {t : Int32}
theorem cs_swap (hA : Γ.2.1 ≤ p) (hs : ScrP Γ h sa N S) (ho : OutP h m) (c1 : ClsP h p m b D er bs len f (mkK np qu ra re le ln nb pl tm ne rw bk nh hw nc cw t y) KS) (hP : PurP len f (mkK np qu ra re le ln nb pl tm ne rw bk nh hw nc cw t y) KS) (hM : ModP h m er bs len f (mkK np qu ra re le ln nb pl tm ne rw bk nh hw nc cw t y) KS) (hi : i0 + 5 ≤ N) (k : ∀ h', Sim Γ h' p m sa N S → WP Γ ML_law (10, 196, c0, s0) 3329 [some (.ref sa), some (.ref p), some (.ref m), some (.ref (m + 12)), some (.ref (m + 13)), some (.int (nI i0)), none, none, none, none] [] h' Q) : WP Γ ML_law (10, 196, c0 + 20, s0 + 4409) 1865 [some (.ref sa), some (.ref p), some (.ref m), some (.ref (m + 12)), some (.ref (m + 13)), some (.int (nI i0)), none, none, none, none] [] h Q := by
  have hs0 := hs
  have c10 := c1
  have hP0 := hP
  have hM0 := hM
  obtain ⟨hsa, hsl, hN, hfree⟩ := hs
  obtain ⟨⟨fo, o1⟩, fd, o2⟩ := ho
  obtain ⟨hF, hT, hR3, hBat, hSna, ⟨pk, hL⟩, hX, hbD, hm, hz, hsn, hap⟩ := c1
  obtain ⟨hlen, hI, hIS⟩ := hP
  obtain ⟨⟨th, at', bg, e9, ea, cm, mC⟩, ⟨R, mR, hr⟩, ⟨R2, mR2⟩, ⟨R3, mR3⟩, ⟨RE, mE, hre⟩, ⟨RA, mRA⟩, ⟨mpk, mP⟩, ⟨B, mB, hB⟩, ⟨CM, mK⟩, CC, CE, SV, mCC, mCE, mSV, hsv, hsr⟩ := hM
  have hI0 : Inv np qu ra re le ln nb pl tm ne rw bk nh hw nc cw t y := hI
  have hr0 : RowR R np qu ra re le ln nb pl tm ne rw bk nh hw nc cw t y := hr
  have hL0 : LedP h b np qu ra re le ln nb pl tm ne rw bk nh hw nc cw t y pk := hL
  have hre0 : ∀ j, j < np → RE j = re j := hre
  obtain ⟨⟨s1, s2, s3, s4, s5, s6, s7, s8, tn, s9, s10⟩, IM, IP, IJ, IR, IC⟩ := hI0
  have hI0 : Inv np qu ra re le ln nb pl tm ne rw bk nh hw nc cw t y := hI
  have hF' := hF
  unfold FacC at hF'
  have ho : OutP h m := ⟨⟨fo, o1⟩, fd, o2⟩
  have TE : ∀ (X Y : Nat) (h2 : AH) (kk : Int32) (v9 : Int32), ¬ kk = 0 → Sim Γ h2 p m sa N S → (∃ tl at' bg e9 ea lr cm, ModC h2 m (m + 1) kk tl at' bg e9 ea lr cm) → WP Γ ML_law (10, 196, c0 + X, s0 + Y) 1900 [some (.ref sa), some (.ref p), some (.ref m), some (.ref (m + 12)), some (.ref (m + 13)), some (.int (nI i0)), some (.int kk), none, none, none] [.int v9] h2 Q := by
    intro X Y h2 kk v9 hk hsim hm2
    obtain ⟨tl2, at2, bg2, e2, ea2, lr2, cm2, m2⟩ := hm2
    have m20 := m2
    unfold ModC at m2
    refine wp_istore (n := 1902) dL_law_1900 rfl rfl rfl rfl ?_
    refine wp_aload_n (n := 1903) dL_law_1902 rfl rfl ?_
    refine wp_callVs (n := 1906) (rm' := (0, 0, 0, 0)) (c0 := c0) (s0 := s0) rfl dL_law_1903 rfl mlL_156 [] rfl rfl m2 rfl rfl rfl (Nat.le_of_ble_eq_true rfl) rfl ?_
    refine s_X10_thrown m20 ?_
    show WP Γ _ _ _ _ _ _ _
    refine wp_iload (n := 1908) dL_law_1906 rfl rfl ?_
    refine wp_icmp_eq (t := 1913) (n := 1911) dL_law_1908 (by decide) rfl (fun hc => ?_) (fun hc => ?_)
    · refine wp_iload (n := 1915) dL_law_1913 rfl rfl ?_
      refine wp_if_ne (t := 1937) (n := 1918) dL_law_1915 (by decide) rfl (fun hq => ?_) (fun hq => ?_)
      · refine wp_goto (t := 3329) dL_law_1937 (by decide) ?_
        refine wp_lo (lo' := [some (.ref sa), some (.ref p), some (.ref m), some (.ref (m + 12)), some (.ref (m + 13)), some (.int (nI i0)), none, none, none, none]) (fun k v hk => ?_) ?_
        · match k, hk with
          | 0, hk => exact hk
          | 1, hk => exact hk
          | 2, hk => exact hk
          | 3, hk => exact hk
          | 4, hk => exact hk
          | 5, hk => exact hk
          | 6, hk => exact absurd hk (by simp [ax_gl])
          | 7, hk => exact absurd hk (by simp [ax_gl])
          | 8, hk => exact absurd hk (by simp [ax_gl])
          | 9, hk => exact absurd hk (by simp [ax_gl])
          | k + 10, hk => exact absurd hk (by simp [ax_gl])
        exact wp_big (rm := (10, 196, c0, s0)) (Nat.le_refl _) (Nat.le_refl _) (Nat.le_add_right _ _) (Nat.le_add_right _ _) (k h2 hsim)
      · exact absurd hq hk
    · exact absurd rfl hc
  have TO : ∀ (X Y : Nat) (h2 : AH) (r : Int32) (fo2 : Nat → Int64), Sim Γ h2 p m sa N S → (∃ tl at' bg e9 ea lr cm, ModC h2 m (m + 1) 0 tl at' bg e9 ea lr cm) → h2.2 (m + 12) = some (.inl (.long, 1, .inr (.inl fo2))) → fo2 0 = (if r = 0 then 0 else 1) → WP Γ ML_law (10, 196, c0 + X, s0 + Y) 1900 [some (.ref sa), some (.ref p), some (.ref m), some (.ref (m + 12)), some (.ref (m + 13)), some (.int (nI i0)), some (.int 0), none, none, none] [.int r] h2 Q := by
    intro X Y h2 r fo2 hsim hm2 ho2 hv2
    obtain ⟨tl2, at2, bg2, e2, ea2, lr2, cm2, m2⟩ := hm2
    have m20 := m2
    unfold ModC at m2
    have fin : ∀ l7 : Option Value, WP Γ ML_law (10, 196, c0 + (X - 0), s0 + (Y - 0)) 1937 [some (.ref sa), some (.ref p), some (.ref m), some (.ref (m + 12)), some (.ref (m + 13)), some (.int (nI i0)), some (.int 0), l7, none, none] [] h2 Q := by
      intro l7
      refine wp_goto (t := 3329) dL_law_1937 (by decide) ?_
      refine wp_lo (lo' := [some (.ref sa), some (.ref p), some (.ref m), some (.ref (m + 12)), some (.ref (m + 13)), some (.int (nI i0)), none, none, none, none]) (fun k v hk => ?_) ?_
      · match k, hk with
        | 0, hk => exact hk
        | 1, hk => exact hk
        | 2, hk => exact hk
        | 3, hk => exact hk
        | 4, hk => exact hk
        | 5, hk => exact hk
        | 6, hk => exact absurd hk (by simp [ax_gl])
        | 7, hk => exact absurd hk (by simp [ax_gl])
        | 8, hk => exact absurd hk (by simp [ax_gl])
        | 9, hk => exact absurd hk (by simp [ax_gl])
        | k + 10, hk => exact absurd hk (by simp [ax_gl])
      exact wp_big (rm := (10, 196, c0, s0)) (Nat.le_refl _) (Nat.le_refl _) (Nat.le_add_right _ _) (Nat.le_add_right _ _) (k h2 hsim)
    refine wp_istore (n := 1902) dL_law_1900 rfl rfl rfl rfl ?_
    refine wp_aload_n (n := 1903) dL_law_1902 rfl rfl ?_
    refine wp_callVs (n := 1906) (rm' := (0, 0, 0, 0)) (c0 := c0) (s0 := s0) rfl dL_law_1903 rfl mlL_156 [] rfl rfl m2 rfl rfl rfl (Nat.le_of_ble_eq_true rfl) rfl ?_
    refine s_X10_thrown m20 ?_
    show WP Γ _ _ _ _ _ _ _
    refine wp_iload (n := 1908) dL_law_1906 rfl rfl ?_
    refine wp_icmp_eq (t := 1913) (n := 1911) dL_law_1908 (by decide) rfl (fun hc => ?_) (fun hc => ?_)
    · refine wp_iload (n := 1915) dL_law_1913 rfl rfl ?_
      refine wp_if_ne (t := 1937) (n := 1918) dL_law_1915 (by decide) rfl (fun hq => ?_) (fun hq => ?_)
      · exact absurd rfl hq
      · refine wp_aload_n (n := 1919) dL_law_1918 rfl rfl ?_
        refine wp_iconst (n := 1920) (v := 0) dL_law_1919 rfl (by decide) ?_
        refine wp_lald (n := 1921) 0 dL_law_1920 rfl ho2 rfl (by omega) (by omega) ?_
        rw [hv2]
        refine wp_iload (n := 1923) dL_law_1921 rfl rfl ?_
        refine wp_if_eq (t := 1930) (n := 1926) dL_law_1923 (by decide) rfl (fun hv => ?_) (fun hv => ?_)
        · rw [if_pos hv]
          refine wp_lconst (n := 1931) (v := 0) dL_law_1930 rfl (by decide) ?_
          refine wp_lcmp (n := 1932) dL_law_1931 rfl ?_
          rw [lg_self]
          refine wp_if_eq (t := 1937) (n := 1935) dL_law_1932 (by decide) rfl (fun hu => ?_) (fun hu => ?_)
          · exact fin _
          · exact absurd rfl hu
        · rw [if_neg hv]
          refine wp_lconst (n := 1927) (v := 1) dL_law_1926 rfl (by decide) ?_
          refine wp_goto (t := 1931) dL_law_1927 (by decide) ?_
          refine wp_lcmp (n := 1932) dL_law_1931 rfl ?_
          rw [lg_self]
          refine wp_if_eq (t := 1937) (n := 1935) dL_law_1932 (by decide) rfl (fun hu => ?_) (fun hu => ?_)
          · exact fin _
          · exact absurd rfl hu
    · exact absurd rfl hc
  have MC : ∀ (X Y : Nat) (h3 : AH) (kk : Int32), h3.2 m = h.2 m → h3.2 sa = h.2 sa → WP Γ MX10_swap (2, 43, 0, 0) 0 [some (.ref m), some (.int (S (i0 + 1))), some (.int (S (i0 + 2)))] [] h3 (ax_K Γ ML_law (10, 196, c0 + (X - 0), s0 + (Y - 0)) 1900 [some (.ref sa), some (.ref p), some (.ref m), some (.ref (m + 12)), some (.ref (m + 13)), some (.int (nI i0)), some (.int kk), none, none, none] [] Q) → WP Γ ML_law (10, 196, c0 + X, s0 + Y) 1882 [some (.ref sa), some (.ref p), some (.ref m), some (.ref (m + 12)), some (.ref (m + 13)), some (.int (nI i0)), none, none, none, none] [.int kk] h3 Q := by
    intro X Y h3 kk e1 e2 kk3
    have mC3' := ModC.mv e1 mC
    unfold ModC at mC3'
    have hsa3 := e2.trans hsa
    refine wp_istore (n := 1884) dL_law_1882 rfl rfl rfl rfl ?_
    refine wp_aload_n (n := 1885) dL_law_1884 rfl rfl ?_
    refine wp_aload_n (n := 1886) dL_law_1885 rfl rfl ?_
    refine wp_iload (n := 1888) dL_law_1886 rfl rfl ?_
    refine wp_iconst (n := 1889) (v := nI 1) dL_law_1888 rfl (by decide) ?_
    refine wp_iadd (n := 1890) dL_law_1889 rfl ?_
    refine wp_iald (n := 1891) (i0 + 1) dL_law_1890 rfl (by repeat first | assumption | exact ax_set_self _ _ _ | exact ax_newA_self _ _ _ | refine (ax_set_ne _ _ (by omega)).trans ?_ | refine (ax_newA_ne _ _ _ (by omega)).trans ?_) (by simp only [nI_zero, nI_mul, nI_add]) (by omega) (by omega) ?_
    refine wp_aload_n (n := 1892) dL_law_1891 rfl rfl ?_
    refine wp_iload (n := 1894) dL_law_1892 rfl rfl ?_
    refine wp_iconst (n := 1895) (v := nI 2) dL_law_1894 rfl (by decide) ?_
    refine wp_iadd (n := 1896) dL_law_1895 rfl ?_
    refine wp_iald (n := 1897) (i0 + 2) dL_law_1896 rfl (by repeat first | assumption | exact ax_set_self _ _ _ | exact ax_newA_self _ _ _ | refine (ax_set_ne _ _ (by omega)).trans ?_ | refine (ax_newA_ne _ _ _ (by omega)).trans ?_) (by simp only [nI_zero, nI_mul, nI_add]) (by omega) (by omega) ?_
    refine wp_callVs (n := 1900) (rm' := (2, 43, 0, 0)) (c0 := c0) (s0 := s0) rfl dL_law_1897 rfl mlL_260 [.int (S (i0 + 1)), .int (S (i0 + 2))] rfl rfl mC3' rfl rfl rfl (Nat.le_of_ble_eq_true rfl) rfl ?_
    exact kk3
  refine wp_aload_n (n := 1866) dL_law_1865 rfl rfl ?_
  refine wp_aload_n (n := 1867) dL_law_1866 rfl rfl ?_
  refine wp_iload (n := 1869) dL_law_1867 rfl rfl ?_
  refine wp_iconst (n := 1870) (v := nI 1) dL_law_1869 rfl (by decide) ?_
  refine wp_iadd (n := 1871) dL_law_1870 rfl ?_
  refine wp_iald (n := 1872) (i0 + 1) dL_law_1871 rfl (by repeat first | assumption | exact ax_set_self _ _ _ | exact ax_newA_self _ _ _ | refine (ax_set_ne _ _ (by omega)).trans ?_ | refine (ax_newA_ne _ _ _ (by omega)).trans ?_) (by simp only [nI_zero, nI_mul, nI_add]) (by omega) (by omega) ?_
  refine wp_aload_n (n := 1873) dL_law_1872 rfl rfl ?_
  refine wp_iload (n := 1875) dL_law_1873 rfl rfl ?_
  refine wp_iconst (n := 1876) (v := nI 2) dL_law_1875 rfl (by decide) ?_
  refine wp_iadd (n := 1877) dL_law_1876 rfl ?_
  refine wp_iald (n := 1878) (i0 + 2) dL_law_1877 rfl (by repeat first | assumption | exact ax_set_self _ _ _ | exact ax_newA_self _ _ _ | refine (ax_set_ne _ _ (by omega)).trans ?_ | refine (ax_newA_ne _ _ _ (by omega)).trans ?_) (by simp only [nI_zero, nI_mul, nI_add]) (by omega) (by omega) ?_
  refine wp_aload_n (n := 1879) dL_law_1878 rfl rfl ?_
  refine wp_callSH (n := 1882) (rm' := (8, 138, 3, 18)) (c0 := c0) (s0 := s0) (C := 20) (S := 4409) rfl dL_law_1879 rfl mwL_258 [.ref p, .int (S (i0 + 1)), .int (S (i0 + 2)), .ref (m + 12)] rfl rfl rfl rfl (Nat.le_of_ble_eq_true rfl) rfl ?_
  refine s_L_swap hF' (by omega) ?_
  refine s_X9_swap hF hL0 (by omega) (by omega) (fun c1 n1 hn1 => ?_) (fun c1 c2 n1 hn1 => ?_) (fun i j hi hj ei ej hij h1 fr1 hL1 => ?_)
  · refine Or.inr (Or.inr ⟨rfl, Or.inl ⟨rfl, ?_⟩⟩)
    show WP Γ _ _ _ _ _ _ _
    have B : Bet p m h h _ := Bet.n (p := p) ho hn1
    refine MC _ _ _ _ (B.1 _ (by omega)) (B.1 _ (by omega)) ?_
    refine s_X10_swap (ModC.mv (B.1 _ (by omega)) mC) ((B.1 _ (by omega)).trans mR) hr0 hI0 (by omega) (by omega) (by omega) (fun d1 h2 fr2 m2 => ?_) (fun d1 d2 h2 fr2 m2 => ?_) (fun i2 hi2 ei2 j2 hj2 ej2 hij2 h2 R9 fz fr2 m2 r9 hrr => ?_)
    · show WP Γ _ _ _ _ _ _ _
      exact TE _ _ h2 _ _ (by decide) (fin_q hA hs0 hM0 hP0 c10 hm B fr2 ⟨_, _, _, _, _, _, m2⟩) ⟨_, _, _, _, _, _, _, m2⟩
    · exact absurd (c1.symm.trans d1) (by decide)
    · have d1 : (inN (S (i0 + 1)) nb && inN (S (i0 + 2)) nb) = true := by rw [ei2, ej2, inN_of hi2 (by omega), inN_of hj2 (by omega)]; rfl
      have d2 : decide (¬ (S (i0 + 1)) = (S (i0 + 2))) = true := decide_eq_true hij2
      exact absurd (c1.symm.trans d1) (by decide)
  · refine Or.inr (Or.inr ⟨rfl, Or.inr ⟨rfl, ?_⟩⟩)
    show WP Γ _ _ _ _ _ _ _
    have B : Bet p m h h _ := Bet.n (p := p) ho hn1
    have c2 := decide_eq_false (p := ¬ (S (i0 + 1)) = (S (i0 + 2))) (fun q => q c2)
    refine MC _ _ _ _ (B.1 _ (by omega)) (B.1 _ (by omega)) ?_
    refine s_X10_swap (ModC.mv (B.1 _ (by omega)) mC) ((B.1 _ (by omega)).trans mR) hr0 hI0 (by omega) (by omega) (by omega) (fun d1 h2 fr2 m2 => ?_) (fun d1 d2 h2 fr2 m2 => ?_) (fun i2 hi2 ei2 j2 hj2 ej2 hij2 h2 R9 fz fr2 m2 r9 hrr => ?_)
    · exact absurd (c1.symm.trans d1) (by decide)
    · show WP Γ _ _ _ _ _ _ _
      exact TE _ _ h2 _ _ (by decide) (fin_q hA hs0 hM0 hP0 c10 hm B fr2 ⟨_, _, _, _, _, _, m2⟩) ⟨_, _, _, _, _, _, _, m2⟩
    · have d1 : (inN (S (i0 + 1)) nb && inN (S (i0 + 2)) nb) = true := by rw [ei2, ej2, inN_of hi2 (by omega), inN_of hj2 (by omega)]; rfl
      have d2 : decide (¬ (S (i0 + 1)) = (S (i0 + 2))) = true := decide_eq_true hij2
      exact absurd (c2.symm.trans d2) (by decide)
  · refine ⟨fo, ((fr1.2 _ (by omega)).trans o1), fun fo1 hv => ?_⟩
    show WP Γ _ _ _ _ _ _ _
    have B : Bet p m h h1 _ := Bet.o fo1 ho hm (fun c hc => fr1.2 c (by omega))
    have c1 : (inN (S (i0 + 1)) nb && inN (S (i0 + 2)) nb) = true := by rw [ei, ej, inN_of hi (by omega), inN_of hj (by omega)]; rfl
    have c2 : decide (¬ (S (i0 + 1)) = (S (i0 + 2))) = true := decide_eq_true (fun q => hij ((nI_eq9 (by omega) (by omega)).mp (ei.symm.trans (q.trans ej))))
    refine MC _ _ _ _ (B.1 _ (by omega)) (B.1 _ (by omega)) ?_
    refine s_X10_swap (ModC.mv (B.1 _ (by omega)) mC) ((B.1 _ (by omega)).trans mR) hr0 hI0 (by omega) (by omega) (by omega) (fun d1 h2 fr2 m2 => ?_) (fun d1 d2 h2 fr2 m2 => ?_) (fun i2 hi2 ei2 j2 hj2 ej2 hij2 h2 R9 fz fr2 m2 r9 hrr => ?_)
    · exact absurd (c1.symm.trans d1) (by decide)
    · exact absurd (c2.symm.trans d2) (by decide)
    · have d1 : (inN (S (i0 + 1)) nb && inN (S (i0 + 2)) nb) = true := by rw [ei2, ej2, inN_of hi2 (by omega), inN_of hj2 (by omega)]; rfl
      have d2 : decide (¬ (S (i0 + 1)) = (S (i0 + 2))) = true := decide_eq_true hij2
      show WP Γ _ _ _ _ _ _ _
      obtain rfl : i = i2 := (nI_eq9 (by omega) (by omega)).mp (ei.symm.trans ei2)
      obtain rfl : j = j2 := (nI_eq9 (by omega) (by omega)).mp (ej.symm.trans ej2)
      rw [show upd (upd pl i (pl j)) j (pl i) i = pl j from (if_neg hij).trans (if_pos rfl)] at hv
      exact TO _ _ h2 _ fo1 (fin_s (K' := mkK np qu ra re le ln nb (xchF pl i j) (xchF tm i j) ne rw bk nh hw nc cw t y) hA hs0 hM0 ⟨hlen, hI0.map (InvM.xch IM hi hj), hIS⟩ (c10.led fr1 ⟨_, hL1⟩) hm B fz (fun c a b _ _ => fr2 c a b) ⟨_, _, _, _, _, _, m2⟩ ⟨R9, r9, hrr⟩ ⟨RE, (fr2 _ (by omega) (by omega)).trans ((B.1 _ (by omega)).trans mE), hre0⟩ ⟨mpk, (fr2 _ (by omega) (by omega)).trans ((B.1 _ (by omega)).trans mP)⟩) ⟨_, _, _, _, _, _, _, m2⟩ ((fr2 _ (by omega) (by omega)).trans (ax_set_self _ _ _)) hv
theorem cs_corrupt (hA : Γ.2.1 ≤ p) (hs : ScrP Γ h sa N S) (ho : OutP h m) (c1 : ClsP h p m b D er bs len f (mkK np qu ra re le ln nb pl tm ne rw bk nh hw nc cw t y) KS) (hP : PurP len f (mkK np qu ra re le ln nb pl tm ne rw bk nh hw nc cw t y) KS) (hM : ModP h m er bs len f (mkK np qu ra re le ln nb pl tm ne rw bk nh hw nc cw t y) KS) (hi : i0 + 5 ≤ N) (k : ∀ h', Sim Γ h' p m sa N S → WP Γ ML_law (10, 196, c0, s0) 3329 [some (.ref sa), some (.ref p), some (.ref m), some (.ref (m + 12)), some (.ref (m + 13)), some (.int (nI i0)), none, none, none, none] [] h' Q) : WP Γ ML_law (10, 196, c0 + 20, s0 + 4409) 2962 [some (.ref sa), some (.ref p), some (.ref m), some (.ref (m + 12)), some (.ref (m + 13)), some (.int (nI i0)), none, none, none, none] [] h Q := by
  have hs0 := hs
  have c10 := c1
  have hP0 := hP
  have hM0 := hM
  obtain ⟨hsa, hsl, hN, hfree⟩ := hs
  obtain ⟨⟨fo, o1⟩, fd, o2⟩ := ho
  obtain ⟨hF, hT, hR3, hBat, hSna, ⟨pk, hL⟩, hX, hbD, hm, hz, hsn, hap⟩ := c1
  obtain ⟨hlen, hI, hIS⟩ := hP
  obtain ⟨⟨th, at', bg, e9, ea, cm, mC⟩, ⟨R, mR, hr⟩, ⟨R2, mR2⟩, ⟨R3, mR3⟩, ⟨RE, mE, hre⟩, ⟨RA, mRA⟩, ⟨mpk, mP⟩, ⟨B, mB, hB⟩, ⟨CM, mK⟩, CC, CE, SV, mCC, mCE, mSV, hsv, hsr⟩ := hM
  have hI0 : Inv np qu ra re le ln nb pl tm ne rw bk nh hw nc cw t y := hI
  have hr0 : RowR R np qu ra re le ln nb pl tm ne rw bk nh hw nc cw t y := hr
  have hL0 : LedP h b np qu ra re le ln nb pl tm ne rw bk nh hw nc cw t y pk := hL
  have hre0 : ∀ j, j < np → RE j = re j := hre
  obtain ⟨⟨s1, s2, s3, s4, s5, s6, s7, s8, tn, s9, s10⟩, IM, IP, IJ, IR, IC⟩ := hI0
  have hI0 : Inv np qu ra re le ln nb pl tm ne rw bk nh hw nc cw t y := hI
  have hF' := hF
  unfold FacC at hF'
  have ho : OutP h m := ⟨⟨fo, o1⟩, fd, o2⟩
  have TE : ∀ (X Y : Nat) (h2 : AH) (kk : Int32) (v9 : Int32), ¬ kk = 0 → Sim Γ h2 p m sa N S → (∃ tl at' bg e9 ea lr cm, ModC h2 m (m + 1) kk tl at' bg e9 ea lr cm) → WP Γ ML_law (10, 196, c0 + X, s0 + Y) 2997 [some (.ref sa), some (.ref p), some (.ref m), some (.ref (m + 12)), some (.ref (m + 13)), some (.int (nI i0)), some (.int kk), none, none, none] [.int v9] h2 Q := by
    intro X Y h2 kk v9 hk hsim hm2
    obtain ⟨tl2, at2, bg2, e2, ea2, lr2, cm2, m2⟩ := hm2
    have m20 := m2
    unfold ModC at m2
    refine wp_istore (n := 2999) dL_law_2997 rfl rfl rfl rfl ?_
    refine wp_aload_n (n := 3000) dL_law_2999 rfl rfl ?_
    refine wp_callVs (n := 3003) (rm' := (0, 0, 0, 0)) (c0 := c0) (s0 := s0) rfl dL_law_3000 rfl mlL_156 [] rfl rfl m2 rfl rfl rfl (Nat.le_of_ble_eq_true rfl) rfl ?_
    refine s_X10_thrown m20 ?_
    show WP Γ _ _ _ _ _ _ _
    refine wp_iload (n := 3005) dL_law_3003 rfl rfl ?_
    refine wp_icmp_eq (t := 3010) (n := 3008) dL_law_3005 (by decide) rfl (fun hc => ?_) (fun hc => ?_)
    · refine wp_iload (n := 3012) dL_law_3010 rfl rfl ?_
      refine wp_if_ne (t := 3027) (n := 3015) dL_law_3012 (by decide) rfl (fun hq => ?_) (fun hq => ?_)
      · refine wp_goto (t := 3329) dL_law_3027 (by decide) ?_
        refine wp_lo (lo' := [some (.ref sa), some (.ref p), some (.ref m), some (.ref (m + 12)), some (.ref (m + 13)), some (.int (nI i0)), none, none, none, none]) (fun k v hk => ?_) ?_
        · match k, hk with
          | 0, hk => exact hk
          | 1, hk => exact hk
          | 2, hk => exact hk
          | 3, hk => exact hk
          | 4, hk => exact hk
          | 5, hk => exact hk
          | 6, hk => exact absurd hk (by simp [ax_gl])
          | 7, hk => exact absurd hk (by simp [ax_gl])
          | 8, hk => exact absurd hk (by simp [ax_gl])
          | 9, hk => exact absurd hk (by simp [ax_gl])
          | k + 10, hk => exact absurd hk (by simp [ax_gl])
        exact wp_big (rm := (10, 196, c0, s0)) (Nat.le_refl _) (Nat.le_refl _) (Nat.le_add_right _ _) (Nat.le_add_right _ _) (k h2 hsim)
      · exact absurd hq hk
    · exact absurd rfl hc
  have TO : ∀ (X Y : Nat) (h2 : AH) (r : Int32) (fo2 : Nat → Int64), Sim Γ h2 p m sa N S → (∃ tl at' bg e9 ea lr cm, ModC h2 m (m + 1) 0 tl at' bg e9 ea lr cm) → h2.2 (m + 12) = some (.inl (.long, 1, .inr (.inl fo2))) → fo2 0 = r.toInt64 → WP Γ ML_law (10, 196, c0 + X, s0 + Y) 2997 [some (.ref sa), some (.ref p), some (.ref m), some (.ref (m + 12)), some (.ref (m + 13)), some (.int (nI i0)), some (.int 0), none, none, none] [.int r] h2 Q := by
    intro X Y h2 r fo2 hsim hm2 ho2 hv2
    obtain ⟨tl2, at2, bg2, e2, ea2, lr2, cm2, m2⟩ := hm2
    have m20 := m2
    unfold ModC at m2
    have fin : ∀ l7 : Option Value, WP Γ ML_law (10, 196, c0 + (X - 0), s0 + (Y - 0)) 3027 [some (.ref sa), some (.ref p), some (.ref m), some (.ref (m + 12)), some (.ref (m + 13)), some (.int (nI i0)), some (.int 0), l7, none, none] [] h2 Q := by
      intro l7
      refine wp_goto (t := 3329) dL_law_3027 (by decide) ?_
      refine wp_lo (lo' := [some (.ref sa), some (.ref p), some (.ref m), some (.ref (m + 12)), some (.ref (m + 13)), some (.int (nI i0)), none, none, none, none]) (fun k v hk => ?_) ?_
      · match k, hk with
        | 0, hk => exact hk
        | 1, hk => exact hk
        | 2, hk => exact hk
        | 3, hk => exact hk
        | 4, hk => exact hk
        | 5, hk => exact hk
        | 6, hk => exact absurd hk (by simp [ax_gl])
        | 7, hk => exact absurd hk (by simp [ax_gl])
        | 8, hk => exact absurd hk (by simp [ax_gl])
        | 9, hk => exact absurd hk (by simp [ax_gl])
        | k + 10, hk => exact absurd hk (by simp [ax_gl])
      exact wp_big (rm := (10, 196, c0, s0)) (Nat.le_refl _) (Nat.le_refl _) (Nat.le_add_right _ _) (Nat.le_add_right _ _) (k h2 hsim)
    refine wp_istore (n := 2999) dL_law_2997 rfl rfl rfl rfl ?_
    refine wp_aload_n (n := 3000) dL_law_2999 rfl rfl ?_
    refine wp_callVs (n := 3003) (rm' := (0, 0, 0, 0)) (c0 := c0) (s0 := s0) rfl dL_law_3000 rfl mlL_156 [] rfl rfl m2 rfl rfl rfl (Nat.le_of_ble_eq_true rfl) rfl ?_
    refine s_X10_thrown m20 ?_
    show WP Γ _ _ _ _ _ _ _
    refine wp_iload (n := 3005) dL_law_3003 rfl rfl ?_
    refine wp_icmp_eq (t := 3010) (n := 3008) dL_law_3005 (by decide) rfl (fun hc => ?_) (fun hc => ?_)
    · refine wp_iload (n := 3012) dL_law_3010 rfl rfl ?_
      refine wp_if_ne (t := 3027) (n := 3015) dL_law_3012 (by decide) rfl (fun hq => ?_) (fun hq => ?_)
      · exact absurd rfl hq
      · refine wp_aload_n (n := 3016) dL_law_3015 rfl rfl ?_
        refine wp_iconst (n := 3017) (v := 0) dL_law_3016 rfl (by decide) ?_
        refine wp_lald (n := 3018) 0 dL_law_3017 rfl ho2 rfl (by omega) (by omega) ?_
        rw [hv2]
        refine wp_iload (n := 3020) dL_law_3018 rfl rfl ?_
        refine wp_i2l (n := 3021) dL_law_3020 rfl ?_
        refine wp_lcmp (n := 3022) dL_law_3021 rfl ?_
        rw [lg_self]
        refine wp_if_eq (t := 3027) (n := 3025) dL_law_3022 (by decide) rfl (fun hu => ?_) (fun hu => ?_)
        · exact fin _
        · exact absurd rfl hu
    · exact absurd rfl hc
  have MC : ∀ (X Y : Nat) (h3 : AH) (kk : Int32), h3.2 m = h.2 m → h3.2 sa = h.2 sa → WP Γ MX10_corrupt (2, 43, 0, 0) 0 [some (.ref m), some (.int (S (i0 + 1))), some (.int (S (i0 + 2))), none] [] h3 (ax_K Γ ML_law (10, 196, c0 + (X - 0), s0 + (Y - 0)) 2997 [some (.ref sa), some (.ref p), some (.ref m), some (.ref (m + 12)), some (.ref (m + 13)), some (.int (nI i0)), some (.int kk), none, none, none] [] Q) → WP Γ ML_law (10, 196, c0 + X, s0 + Y) 2979 [some (.ref sa), some (.ref p), some (.ref m), some (.ref (m + 12)), some (.ref (m + 13)), some (.int (nI i0)), none, none, none, none] [.int kk] h3 Q := by
    intro X Y h3 kk e1 e2 kk3
    have mC3' := ModC.mv e1 mC
    unfold ModC at mC3'
    have hsa3 := e2.trans hsa
    refine wp_istore (n := 2981) dL_law_2979 rfl rfl rfl rfl ?_
    refine wp_aload_n (n := 2982) dL_law_2981 rfl rfl ?_
    refine wp_aload_n (n := 2983) dL_law_2982 rfl rfl ?_
    refine wp_iload (n := 2985) dL_law_2983 rfl rfl ?_
    refine wp_iconst (n := 2986) (v := nI 1) dL_law_2985 rfl (by decide) ?_
    refine wp_iadd (n := 2987) dL_law_2986 rfl ?_
    refine wp_iald (n := 2988) (i0 + 1) dL_law_2987 rfl (by repeat first | assumption | exact ax_set_self _ _ _ | exact ax_newA_self _ _ _ | refine (ax_set_ne _ _ (by omega)).trans ?_ | refine (ax_newA_ne _ _ _ (by omega)).trans ?_) (by simp only [nI_zero, nI_mul, nI_add]) (by omega) (by omega) ?_
    refine wp_aload_n (n := 2989) dL_law_2988 rfl rfl ?_
    refine wp_iload (n := 2991) dL_law_2989 rfl rfl ?_
    refine wp_iconst (n := 2992) (v := nI 2) dL_law_2991 rfl (by decide) ?_
    refine wp_iadd (n := 2993) dL_law_2992 rfl ?_
    refine wp_iald (n := 2994) (i0 + 2) dL_law_2993 rfl (by repeat first | assumption | exact ax_set_self _ _ _ | exact ax_newA_self _ _ _ | refine (ax_set_ne _ _ (by omega)).trans ?_ | refine (ax_newA_ne _ _ _ (by omega)).trans ?_) (by simp only [nI_zero, nI_mul, nI_add]) (by omega) (by omega) ?_
    refine wp_callVs (n := 2997) (rm' := (2, 43, 0, 0)) (c0 := c0) (s0 := s0) rfl dL_law_2994 rfl mlL_320 [.int (S (i0 + 1)), .int (S (i0 + 2))] rfl rfl mC3' rfl rfl rfl (Nat.le_of_ble_eq_true rfl) rfl ?_
    exact kk3
  refine wp_aload_n (n := 2963) dL_law_2962 rfl rfl ?_
  refine wp_aload_n (n := 2964) dL_law_2963 rfl rfl ?_
  refine wp_iload (n := 2966) dL_law_2964 rfl rfl ?_
  refine wp_iconst (n := 2967) (v := nI 1) dL_law_2966 rfl (by decide) ?_
  refine wp_iadd (n := 2968) dL_law_2967 rfl ?_
  refine wp_iald (n := 2969) (i0 + 1) dL_law_2968 rfl (by repeat first | assumption | exact ax_set_self _ _ _ | exact ax_newA_self _ _ _ | refine (ax_set_ne _ _ (by omega)).trans ?_ | refine (ax_newA_ne _ _ _ (by omega)).trans ?_) (by simp only [nI_zero, nI_mul, nI_add]) (by omega) (by omega) ?_
  refine wp_aload_n (n := 2970) dL_law_2969 rfl rfl ?_
  refine wp_iload (n := 2972) dL_law_2970 rfl rfl ?_
  refine wp_iconst (n := 2973) (v := nI 2) dL_law_2972 rfl (by decide) ?_
  refine wp_iadd (n := 2974) dL_law_2973 rfl ?_
  refine wp_iald (n := 2975) (i0 + 2) dL_law_2974 rfl (by repeat first | assumption | exact ax_set_self _ _ _ | exact ax_newA_self _ _ _ | refine (ax_set_ne _ _ (by omega)).trans ?_ | refine (ax_newA_ne _ _ _ (by omega)).trans ?_) (by simp only [nI_zero, nI_mul, nI_add]) (by omega) (by omega) ?_
  refine wp_aload_n (n := 2976) dL_law_2975 rfl rfl ?_
  refine wp_callSH (n := 2979) (rm' := (8, 139, 2, 12)) (c0 := c0) (s0 := s0) (C := 20) (S := 4409) rfl dL_law_2976 rfl mwL_318 [.ref p, .int (S (i0 + 1)), .int (S (i0 + 2)), .ref (m + 12)] rfl rfl rfl rfl (Nat.le_of_ble_eq_true rfl) rfl ?_
  refine s_L_corrupt hF' (by omega) ?_
  refine s_X9_corrupt hF hL0 (by omega) (by omega) (by omega) (fun c1 n1 hn1 => ?_) (fun i j hi hj ei ej h1 fr1 hL1 => ?_)
  · refine Or.inr (Or.inl ⟨rfl, rfl, ?_⟩)
    show WP Γ _ _ _ _ _ _ _
    have B : Bet p m h h _ := Bet.n (p := p) ho hn1
    refine MC _ _ _ _ (B.1 _ (by omega)) (B.1 _ (by omega)) ?_
    refine s_X10_corrupt (ModC.mv (B.1 _ (by omega)) mC) ((B.1 _ (by omega)).trans mR) hr0 hI0 (by omega) (by omega) (by omega) (fun d1 h2 fr2 m2 => ?_) (fun i2 hi2 ei2 j2 hj2 ej2 h2 R9 fz fr2 m2 r9 hrr => ?_)
    · show WP Γ _ _ _ _ _ _ _
      exact TE _ _ h2 _ _ (by decide) (fin_q hA hs0 hM0 hP0 c10 hm B fr2 ⟨_, _, _, _, _, _, m2⟩) ⟨_, _, _, _, _, _, _, m2⟩
    · have d1 : (inN (S (i0 + 1)) nb && inN (S (i0 + 2)) np) = true := by rw [ei2, ej2, inN_of hi2 (by omega), inN_of hj2 (by omega)]; rfl
      exact absurd (c1.symm.trans d1) (by decide)
  · refine ⟨fo, ((fr1.2 _ (by omega)).trans o1), fun fo1 hv => ?_⟩
    show WP Γ _ _ _ _ _ _ _
    have B : Bet p m h h1 _ := Bet.o fo1 ho hm (fun c hc => fr1.2 c (by omega))
    have c1 : (inN (S (i0 + 1)) nb && inN (S (i0 + 2)) np) = true := by rw [ei, ej, inN_of hi (by omega), inN_of hj (by omega)]; rfl
    refine MC _ _ _ _ (B.1 _ (by omega)) (B.1 _ (by omega)) ?_
    refine s_X10_corrupt (ModC.mv (B.1 _ (by omega)) mC) ((B.1 _ (by omega)).trans mR) hr0 hI0 (by omega) (by omega) (by omega) (fun d1 h2 fr2 m2 => ?_) (fun i2 hi2 ei2 j2 hj2 ej2 h2 R9 fz fr2 m2 r9 hrr => ?_)
    · exact absurd (c1.symm.trans d1) (by decide)
    · have d1 : (inN (S (i0 + 1)) nb && inN (S (i0 + 2)) np) = true := by rw [ei2, ej2, inN_of hi2 (by omega), inN_of hj2 (by omega)]; rfl
      show WP Γ _ _ _ _ _ _ _
      obtain rfl : i = i2 := (nI_eq9 (by omega) (by omega)).mp (ei.symm.trans ei2)
      obtain rfl : j = j2 := (nI_eq9 (by omega) (by omega)).mp (ej.symm.trans ej2)
      exact TO _ _ h2 _ fo1 (fin_s (K' := mkK np qu ra re le ln nb (upd pl i (nI j)) (upd tm i t) ne rw bk nh hw nc cw t y) hA hs0 hM0 ⟨hlen, hI0.map (InvM.cor IM hj hI0.1.t0), hIS⟩ (c10.led fr1 ⟨_, hL1⟩) hm B fz (fun c a b _ _ => fr2 c a b) ⟨_, _, _, _, _, _, m2⟩ ⟨R9, r9, hrr⟩ ⟨RE, (fr2 _ (by omega) (by omega)).trans ((B.1 _ (by omega)).trans mE), hre0⟩ ⟨mpk, (fr2 _ (by omega) (by omega)).trans ((B.1 _ (by omega)).trans mP)⟩) ⟨_, _, _, _, _, _, _, m2⟩ ((fr2 _ (by omega) (by omega)).trans (ax_set_self _ _ _)) hv
theorem cs_advance (hA : Γ.2.1 ≤ p) (hs : ScrP Γ h sa N S) (ho : OutP h m) (c1 : ClsP h p m b D er bs len f (mkK np qu ra re le ln nb pl tm ne rw bk nh hw nc cw t y) KS) (hP : PurP len f (mkK np qu ra re le ln nb pl tm ne rw bk nh hw nc cw t y) KS) (hM : ModP h m er bs len f (mkK np qu ra re le ln nb pl tm ne rw bk nh hw nc cw t y) KS) (hi : i0 + 5 ≤ N) (k : ∀ h', Sim Γ h' p m sa N S → WP Γ ML_law (10, 196, c0, s0) 3329 [some (.ref sa), some (.ref p), some (.ref m), some (.ref (m + 12)), some (.ref (m + 13)), some (.int (nI i0)), none, none, none, none] [] h' Q) : WP Γ ML_law (10, 196, c0 + 20, s0 + 4409) 486 [some (.ref sa), some (.ref p), some (.ref m), some (.ref (m + 12)), some (.ref (m + 13)), some (.int (nI i0)), none, none, none, none] [] h Q := by
  have hs0 := hs
  have c10 := c1
  have hP0 := hP
  have hM0 := hM
  obtain ⟨hsa, hsl, hN, hfree⟩ := hs
  obtain ⟨⟨fo, o1⟩, fd, o2⟩ := ho
  obtain ⟨hF, hT, hR3, hBat, hSna, ⟨pk, hL⟩, hX, hbD, hm, hz, hsn, hap⟩ := c1
  obtain ⟨hlen, hI, hIS⟩ := hP
  obtain ⟨⟨th, at', bg, e9, ea, cm, mC⟩, ⟨R, mR, hr⟩, ⟨R2, mR2⟩, ⟨R3, mR3⟩, ⟨RE, mE, hre⟩, ⟨RA, mRA⟩, ⟨mpk, mP⟩, ⟨B, mB, hB⟩, ⟨CM, mK⟩, CC, CE, SV, mCC, mCE, mSV, hsv, hsr⟩ := hM
  have hI0 : Inv np qu ra re le ln nb pl tm ne rw bk nh hw nc cw t y := hI
  have hr0 : RowR R np qu ra re le ln nb pl tm ne rw bk nh hw nc cw t y := hr
  have hL0 : LedP h b np qu ra re le ln nb pl tm ne rw bk nh hw nc cw t y pk := hL
  have hre0 : ∀ j, j < np → RE j = re j := hre
  obtain ⟨⟨s1, s2, s3, s4, s5, s6, s7, s8, tn, s9, s10⟩, IM, IP, IJ, IR, IC⟩ := hI0
  have hI0 : Inv np qu ra re le ln nb pl tm ne rw bk nh hw nc cw t y := hI
  have hF' := hF
  unfold FacC at hF'
  have ho : OutP h m := ⟨⟨fo, o1⟩, fd, o2⟩
  have TE : ∀ (X Y : Nat) (h2 : AH) (kk : Int32) (v9 : Int32), ¬ kk = 0 → Sim Γ h2 p m sa N S → (∃ tl at' bg e9 ea lr cm, ModC h2 m (m + 1) kk tl at' bg e9 ea lr cm) → WP Γ ML_law (10, 196, c0 + X, s0 + Y) 509 [some (.ref sa), some (.ref p), some (.ref m), some (.ref (m + 12)), some (.ref (m + 13)), some (.int (nI i0)), some (.int kk), none, none, none] [.int v9] h2 Q := by
    intro X Y h2 kk v9 hk hsim hm2
    obtain ⟨tl2, at2, bg2, e2, ea2, lr2, cm2, m2⟩ := hm2
    have m20 := m2
    unfold ModC at m2
    refine wp_istore (n := 511) dL_law_509 rfl rfl rfl rfl ?_
    refine wp_aload_n (n := 512) dL_law_511 rfl rfl ?_
    refine wp_callVs (n := 515) (rm' := (0, 0, 0, 0)) (c0 := c0) (s0 := s0) rfl dL_law_512 rfl mlL_156 [] rfl rfl m2 rfl rfl rfl (Nat.le_of_ble_eq_true rfl) rfl ?_
    refine s_X10_thrown m20 ?_
    show WP Γ _ _ _ _ _ _ _
    refine wp_iload (n := 517) dL_law_515 rfl rfl ?_
    refine wp_icmp_eq (t := 522) (n := 520) dL_law_517 (by decide) rfl (fun hc => ?_) (fun hc => ?_)
    · refine wp_iload (n := 524) dL_law_522 rfl rfl ?_
      refine wp_if_ne (t := 539) (n := 527) dL_law_524 (by decide) rfl (fun hq => ?_) (fun hq => ?_)
      · refine wp_goto (t := 3329) dL_law_539 (by decide) ?_
        refine wp_lo (lo' := [some (.ref sa), some (.ref p), some (.ref m), some (.ref (m + 12)), some (.ref (m + 13)), some (.int (nI i0)), none, none, none, none]) (fun k v hk => ?_) ?_
        · match k, hk with
          | 0, hk => exact hk
          | 1, hk => exact hk
          | 2, hk => exact hk
          | 3, hk => exact hk
          | 4, hk => exact hk
          | 5, hk => exact hk
          | 6, hk => exact absurd hk (by simp [ax_gl])
          | 7, hk => exact absurd hk (by simp [ax_gl])
          | 8, hk => exact absurd hk (by simp [ax_gl])
          | 9, hk => exact absurd hk (by simp [ax_gl])
          | k + 10, hk => exact absurd hk (by simp [ax_gl])
        exact wp_big (rm := (10, 196, c0, s0)) (Nat.le_refl _) (Nat.le_refl _) (Nat.le_add_right _ _) (Nat.le_add_right _ _) (k h2 hsim)
      · exact absurd hq hk
    · exact absurd rfl hc
  have TO : ∀ (X Y : Nat) (h2 : AH) (r : Int32) (fo2 : Nat → Int64), Sim Γ h2 p m sa N S → (∃ tl at' bg e9 ea lr cm, ModC h2 m (m + 1) 0 tl at' bg e9 ea lr cm) → h2.2 (m + 12) = some (.inl (.long, 1, .inr (.inl fo2))) → fo2 0 = r.toInt64 → WP Γ ML_law (10, 196, c0 + X, s0 + Y) 509 [some (.ref sa), some (.ref p), some (.ref m), some (.ref (m + 12)), some (.ref (m + 13)), some (.int (nI i0)), some (.int 0), none, none, none] [.int r] h2 Q := by
    intro X Y h2 r fo2 hsim hm2 ho2 hv2
    obtain ⟨tl2, at2, bg2, e2, ea2, lr2, cm2, m2⟩ := hm2
    have m20 := m2
    unfold ModC at m2
    have fin : ∀ l7 : Option Value, WP Γ ML_law (10, 196, c0 + (X - 0), s0 + (Y - 0)) 539 [some (.ref sa), some (.ref p), some (.ref m), some (.ref (m + 12)), some (.ref (m + 13)), some (.int (nI i0)), some (.int 0), l7, none, none] [] h2 Q := by
      intro l7
      refine wp_goto (t := 3329) dL_law_539 (by decide) ?_
      refine wp_lo (lo' := [some (.ref sa), some (.ref p), some (.ref m), some (.ref (m + 12)), some (.ref (m + 13)), some (.int (nI i0)), none, none, none, none]) (fun k v hk => ?_) ?_
      · match k, hk with
        | 0, hk => exact hk
        | 1, hk => exact hk
        | 2, hk => exact hk
        | 3, hk => exact hk
        | 4, hk => exact hk
        | 5, hk => exact hk
        | 6, hk => exact absurd hk (by simp [ax_gl])
        | 7, hk => exact absurd hk (by simp [ax_gl])
        | 8, hk => exact absurd hk (by simp [ax_gl])
        | 9, hk => exact absurd hk (by simp [ax_gl])
        | k + 10, hk => exact absurd hk (by simp [ax_gl])
      exact wp_big (rm := (10, 196, c0, s0)) (Nat.le_refl _) (Nat.le_refl _) (Nat.le_add_right _ _) (Nat.le_add_right _ _) (k h2 hsim)
    refine wp_istore (n := 511) dL_law_509 rfl rfl rfl rfl ?_
    refine wp_aload_n (n := 512) dL_law_511 rfl rfl ?_
    refine wp_callVs (n := 515) (rm' := (0, 0, 0, 0)) (c0 := c0) (s0 := s0) rfl dL_law_512 rfl mlL_156 [] rfl rfl m2 rfl rfl rfl (Nat.le_of_ble_eq_true rfl) rfl ?_
    refine s_X10_thrown m20 ?_
    show WP Γ _ _ _ _ _ _ _
    refine wp_iload (n := 517) dL_law_515 rfl rfl ?_
    refine wp_icmp_eq (t := 522) (n := 520) dL_law_517 (by decide) rfl (fun hc => ?_) (fun hc => ?_)
    · refine wp_iload (n := 524) dL_law_522 rfl rfl ?_
      refine wp_if_ne (t := 539) (n := 527) dL_law_524 (by decide) rfl (fun hq => ?_) (fun hq => ?_)
      · exact absurd rfl hq
      · refine wp_aload_n (n := 528) dL_law_527 rfl rfl ?_
        refine wp_iconst (n := 529) (v := 0) dL_law_528 rfl (by decide) ?_
        refine wp_lald (n := 530) 0 dL_law_529 rfl ho2 rfl (by omega) (by omega) ?_
        rw [hv2]
        refine wp_iload (n := 532) dL_law_530 rfl rfl ?_
        refine wp_i2l (n := 533) dL_law_532 rfl ?_
        refine wp_lcmp (n := 534) dL_law_533 rfl ?_
        rw [lg_self]
        refine wp_if_eq (t := 539) (n := 537) dL_law_534 (by decide) rfl (fun hu => ?_) (fun hu => ?_)
        · exact fin _
        · exact absurd rfl hu
    · exact absurd rfl hc
  have MC : ∀ (X Y : Nat) (h3 : AH) (kk : Int32), h3.2 m = h.2 m → h3.2 sa = h.2 sa → WP Γ MX10_advance (3, 68, 0, 0) 0 [some (.ref m), some (.int (S (i0 + 1)))] [] h3 (ax_K Γ ML_law (10, 196, c0 + (X - 0), s0 + (Y - 0)) 509 [some (.ref sa), some (.ref p), some (.ref m), some (.ref (m + 12)), some (.ref (m + 13)), some (.int (nI i0)), some (.int kk), none, none, none] [] Q) → WP Γ ML_law (10, 196, c0 + X, s0 + Y) 497 [some (.ref sa), some (.ref p), some (.ref m), some (.ref (m + 12)), some (.ref (m + 13)), some (.int (nI i0)), none, none, none, none] [.int kk] h3 Q := by
    intro X Y h3 kk e1 e2 kk3
    have mC3' := ModC.mv e1 mC
    unfold ModC at mC3'
    have hsa3 := e2.trans hsa
    refine wp_istore (n := 499) dL_law_497 rfl rfl rfl rfl ?_
    refine wp_aload_n (n := 500) dL_law_499 rfl rfl ?_
    refine wp_aload_n (n := 501) dL_law_500 rfl rfl ?_
    refine wp_iload (n := 503) dL_law_501 rfl rfl ?_
    refine wp_iconst (n := 504) (v := nI 1) dL_law_503 rfl (by decide) ?_
    refine wp_iadd (n := 505) dL_law_504 rfl ?_
    refine wp_iald (n := 506) (i0 + 1) dL_law_505 rfl (by repeat first | assumption | exact ax_set_self _ _ _ | exact ax_newA_self _ _ _ | refine (ax_set_ne _ _ (by omega)).trans ?_ | refine (ax_newA_ne _ _ _ (by omega)).trans ?_) (by simp only [nI_zero, nI_mul, nI_add]) (by omega) (by omega) ?_
    refine wp_callVs (n := 509) (rm' := (3, 68, 0, 0)) (c0 := c0) (s0 := s0) rfl dL_law_506 rfl mlL_190 [.int (S (i0 + 1))] rfl rfl mC3' rfl rfl rfl (Nat.le_of_ble_eq_true rfl) rfl ?_
    exact kk3
  refine wp_aload_n (n := 487) dL_law_486 rfl rfl ?_
  refine wp_aload_n (n := 488) dL_law_487 rfl rfl ?_
  refine wp_iload (n := 490) dL_law_488 rfl rfl ?_
  refine wp_iconst (n := 491) (v := nI 1) dL_law_490 rfl (by decide) ?_
  refine wp_iadd (n := 492) dL_law_491 rfl ?_
  refine wp_iald (n := 493) (i0 + 1) dL_law_492 rfl (by repeat first | assumption | exact ax_set_self _ _ _ | exact ax_newA_self _ _ _ | refine (ax_set_ne _ _ (by omega)).trans ?_ | refine (ax_newA_ne _ _ _ (by omega)).trans ?_) (by simp only [nI_zero, nI_mul, nI_add]) (by omega) (by omega) ?_
  refine wp_aload_n (n := 494) dL_law_493 rfl rfl ?_
  refine wp_callSH (n := 497) (rm' := (8, 136, 1, 6)) (c0 := c0) (s0 := s0) (C := 20) (S := 4409) rfl dL_law_494 rfl mwL_188 [.ref p, .int (S (i0 + 1)), .ref (m + 12)] rfl rfl rfl rfl (Nat.le_of_ble_eq_true rfl) rfl ?_
  refine s_L_advance hF' (by omega) ?_
  refine s_X9_advance hF hL0 (by omega) (by omega) (by omega) (by omega) (by omega) s10 (by omega) (fun j hj => (IP j hj).1) (fun j hj => by obtain ⟨r, a, b⟩ := (IP j hj).2.1; exact ⟨r, b, a⟩) (fun c1 n1 hn1 => ?_) (fun u hu0 hu1 eu htn => ?_) (fun u hu0 hu1 eu htn h1 re1 hw1 fr1 hre1 hpf hhw hL1 => ?_)
  · refine Or.inl ⟨rfl, rfl, ?_⟩
    show WP Γ _ _ _ _ _ _ _
    have B : Bet p m h h _ := Bet.n (p := p) ho hn1
    refine MC _ _ _ _ (B.1 _ (by omega)) (B.1 _ (by omega)) ?_
    refine s_X10_advanceB (ModC.mv (B.1 _ (by omega)) mC) ((B.1 _ (by omega)).trans mR) hr0 hI0 (by omega) (by omega) (by omega) (by omega) ((B.1 _ (by omega)).trans mE) hre0 (fun d1 h2 fr2 m2 => ?_) (fun tn2 u2 hu02 hu12 eu2 et2 ht92 htn2 h2 fr2 m2 => ?_) (fun tn2 u2 hu02 hu12 eu2 et2 htn2 h2 R9 RE9 fz fr2 m2 r9 rE9 hRE hK => ?_)
    · show WP Γ _ _ _ _ _ _ _
      exact TE _ _ h2 _ _ (by decide) (fin_q hA hs0 hM0 hP0 c10 hm B fr2 ⟨_, _, _, _, _, _, m2⟩) ⟨_, _, _, _, _, _, _, m2⟩
    · have d1 : inI (S (i0 + 1)) 1 1000 = true := by rw [eu2]; exact inI_of hu02 hu12 (by decide)
      exact absurd (c1.symm.trans d1) (by decide)
    · have d1 : inI (S (i0 + 1)) 1 1000 = true := by rw [eu2]; exact inI_of hu02 hu12 (by decide)
      exact absurd (c1.symm.trans d1) (by decide)
  · refine ⟨fo, o1, fun fo1 hv => ?_⟩
    show WP Γ _ _ _ _ _ _ _
    have B : Bet p m h h _ := Bet.o fo1 ho hm (fun _ _ => rfl)
    have c1 : inI (S (i0 + 1)) 1 1000 = true := by rw [eu]; exact inI_of hu0 hu1 (by decide)
    refine MC _ _ _ _ (B.1 _ (by omega)) (B.1 _ (by omega)) ?_
    refine s_X10_advanceB (ModC.mv (B.1 _ (by omega)) mC) ((B.1 _ (by omega)).trans mR) hr0 hI0 (by omega) (by omega) (by omega) (by omega) ((B.1 _ (by omega)).trans mE) hre0 (fun d1 h2 fr2 m2 => ?_) (fun tn2 u2 hu02 hu12 eu2 et2 ht92 htn2 h2 fr2 m2 => ?_) (fun tn2 u2 hu02 hu12 eu2 et2 htn2 h2 R9 RE9 fz fr2 m2 r9 rE9 hRE hK => ?_)
    · exact absurd (c1.symm.trans d1) (by decide)
    · have d1 : inI (S (i0 + 1)) 1 1000 = true := by rw [eu2]; exact inI_of hu02 hu12 (by decide)
      show WP Γ _ _ _ _ _ _ _
      exact TO _ _ h2 _ fo1 (fin_q hA hs0 hM0 hP0 c10 hm B fr2 ⟨_, _, _, _, _, _, m2⟩) ⟨_, _, _, _, _, _, _, m2⟩ ((fr2.2 _ (by omega)).trans (ax_set_self _ _ _)) hv
    · have d1 : inI (S (i0 + 1)) 1 1000 = true := by rw [eu2]; exact inI_of hu02 hu12 (by decide)
      obtain rfl : u = u2 := (nI_eq9 (by omega) (by omega)).mp (eu.symm.trans eu2)
      obtain rfl : tn = tn2 := (nI_eq9 (by omega) (by omega)).mp (s10.symm.trans et2)
      omega
  · refine ⟨fo, ((fr1.2 _ (by omega)).trans o1), fun fo1 hv => ?_⟩
    show WP Γ _ _ _ _ _ _ _
    have B : Bet p m h h1 _ := Bet.o fo1 ho hm (fun c hc => fr1.2 c (by omega))
    have c1 : inI (S (i0 + 1)) 1 1000 = true := by rw [eu]; exact inI_of hu0 hu1 (by decide)
    refine MC _ _ _ _ (B.1 _ (by omega)) (B.1 _ (by omega)) ?_
    refine s_X10_advanceB (ModC.mv (B.1 _ (by omega)) mC) ((B.1 _ (by omega)).trans mR) hr0 hI0 (by omega) (by omega) (by omega) (by omega) ((B.1 _ (by omega)).trans mE) hre0 (fun d1 h2 fr2 m2 => ?_) (fun tn2 u2 hu02 hu12 eu2 et2 ht92 htn2 h2 fr2 m2 => ?_) (fun tn2 u2 hu02 hu12 eu2 et2 htn2 h2 R9 RE9 fz fr2 m2 r9 rE9 hRE hK => ?_)
    · exact absurd (c1.symm.trans d1) (by decide)
    · have d1 : inI (S (i0 + 1)) 1 1000 = true := by rw [eu2]; exact inI_of hu02 hu12 (by decide)
      obtain rfl : u = u2 := (nI_eq9 (by omega) (by omega)).mp (eu.symm.trans eu2)
      obtain rfl : tn = tn2 := (nI_eq9 (by omega) (by omega)).mp (s10.symm.trans et2)
      omega
    · have d1 : inI (S (i0 + 1)) 1 1000 = true := by rw [eu2]; exact inI_of hu02 hu12 (by decide)
      show WP Γ _ _ _ _ _ _ _
      obtain rfl : u = u2 := (nI_eq9 (by omega) (by omega)).mp (eu.symm.trans eu2)
      obtain rfl : tn = tn2 := (nI_eq9 (by omega) (by omega)).mp (s10.symm.trans et2)
      exact TO _ _ h2 _ fo1 (fin_s (K' := mkK np qu ra re1 le ln nb pl tm ne rw bk nh hw1 nc cw (nI (tn + u)) y) hA hs0 hM0 ⟨hlen, hI0.pas (m := u) ⟨tn, s10, htn, re1, hw1, hre1, hpf, hhw, rfl⟩, hIS⟩ (c10.led fr1 ⟨_, hL1⟩) hm B fz (fun c a b d _ => fr2 c a b d) ⟨_, _, _, _, _, _, m2⟩ ⟨R9, r9, hK hw1 hhw⟩ ⟨RE9, rE9, fun j hj => (hRE j hj).trans (((hre1 j).trans (if_pos hj)).symm)⟩ ⟨mpk, (fr2 _ (by omega) (by omega) (by omega)).trans ((B.1 _ (by omega)).trans mP)⟩) ⟨_, _, _, _, _, _, _, m2⟩ ((fr2 _ (by omega) (by omega) (by omega)).trans (ax_set_self _ _ _)) hv
theorem cs_appendByte (hA : Γ.2.1 ≤ p) (hs : ScrP Γ h sa N S) (ho : OutP h m) (c1 : ClsP h p m b D er bs len f (mkK np qu ra re le ln nb pl tm ne rw bk nh hw nc cw t y) KS) (hP : PurP len f (mkK np qu ra re le ln nb pl tm ne rw bk nh hw nc cw t y) KS) (hM : ModP h m er bs len f (mkK np qu ra re le ln nb pl tm ne rw bk nh hw nc cw t y) KS) (hi : i0 + 5 ≤ N) (k : ∀ h', Sim Γ h' p m sa N S → WP Γ ML_law (10, 196, c0, s0) 3329 [some (.ref sa), some (.ref p), some (.ref m), some (.ref (m + 12)), some (.ref (m + 13)), some (.int (nI i0)), none, none, none, none] [] h' Q) : WP Γ ML_law (10, 196, c0 + 20, s0 + 4409) 284 [some (.ref sa), some (.ref p), some (.ref m), some (.ref (m + 12)), some (.ref (m + 13)), some (.int (nI i0)), none, none, none, none] [] h Q := by
  have hs0 := hs
  have c10 := c1
  have hP0 := hP
  have hM0 := hM
  obtain ⟨hsa, hsl, hN, hfree⟩ := hs
  obtain ⟨⟨fo, o1⟩, fd, o2⟩ := ho
  obtain ⟨hF, hT, hR3, hBat, hSna, ⟨pk, hL⟩, hX, hbD, hm, hz, hsn, hap⟩ := c1
  obtain ⟨hlen, hI, hIS⟩ := hP
  obtain ⟨⟨th, at', bg, e9, ea, cm, mC⟩, ⟨R, mR, hr⟩, ⟨R2, mR2⟩, ⟨R3, mR3⟩, ⟨RE, mE, hre⟩, ⟨RA, mRA⟩, ⟨mpk, mP⟩, ⟨B, mB, hB⟩, ⟨CM, mK⟩, CC, CE, SV, mCC, mCE, mSV, hsv, hsr⟩ := hM
  have hI0 : Inv np qu ra re le ln nb pl tm ne rw bk nh hw nc cw t y := hI
  have hr0 : RowR R np qu ra re le ln nb pl tm ne rw bk nh hw nc cw t y := hr
  have hL0 : LedP h b np qu ra re le ln nb pl tm ne rw bk nh hw nc cw t y pk := hL
  have hre0 : ∀ j, j < np → RE j = re j := hre
  obtain ⟨⟨s1, s2, s3, s4, s5, s6, s7, s8, tn, s9, s10⟩, IM, IP, IJ, IR, IC⟩ := hI0
  have hI0 : Inv np qu ra re le ln nb pl tm ne rw bk nh hw nc cw t y := hI
  have hF' := hF
  unfold FacC at hF'
  have ho : OutP h m := ⟨⟨fo, o1⟩, fd, o2⟩
  have TE : ∀ (X Y : Nat) (h2 : AH) (kk : Int32) (v9 : Int32), ¬ kk = 0 → Sim Γ h2 p m sa N S → (∃ tl at' bg e9 ea lr cm, ModC h2 m (m + 1) kk tl at' bg e9 ea lr cm) → WP Γ ML_law (10, 196, c0 + X, s0 + Y) 307 [some (.ref sa), some (.ref p), some (.ref m), some (.ref (m + 12)), some (.ref (m + 13)), some (.int (nI i0)), some (.int kk), none, none, none] [.int v9] h2 Q := by
    intro X Y h2 kk v9 hk hsim hm2
    obtain ⟨tl2, at2, bg2, e2, ea2, lr2, cm2, m2⟩ := hm2
    have m20 := m2
    unfold ModC at m2
    refine wp_istore (n := 309) dL_law_307 rfl rfl rfl rfl ?_
    refine wp_aload_n (n := 310) dL_law_309 rfl rfl ?_
    refine wp_callVs (n := 313) (rm' := (0, 0, 0, 0)) (c0 := c0) (s0 := s0) rfl dL_law_310 rfl mlL_156 [] rfl rfl m2 rfl rfl rfl (Nat.le_of_ble_eq_true rfl) rfl ?_
    refine s_X10_thrown m20 ?_
    show WP Γ _ _ _ _ _ _ _
    refine wp_iload (n := 315) dL_law_313 rfl rfl ?_
    refine wp_icmp_eq (t := 320) (n := 318) dL_law_315 (by decide) rfl (fun hc => ?_) (fun hc => ?_)
    · refine wp_iload (n := 322) dL_law_320 rfl rfl ?_
      refine wp_if_ne (t := 337) (n := 325) dL_law_322 (by decide) rfl (fun hq => ?_) (fun hq => ?_)
      · refine wp_goto (t := 3329) dL_law_337 (by decide) ?_
        refine wp_lo (lo' := [some (.ref sa), some (.ref p), some (.ref m), some (.ref (m + 12)), some (.ref (m + 13)), some (.int (nI i0)), none, none, none, none]) (fun k v hk => ?_) ?_
        · match k, hk with
          | 0, hk => exact hk
          | 1, hk => exact hk
          | 2, hk => exact hk
          | 3, hk => exact hk
          | 4, hk => exact hk
          | 5, hk => exact hk
          | 6, hk => exact absurd hk (by simp [ax_gl])
          | 7, hk => exact absurd hk (by simp [ax_gl])
          | 8, hk => exact absurd hk (by simp [ax_gl])
          | 9, hk => exact absurd hk (by simp [ax_gl])
          | k + 10, hk => exact absurd hk (by simp [ax_gl])
        exact wp_big (rm := (10, 196, c0, s0)) (Nat.le_refl _) (Nat.le_refl _) (Nat.le_add_right _ _) (Nat.le_add_right _ _) (k h2 hsim)
      · exact absurd hq hk
    · exact absurd rfl hc
  have TO : ∀ (X Y : Nat) (h2 : AH) (r : Int32) (fo2 : Nat → Int64), Sim Γ h2 p m sa N S → (∃ tl at' bg e9 ea lr cm, ModC h2 m (m + 1) 0 tl at' bg e9 ea lr cm) → h2.2 (m + 12) = some (.inl (.long, 1, .inr (.inl fo2))) → fo2 0 = r.toInt64 → WP Γ ML_law (10, 196, c0 + X, s0 + Y) 307 [some (.ref sa), some (.ref p), some (.ref m), some (.ref (m + 12)), some (.ref (m + 13)), some (.int (nI i0)), some (.int 0), none, none, none] [.int r] h2 Q := by
    intro X Y h2 r fo2 hsim hm2 ho2 hv2
    obtain ⟨tl2, at2, bg2, e2, ea2, lr2, cm2, m2⟩ := hm2
    have m20 := m2
    unfold ModC at m2
    have fin : ∀ l7 : Option Value, WP Γ ML_law (10, 196, c0 + (X - 0), s0 + (Y - 0)) 337 [some (.ref sa), some (.ref p), some (.ref m), some (.ref (m + 12)), some (.ref (m + 13)), some (.int (nI i0)), some (.int 0), l7, none, none] [] h2 Q := by
      intro l7
      refine wp_goto (t := 3329) dL_law_337 (by decide) ?_
      refine wp_lo (lo' := [some (.ref sa), some (.ref p), some (.ref m), some (.ref (m + 12)), some (.ref (m + 13)), some (.int (nI i0)), none, none, none, none]) (fun k v hk => ?_) ?_
      · match k, hk with
        | 0, hk => exact hk
        | 1, hk => exact hk
        | 2, hk => exact hk
        | 3, hk => exact hk
        | 4, hk => exact hk
        | 5, hk => exact hk
        | 6, hk => exact absurd hk (by simp [ax_gl])
        | 7, hk => exact absurd hk (by simp [ax_gl])
        | 8, hk => exact absurd hk (by simp [ax_gl])
        | 9, hk => exact absurd hk (by simp [ax_gl])
        | k + 10, hk => exact absurd hk (by simp [ax_gl])
      exact wp_big (rm := (10, 196, c0, s0)) (Nat.le_refl _) (Nat.le_refl _) (Nat.le_add_right _ _) (Nat.le_add_right _ _) (k h2 hsim)
    refine wp_istore (n := 309) dL_law_307 rfl rfl rfl rfl ?_
    refine wp_aload_n (n := 310) dL_law_309 rfl rfl ?_
    refine wp_callVs (n := 313) (rm' := (0, 0, 0, 0)) (c0 := c0) (s0 := s0) rfl dL_law_310 rfl mlL_156 [] rfl rfl m2 rfl rfl rfl (Nat.le_of_ble_eq_true rfl) rfl ?_
    refine s_X10_thrown m20 ?_
    show WP Γ _ _ _ _ _ _ _
    refine wp_iload (n := 315) dL_law_313 rfl rfl ?_
    refine wp_icmp_eq (t := 320) (n := 318) dL_law_315 (by decide) rfl (fun hc => ?_) (fun hc => ?_)
    · refine wp_iload (n := 322) dL_law_320 rfl rfl ?_
      refine wp_if_ne (t := 337) (n := 325) dL_law_322 (by decide) rfl (fun hq => ?_) (fun hq => ?_)
      · exact absurd rfl hq
      · refine wp_aload_n (n := 326) dL_law_325 rfl rfl ?_
        refine wp_iconst (n := 327) (v := 0) dL_law_326 rfl (by decide) ?_
        refine wp_lald (n := 328) 0 dL_law_327 rfl ho2 rfl (by omega) (by omega) ?_
        rw [hv2]
        refine wp_iload (n := 330) dL_law_328 rfl rfl ?_
        refine wp_i2l (n := 331) dL_law_330 rfl ?_
        refine wp_lcmp (n := 332) dL_law_331 rfl ?_
        rw [lg_self]
        refine wp_if_eq (t := 337) (n := 335) dL_law_332 (by decide) rfl (fun hu => ?_) (fun hu => ?_)
        · exact fin _
        · exact absurd rfl hu
    · exact absurd rfl hc
  have MC : ∀ (X Y : Nat) (h3 : AH) (kk : Int32), h3.2 m = h.2 m → h3.2 sa = h.2 sa → WP Γ MX10_appendByte (1, 22, 0, 0) 0 [some (.ref m), some (.int (S (i0 + 1)))] [] h3 (ax_K Γ ML_law (10, 196, c0 + (X - 0), s0 + (Y - 0)) 307 [some (.ref sa), some (.ref p), some (.ref m), some (.ref (m + 12)), some (.ref (m + 13)), some (.int (nI i0)), some (.int kk), none, none, none] [] Q) → WP Γ ML_law (10, 196, c0 + X, s0 + Y) 295 [some (.ref sa), some (.ref p), some (.ref m), some (.ref (m + 12)), some (.ref (m + 13)), some (.int (nI i0)), none, none, none, none] [.int kk] h3 Q := by
    intro X Y h3 kk e1 e2 kk3
    have mC3' := ModC.mv e1 mC
    unfold ModC at mC3'
    have hsa3 := e2.trans hsa
    refine wp_istore (n := 297) dL_law_295 rfl rfl rfl rfl ?_
    refine wp_aload_n (n := 298) dL_law_297 rfl rfl ?_
    refine wp_aload_n (n := 299) dL_law_298 rfl rfl ?_
    refine wp_iload (n := 301) dL_law_299 rfl rfl ?_
    refine wp_iconst (n := 302) (v := nI 1) dL_law_301 rfl (by decide) ?_
    refine wp_iadd (n := 303) dL_law_302 rfl ?_
    refine wp_iald (n := 304) (i0 + 1) dL_law_303 rfl (by repeat first | assumption | exact ax_set_self _ _ _ | exact ax_newA_self _ _ _ | refine (ax_set_ne _ _ (by omega)).trans ?_ | refine (ax_newA_ne _ _ _ (by omega)).trans ?_) (by simp only [nI_zero, nI_mul, nI_add]) (by omega) (by omega) ?_
    refine wp_callVs (n := 307) (rm' := (1, 22, 0, 0)) (c0 := c0) (s0 := s0) rfl dL_law_304 rfl mlL_155 [.int (S (i0 + 1))] rfl rfl mC3' rfl rfl rfl (Nat.le_of_ble_eq_true rfl) rfl ?_
    exact kk3
  refine wp_aload_n (n := 285) dL_law_284 rfl rfl ?_
  refine wp_aload_n (n := 286) dL_law_285 rfl rfl ?_
  refine wp_iload (n := 288) dL_law_286 rfl rfl ?_
  refine wp_iconst (n := 289) (v := nI 1) dL_law_288 rfl (by decide) ?_
  refine wp_iadd (n := 290) dL_law_289 rfl ?_
  refine wp_iald (n := 291) (i0 + 1) dL_law_290 rfl (by repeat first | assumption | exact ax_set_self _ _ _ | exact ax_newA_self _ _ _ | refine (ax_set_ne _ _ (by omega)).trans ?_ | refine (ax_newA_ne _ _ _ (by omega)).trans ?_) (by simp only [nI_zero, nI_mul, nI_add]) (by omega) (by omega) ?_
  refine wp_aload_n (n := 292) dL_law_291 rfl rfl ?_
  refine wp_callSH (n := 295) (rm' := (7, 116, 1, 6)) (c0 := c0) (s0 := s0) (C := 20) (S := 4409) rfl dL_law_292 rfl mwL_150 [.ref p, .int (S (i0 + 1)), .ref (m + 12)] rfl rfl rfl rfl (Nat.le_of_ble_eq_true rfl) rfl ?_
  refine s_L_appendByte hF' (by omega) ?_
  refine s_X9_appendByte hF hT (by omega) (by omega) (fun c1 n1 hn1 => ?_) (fun c1 hl5 => ?_) (fun c1 hl5 h1 fr1 hT1 => ?_)
  · refine Or.inl ⟨rfl, rfl, ?_⟩
    show WP Γ _ _ _ _ _ _ _
    have B : Bet p m h h _ := Bet.n (p := p) ho hn1
    refine MC _ _ _ _ (B.1 _ (by omega)) (B.1 _ (by omega)) ?_
    refine s_X10_appendByte (ModC.mv (B.1 _ (by omega)) mC) ((B.1 _ (by omega)).trans mR) hr0 hI0 (by omega) (by omega) ((B.1 _ (by omega)).trans mB) rfl (by omega) (fun d1 h2 fr2 m2 => ?_) (fun u hu eu hl2 h2 fr2 m2 => ?_) (fun u hu eu hl2 h2 fz fr2 m2 rB => ?_)
    · show WP Γ _ _ _ _ _ _ _
      exact TE _ _ h2 _ _ (by decide) (fin_q hA hs0 hM0 hP0 c10 hm B fr2 ⟨_, _, _, _, _, _, m2⟩) ⟨_, _, _, _, _, _, _, m2⟩
    · have d1 : inI (S (i0 + 1)) 0 255 = true := by rw [eu]; exact inI_of (by omega) hu (by decide)
      exact absurd (c1.symm.trans d1) (by decide)
    · have d1 : inI (S (i0 + 1)) 0 255 = true := by rw [eu]; exact inI_of (by omega) hu (by decide)
      exact absurd (c1.symm.trans d1) (by decide)
  · refine ⟨fo, o1, fun fo1 hv => ?_⟩
    show WP Γ _ _ _ _ _ _ _
    have B : Bet p m h h _ := Bet.o fo1 ho hm (fun _ _ => rfl)
    refine MC _ _ _ _ (B.1 _ (by omega)) (B.1 _ (by omega)) ?_
    refine s_X10_appendByte (ModC.mv (B.1 _ (by omega)) mC) ((B.1 _ (by omega)).trans mR) hr0 hI0 (by omega) (by omega) ((B.1 _ (by omega)).trans mB) rfl (by omega) (fun d1 h2 fr2 m2 => ?_) (fun u hu eu hl2 h2 fr2 m2 => ?_) (fun u hu eu hl2 h2 fz fr2 m2 rB => ?_)
    · exact absurd (c1.symm.trans d1) (by decide)
    · have d1 : inI (S (i0 + 1)) 0 255 = true := by rw [eu]; exact inI_of (by omega) hu (by decide)
      show WP Γ _ _ _ _ _ _ _
      exact TO _ _ h2 _ fo1 (fin_q hA hs0 hM0 hP0 c10 hm B fr2 ⟨_, _, _, _, _, _, m2⟩) ⟨_, _, _, _, _, _, _, m2⟩ ((fr2.2 _ (by omega)).trans (ax_set_self _ _ _)) hv
    · have d1 : inI (S (i0 + 1)) 0 255 = true := by rw [eu]; exact inI_of (by omega) hu (by decide)
      omega
  · refine ⟨fo, ((fr1.2 _ (by omega)).trans o1), fun fo1 hv => ?_⟩
    show WP Γ _ _ _ _ _ _ _
    have B : Bet p m h h1 _ := Bet.o fo1 ho hm (fun c hc => fr1.2 c (by omega))
    refine MC _ _ _ _ (B.1 _ (by omega)) (B.1 _ (by omega)) ?_
    refine s_X10_appendByte (ModC.mv (B.1 _ (by omega)) mC) ((B.1 _ (by omega)).trans mR) hr0 hI0 (by omega) (by omega) ((B.1 _ (by omega)).trans mB) rfl (by omega) (fun d1 h2 fr2 m2 => ?_) (fun u hu eu hl2 h2 fr2 m2 => ?_) (fun u hu eu hl2 h2 fz fr2 m2 rB => ?_)
    · exact absurd (c1.symm.trans d1) (by decide)
    · have d1 : inI (S (i0 + 1)) 0 255 = true := by rw [eu]; exact inI_of (by omega) hu (by decide)
      omega
    · have d1 : inI (S (i0 + 1)) 0 255 = true := by rw [eu]; exact inI_of (by omega) hu (by decide)
      show WP Γ _ _ _ _ _ _ _
      rw [eu] at hT1
      exact TO _ _ h2 _ fo1 (fin_t hA hs0 hM0 ⟨hl5, hI, hIS⟩ (c10.txt fr1 hT1) hm B fz fr2 ⟨_, _, _, _, _, _, m2⟩ ⟨_, rB, hB.more hu⟩) ⟨_, _, _, _, _, _, _, m2⟩ ((fr2 _ (by omega) (by omega)).trans (ax_set_self _ _ _)) hv
end
