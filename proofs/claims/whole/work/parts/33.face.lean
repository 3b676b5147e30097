/-! ===== the face: what arguments must be ===== -/
def IAE : String := "java/lang/IllegalArgumentException"
def IOB : String := "java/lang/IndexOutOfBoundsException"
def inN (x : Int32) (n : Nat) : Bool := decide (0 ≤ x ∧ x < nI n)
/-- from a to b, both included -/
def inI (x : Int32) (a b : Nat) : Bool := decide (nI a ≤ x ∧ x ≤ nI b)
theorem i32_nat {x : Int32} (h : 0 ≤ x) : ∃ j, j < 2147483648 ∧ x = nI j := by
  have h1 : 0 ≤ x.toInt := Int32.le_iff_toInt_le.mp h
  have h2 := x.toInt_lt
  refine ⟨x.toInt.toNat, by omega, ?_⟩
  rw [← Int32.toInt_inj, nI_toInt (by omega)]
  omega
theorem inN_get {x : Int32} {n : Nat} (hn : n < 2147483648) (h0 : 0 ≤ x) (h1 : x < nI n) : ∃ j, j < n ∧ x = nI j := by
  obtain ⟨j, hj, rfl⟩ := i32_nat h0
  exact ⟨j, (nI_lt9 hj hn).mp h1, rfl⟩
theorem inI_get {x : Int32} {a b : Nat} (hb : b < 2147483648) (ha : a ≤ b) (h0 : nI a ≤ x) (h1 : x ≤ nI b) : ∃ j, a ≤ j ∧ j ≤ b ∧ x = nI j := by
  have h2 : (0 : Int32) ≤ x := by
    rw [Int32.le_iff_toInt_le] at h0 ⊢
    rw [nI_toInt (by omega)] at h0
    show (0 : Int) ≤ _
    omega
  obtain ⟨j, hj, rfl⟩ := i32_nat h2
  exact ⟨j, (nI_le9 (by omega) hj).mp h0, (nI_le9 hj hb).mp h1, rfl⟩
/-- the object: its text, readers, snapshots, ledger, draft and latest error -/
def FacC (h : AH) (p L D : Nat) (er : Int32) : Prop := h.2 p = some (.inr (9, [.ref (p + 1), .ref (p + 3), .ref (p + 4), .ref (p + 6), .ref L, .ref D, .int er]))
section
variable {Γ : GE} {h : AH} {Q : PO} {p D b np nb ne nh nc y : Nat} {qu ra le ln pl tm rw hw cw pk : FI} {re : Nat → UInt32} {bk : Nat → Int64} {t x z er : Int32}
theorem s_X9_needPool (hF : FacC h p b D er) (hL : LedP h b np qu ra re le ln nb pl tm ne rw bk nh hw nc cw t y pk) (hn : np ≤ 8)
    (k1 : inN x np = false → ∀ n', h.1 ≤ n' → Q (.inr IOB) (n', h.2)) (k0 : ∀ j, j < np → x = nI j → Q (.inl none) h) : WP Γ MX9_needPool (6, 95, 1, 6) 0 [some (.ref p), some (.int x)] [] h Q := by
  unfold FacC at hF
  obtain ⟨hO, hP, hM, hJ, hR, hC, su, hS⟩ := hL
  have hP1 := hP.1
  have hM1 := hM.1
  have hJ1 := hJ.1
  have hR1 := hR.1
  have hC1 := hC.1
  have hP2 := hP.2.1
  have hP3 := hP.2.2.1
  have hP4 := hP.2.2.2.1
  have hM2 := hM.2.1
  have hM3 := hM.2.2.1
  have hM4 := hM.2.2.2
  refine wp_iload_n (n := 1) dX9_needPool_0 rfl rfl ?_
  refine wp_if_lt (t := 18) (n := 4) dX9_needPool_1 (by decide) rfl (fun hc => ?_) (fun hc => ?_)
  · exact wp_throwSW 14 rfl dX9_needPool_18 dX9_needPool_21 dX9_needPool_22 dX9_needPool_25 dX9_needPool_28 rfl (by decide) (by decide) clX9_336 ax_iobi atX9_340 agX9_340 ax_nw rfl rfl (by decide) (by decide) (k1 (decide_eq_false (fun q => absurd hc (Int32.not_lt.mpr q.1))))
  · refine wp_iload_n (n := 5) dX9_needPool_4 rfl rfl ?_
    refine wp_aload_n (n := 6) dX9_needPool_5 rfl rfl ?_
    refine wp_getf (n := 9) dX9_needPool_6 rfl flX9_39 (by repeat first | assumption | exact ax_set_self _ _ _ | exact ax_newA_self _ _ _ | refine (ax_set_ne _ _ (by omega)).trans ?_ | refine (ax_newA_ne _ _ _ (by omega)).trans ?_) (by rfl) ?_
    refine wp_getf (n := 12) dX9_needPool_9 rfl flX9_76 (by repeat first | assumption | exact ax_set_self _ _ _ | exact ax_newA_self _ _ _ | refine (ax_set_ne _ _ (by omega)).trans ?_ | refine (ax_newA_ne _ _ _ (by omega)).trans ?_) (by rfl) ?_
    refine wp_getf (n := 15) dX9_needPool_12 rfl flX9_80 (by repeat first | assumption | exact ax_set_self _ _ _ | exact ax_newA_self _ _ _ | refine (ax_set_ne _ _ (by omega)).trans ?_ | refine (ax_newA_ne _ _ _ (by omega)).trans ?_) (by rfl) ?_
    refine wp_icmp_lt (t := 29) (n := 18) dX9_needPool_15 (by decide) rfl (fun hq => ?_) (fun hq => ?_)
    · obtain ⟨j, hj, e⟩ := inN_get (by omega) (i32_not_lt hc) hq
      exact wp_return dX9_needPool_29 rfl (k0 j hj e)
    · exact wp_throwSW 14 rfl dX9_needPool_18 dX9_needPool_21 dX9_needPool_22 dX9_needPool_25 dX9_needPool_28 rfl (by decide) (by decide) clX9_336 ax_iobi atX9_340 agX9_340 ax_nw rfl rfl (by decide) (by decide) (k1 (decide_eq_false (fun q => hq q.2)))
theorem s_X9_needBlock (hF : FacC h p b D er) (hL : LedP h b np qu ra re le ln nb pl tm ne rw bk nh hw nc cw t y pk) (hn : nb ≤ 200)
    (k1 : inN x nb = false → ∀ n', h.1 ≤ n' → Q (.inr IOB) (n', h.2)) (k0 : ∀ j, j < nb → x = nI j → Q (.inl none) h) : WP Γ MX9_needBlock (6, 95, 1, 6) 0 [some (.ref p), some (.int x)] [] h Q := by
  unfold FacC at hF
  obtain ⟨hO, hP, hM, hJ, hR, hC, su, hS⟩ := hL
  have hP1 := hP.1
  have hM1 := hM.1
  have hJ1 := hJ.1
  have hR1 := hR.1
  have hC1 := hC.1
  have hP2 := hP.2.1
  have hP3 := hP.2.2.1
  have hP4 := hP.2.2.2.1
  have hM2 := hM.2.1
  have hM3 := hM.2.2.1
  have hM4 := hM.2.2.2
  refine wp_iload_n (n := 1) dX9_needBlock_0 rfl rfl ?_
  refine wp_if_lt (t := 18) (n := 4) dX9_needBlock_1 (by decide) rfl (fun hc => ?_) (fun hc => ?_)
  · exact wp_throwSW 20 rfl dX9_needBlock_18 dX9_needBlock_21 dX9_needBlock_22 dX9_needBlock_25 dX9_needBlock_28 rfl (by decide) (by decide) clX9_336 ax_iobi atX9_340 agX9_340 ax_nw rfl rfl (by decide) (by decide) (k1 (decide_eq_false (fun q => absurd hc (Int32.not_lt.mpr q.1))))
  · refine wp_iload_n (n := 5) dX9_needBlock_4 rfl rfl ?_
    refine wp_aload_n (n := 6) dX9_needBlock_5 rfl rfl ?_
    refine wp_getf (n := 9) dX9_needBlock_6 rfl flX9_39 (by repeat first | assumption | exact ax_set_self _ _ _ | exact ax_newA_self _ _ _ | refine (ax_set_ne _ _ (by omega)).trans ?_ | refine (ax_newA_ne _ _ _ (by omega)).trans ?_) (by rfl) ?_
    refine wp_getf (n := 12) dX9_needBlock_9 rfl flX9_118 (by repeat first | assumption | exact ax_set_self _ _ _ | exact ax_newA_self _ _ _ | refine (ax_set_ne _ _ (by omega)).trans ?_ | refine (ax_newA_ne _ _ _ (by omega)).trans ?_) (by rfl) ?_
    refine wp_getf (n := 15) dX9_needBlock_12 rfl flX9_122 (by repeat first | assumption | exact ax_set_self _ _ _ | exact ax_newA_self _ _ _ | refine (ax_set_ne _ _ (by omega)).trans ?_ | refine (ax_newA_ne _ _ _ (by omega)).trans ?_) (by rfl) ?_
    refine wp_icmp_lt (t := 29) (n := 18) dX9_needBlock_15 (by decide) rfl (fun hq => ?_) (fun hq => ?_)
    · obtain ⟨j, hj, e⟩ := inN_get (by omega) (i32_not_lt hc) hq
      exact wp_return dX9_needBlock_29 rfl (k0 j hj e)
    · exact wp_throwSW 20 rfl dX9_needBlock_18 dX9_needBlock_21 dX9_needBlock_22 dX9_needBlock_25 dX9_needBlock_28 rfl (by decide) (by decide) clX9_336 ax_iobi atX9_340 agX9_340 ax_nw rfl rfl (by decide) (by decide) (k1 (decide_eq_false (fun q => hq q.2)))
theorem s_X9_needEntry (hF : FacC h p b D er) (hL : LedP h b np qu ra re le ln nb pl tm ne rw bk nh hw nc cw t y pk) (hn : ne ≤ 300)
    (k1 : inN x ne = false → ∀ n', h.1 ≤ n' → Q (.inr IOB) (n', h.2)) (k0 : ∀ j, j < ne → x = nI j → Q (.inl none) h) : WP Γ MX9_needEntry (6, 95, 1, 6) 0 [some (.ref p), some (.int x)] [] h Q := by
  unfold FacC at hF
  obtain ⟨hO, hP, hM, hJ, hR, hC, su, hS⟩ := hL
  have hP1 := hP.1
  have hM1 := hM.1
  have hJ1 := hJ.1
  have hR1 := hR.1
  have hC1 := hC.1
  have hP2 := hP.2.1
  have hP3 := hP.2.2.1
  have hP4 := hP.2.2.2.1
  have hM2 := hM.2.1
  have hM3 := hM.2.2.1
  have hM4 := hM.2.2.2
  refine wp_iload_n (n := 1) dX9_needEntry_0 rfl rfl ?_
  refine wp_if_lt (t := 18) (n := 4) dX9_needEntry_1 (by decide) rfl (fun hc => ?_) (fun hc => ?_)
  · exact wp_throwSW 21 rfl dX9_needEntry_18 dX9_needEntry_21 dX9_needEntry_22 dX9_needEntry_25 dX9_needEntry_28 rfl (by decide) (by decide) clX9_336 ax_iobi atX9_340 agX9_340 ax_nw rfl rfl (by decide) (by decide) (k1 (decide_eq_false (fun q => absurd hc (Int32.not_lt.mpr q.1))))
  · refine wp_iload_n (n := 5) dX9_needEntry_4 rfl rfl ?_
    refine wp_aload_n (n := 6) dX9_needEntry_5 rfl rfl ?_
    refine wp_getf (n := 9) dX9_needEntry_6 rfl flX9_39 (by repeat first | assumption | exact ax_set_self _ _ _ | exact ax_newA_self _ _ _ | refine (ax_set_ne _ _ (by omega)).trans ?_ | refine (ax_newA_ne _ _ _ (by omega)).trans ?_) (by rfl) ?_
    refine wp_getf (n := 12) dX9_needEntry_9 rfl flX9_264 (by repeat first | assumption | exact ax_set_self _ _ _ | exact ax_newA_self _ _ _ | refine (ax_set_ne _ _ (by omega)).trans ?_ | refine (ax_newA_ne _ _ _ (by omega)).trans ?_) (by rfl) ?_
    refine wp_getf (n := 15) dX9_needEntry_12 rfl flX9_268 (by repeat first | assumption | exact ax_set_self _ _ _ | exact ax_newA_self _ _ _ | refine (ax_set_ne _ _ (by omega)).trans ?_ | refine (ax_newA_ne _ _ _ (by omega)).trans ?_) (by rfl) ?_
    refine wp_icmp_lt (t := 29) (n := 18) dX9_needEntry_15 (by decide) rfl (fun hq => ?_) (fun hq => ?_)
    · obtain ⟨j, hj, e⟩ := inN_get (by omega) (i32_not_lt hc) hq
      exact wp_return dX9_needEntry_29 rfl (k0 j hj e)
    · exact wp_throwSW 21 rfl dX9_needEntry_18 dX9_needEntry_21 dX9_needEntry_22 dX9_needEntry_25 dX9_needEntry_28 rfl (by decide) (by decide) clX9_336 ax_iobi atX9_340 agX9_340 ax_nw rfl rfl (by decide) (by decide) (k1 (decide_eq_false (fun q => hq q.2)))
theorem s_X9_needReservation (hF : FacC h p b D er) (hL : LedP h b np qu ra re le ln nb pl tm ne rw bk nh hw nc cw t y pk) (hn : nh ≤ 60)
    (k1 : inN x nh = false → ∀ n', h.1 ≤ n' → Q (.inr IOB) (n', h.2)) (k0 : ∀ j, j < nh → x = nI j → Q (.inl none) h) : WP Γ MX9_needReservation (6, 95, 1, 6) 0 [some (.ref p), some (.int x)] [] h Q := by
  unfold FacC at hF
  obtain ⟨hO, hP, hM, hJ, hR, hC, su, hS⟩ := hL
  have hP1 := hP.1
  have hM1 := hM.1
  have hJ1 := hJ.1
  have hR1 := hR.1
  have hC1 := hC.1
  have hP2 := hP.2.1
  have hP3 := hP.2.2.1
  have hP4 := hP.2.2.2.1
  have hM2 := hM.2.1
  have hM3 := hM.2.2.1
  have hM4 := hM.2.2.2
  refine wp_iload_n (n := 1) dX9_needReservation_0 rfl rfl ?_
  refine wp_if_lt (t := 18) (n := 4) dX9_needReservation_1 (by decide) rfl (fun hc => ?_) (fun hc => ?_)
  · exact wp_throwSW 22 rfl dX9_needReservation_18 dX9_needReservation_21 dX9_needReservation_22 dX9_needReservation_25 dX9_needReservation_28 rfl (by decide) (by decide) clX9_336 ax_iobi atX9_340 agX9_340 ax_nw rfl rfl (by decide) (by decide) (k1 (decide_eq_false (fun q => absurd hc (Int32.not_lt.mpr q.1))))
  · refine wp_iload_n (n := 5) dX9_needReservation_4 rfl rfl ?_
    refine wp_aload_n (n := 6) dX9_needReservation_5 rfl rfl ?_
    refine wp_getf (n := 9) dX9_needReservation_6 rfl flX9_39 (by repeat first | assumption | exact ax_set_self _ _ _ | exact ax_newA_self _ _ _ | refine (ax_set_ne _ _ (by omega)).trans ?_ | refine (ax_newA_ne _ _ _ (by omega)).trans ?_) (by rfl) ?_
    refine wp_getf (n := 12) dX9_needReservation_9 rfl flX9_196 (by repeat first | assumption | exact ax_set_self _ _ _ | exact ax_newA_self _ _ _ | refine (ax_set_ne _ _ (by omega)).trans ?_ | refine (ax_newA_ne _ _ _ (by omega)).trans ?_) (by rfl) ?_
    refine wp_getf (n := 15) dX9_needReservation_12 rfl flX9_208 (by repeat first | assumption | exact ax_set_self _ _ _ | exact ax_newA_self _ _ _ | refine (ax_set_ne _ _ (by omega)).trans ?_ | refine (ax_newA_ne _ _ _ (by omega)).trans ?_) (by rfl) ?_
    refine wp_icmp_lt (t := 29) (n := 18) dX9_needReservation_15 (by decide) rfl (fun hq => ?_) (fun hq => ?_)
    · obtain ⟨j, hj, e⟩ := inN_get (by omega) (i32_not_lt hc) hq
      exact wp_return dX9_needReservation_29 rfl (k0 j hj e)
    · exact wp_throwSW 22 rfl dX9_needReservation_18 dX9_needReservation_21 dX9_needReservation_22 dX9_needReservation_25 dX9_needReservation_28 rfl (by decide) (by decide) clX9_336 ax_iobi atX9_340 agX9_340 ax_nw rfl rfl (by decide) (by decide) (k1 (decide_eq_false (fun q => hq q.2)))
theorem s_X9_needTwoPools (hF : FacC h p b D er) (hL : LedP h b np qu ra re le ln nb pl tm ne rw bk nh hw nc cw t y pk) (hn : np ≤ 8)
    (k1 : (inN x np && inN z np) = false → ∀ n', h.1 ≤ n' → Q (.inr IOB) (n', h.2)) (k2 : (inN x np && inN z np) = true → x = z → ∀ n', h.1 ≤ n' → Q (.inr IAE) (n', h.2)) (k0 : ∀ i j, i < np → j < np → x = nI i → z = nI j → ¬ i = j → Q (.inl none) h) : WP Γ MX9_needTwoPools (7, 116, 3, 18) 0 [some (.ref p), some (.int x), some (.int z)] [] h Q := by
  have hF0 := hF
  unfold FacC at hF
  have hL0 := hL
  obtain ⟨hO, hP, hM, hJ, hR, hC, su, hS⟩ := hL
  have hP1 := hP.1
  have hM1 := hM.1
  have hJ1 := hJ.1
  have hR1 := hR.1
  have hC1 := hC.1
  have hP2 := hP.2.1
  have hP3 := hP.2.2.1
  have hP4 := hP.2.2.2.1
  have hM2 := hM.2.1
  have hM3 := hM.2.2.1
  have hM4 := hM.2.2.2
  refine wp_aload_n (n := 1) dX9_needTwoPools_0 rfl rfl ?_
  refine wp_iload_n (n := 2) dX9_needTwoPools_1 rfl rfl ?_
  refine wp_callV1 (n := 5) (rm' := (6, 95, 1, 6)) rfl dX9_needTwoPools_2 rfl mlX9_125 (by repeat first | assumption | exact ax_set_self _ _ _ | exact ax_newA_self _ _ _ | refine (ax_set_ne _ _ (by omega)).trans ?_ | refine (ax_newA_ne _ _ _ (by omega)).trans ?_) rfl rfl rfl rfl rfl ?_
  refine s_X9_needPool hF0 hL0 hn (fun q => k1 (by rw [q, Bool.false_and])) (fun i hi e => ?_)
  show WP Γ _ _ _ _ _ _ _
  refine wp_aload_n (n := 6) dX9_needTwoPools_5 rfl rfl ?_
  refine wp_iload_n (n := 7) dX9_needTwoPools_6 rfl rfl ?_
  refine wp_callV1 (n := 10) (rm' := (6, 95, 1, 6)) rfl dX9_needTwoPools_7 rfl mlX9_125 (by repeat first | assumption | exact ax_set_self _ _ _ | exact ax_newA_self _ _ _ | refine (ax_set_ne _ _ (by omega)).trans ?_ | refine (ax_newA_ne _ _ _ (by omega)).trans ?_) rfl rfl rfl rfl rfl ?_
  refine s_X9_needPool hF0 hL0 hn (fun q => k1 (by rw [q, Bool.and_false])) (fun j hj e2 => ?_)
  show WP Γ _ _ _ _ _ _ _
  refine wp_iload_n (n := 11) dX9_needTwoPools_10 rfl rfl ?_
  refine wp_iload_n (n := 12) dX9_needTwoPools_11 rfl rfl ?_
  subst e
  subst e2
  refine wp_icmp_ne (t := 26) (n := 15) dX9_needTwoPools_12 (by decide) rfl (fun hc => ?_) (fun hc => ?_)
  · exact wp_return dX9_needTwoPools_26 rfl (k0 i j hi hj rfl rfl (fun q => hc (by rw [q])))
  · have e3 : ∀ i, i < np → inN (nI i) np = true := fun i hi => decide_eq_true ⟨(nI_le9 (a := 0) (by omega) (by omega)).mpr (by omega), (nI_lt9 (by omega) (by omega)).mpr hi⟩
    exact wp_throwSW 17 rfl dX9_needTwoPools_15 dX9_needTwoPools_18 dX9_needTwoPools_19 dX9_needTwoPools_22 dX9_needTwoPools_25 rfl (by decide) (by decide) clX9_54 ax_iaei atX9_58 agX9_58 ax_nw rfl rfl (by decide) (by decide) (k2 (by rw [e3 i hi, e3 j hj]; rfl) hc)
theorem s_X9_needCheckpoints (hF : FacC h p b D er) (hL : LedP h b np qu ra re le ln nb pl tm ne rw bk nh hw nc cw t y pk) (hn : nc ≤ 10)
    (k1 : ¬ (0 ≤ x ∧ x ≤ z ∧ z < nI nc) → ∀ n', h.1 ≤ n' → Q (.inr IAE) (n', h.2)) (k0 : ∀ i j, i ≤ j → j < nc → x = nI i → z = nI j → Q (.inl none) h) : WP Γ MX9_needCheckpoints (6, 95, 1, 6) 0 [some (.ref p), some (.int x), some (.int z)] [] h Q := by
  unfold FacC at hF
  obtain ⟨hO, hP, hM, hJ, hR, hC, su, hS⟩ := hL
  have hP1 := hP.1
  have hM1 := hM.1
  have hJ1 := hJ.1
  have hR1 := hR.1
  have hC1 := hC.1
  have hP2 := hP.2.1
  have hP3 := hP.2.2.1
  have hP4 := hP.2.2.2.1
  have hM2 := hM.2.1
  have hM3 := hM.2.2.1
  have hM4 := hM.2.2.2
  refine wp_iload_n (n := 1) dX9_needCheckpoints_0 rfl rfl ?_
  refine wp_if_lt (t := 23) (n := 4) dX9_needCheckpoints_1 (by decide) rfl (fun hc => ?_) (fun hc => ?_)
  · exact wp_throwSW 27 rfl dX9_needCheckpoints_23 dX9_needCheckpoints_26 dX9_needCheckpoints_27 dX9_needCheckpoints_30 dX9_needCheckpoints_33 rfl (by decide) (by decide) clX9_54 ax_iaei atX9_58 agX9_58 ax_nw rfl rfl (by decide) (by decide) (k1 (fun q => absurd hc (Int32.not_lt.mpr q.1)))
  · refine wp_iload_n (n := 5) dX9_needCheckpoints_4 rfl rfl ?_
    refine wp_aload_n (n := 6) dX9_needCheckpoints_5 rfl rfl ?_
    refine wp_getf (n := 9) dX9_needCheckpoints_6 rfl flX9_39 (by repeat first | assumption | exact ax_set_self _ _ _ | exact ax_newA_self _ _ _ | refine (ax_set_ne _ _ (by omega)).trans ?_ | refine (ax_newA_ne _ _ _ (by omega)).trans ?_) (by rfl) ?_
    refine wp_getf (n := 12) dX9_needCheckpoints_9 rfl flX9_349 (by repeat first | assumption | exact ax_set_self _ _ _ | exact ax_newA_self _ _ _ | refine (ax_set_ne _ _ (by omega)).trans ?_ | refine (ax_newA_ne _ _ _ (by omega)).trans ?_) (by rfl) ?_
    refine wp_getf (n := 15) dX9_needCheckpoints_12 rfl flX9_353 (by repeat first | assumption | exact ax_set_self _ _ _ | exact ax_newA_self _ _ _ | refine (ax_set_ne _ _ (by omega)).trans ?_ | refine (ax_newA_ne _ _ _ (by omega)).trans ?_) (by rfl) ?_
    refine wp_icmp_ge (t := 23) (n := 18) dX9_needCheckpoints_15 (by decide) rfl (fun hq => ?_) (fun hq => ?_)
    · exact wp_throwSW 27 rfl dX9_needCheckpoints_23 dX9_needCheckpoints_26 dX9_needCheckpoints_27 dX9_needCheckpoints_30 dX9_needCheckpoints_33 rfl (by decide) (by decide) clX9_54 ax_iaei atX9_58 agX9_58 ax_nw rfl rfl (by decide) (by decide) (k1 (fun q => absurd q.2.2 (Int32.not_lt.mpr hq)))
    · refine wp_iload_n (n := 19) dX9_needCheckpoints_18 rfl rfl ?_
      refine wp_iload_n (n := 20) dX9_needCheckpoints_19 rfl rfl ?_
      refine wp_icmp_le (t := 34) (n := 23) dX9_needCheckpoints_20 (by decide) rfl (fun hr => ?_) (fun hr => ?_)
      · have h0 := i32_not_lt hc
        obtain ⟨j, hj, e⟩ := inN_get (by omega) (Int32.le_trans h0 hr) (i32_not_le hq)
        obtain ⟨i, hi, e2⟩ := i32_nat h0
        refine wp_return dX9_needCheckpoints_34 rfl (k0 i j ?_ hj e2 e)
        rw [e, e2] at hr
        exact (nI_le9 hi (by omega)).mp hr
      · exact wp_throwSW 27 rfl dX9_needCheckpoints_23 dX9_needCheckpoints_26 dX9_needCheckpoints_27 dX9_needCheckpoints_30 dX9_needCheckpoints_33 rfl (by decide) (by decide) clX9_54 ax_iaei atX9_58 agX9_58 ax_nw rfl rfl (by decide) (by decide) (k1 (fun q => hr q.2.1))
theorem s_X9_needCount (k1 : inI x 1 200 = false → ∀ n', h.1 ≤ n' → Q (.inr IAE) (n', h.2)) (k0 : ∀ j, 1 ≤ j → j ≤ 200 → x = nI j → Q (.inl none) h) : WP Γ MX9_needCount (6, 95, 1, 6) 0 [some (.int x)] [] h Q := by
  refine wp_iload_n (n := 1) dX9_needCount_0 rfl rfl ?_
  refine wp_iconst (n := 2) (v := nI 1) dX9_needCount_1 rfl (by decide) ?_
  refine wp_icmp_lt (t := 12) (n := 5) dX9_needCount_2 (by decide) rfl (fun hc => ?_) (fun hc => ?_)
  · exact wp_throwS 18 rfl dX9_needCount_12 dX9_needCount_15 dX9_needCount_16 dX9_needCount_18 dX9_needCount_21 rfl (by decide) (by decide) clX9_54 ax_iaei atX9_58 agX9_58 ax_nw rfl rfl (by decide) (by decide) (k1 (decide_eq_false (fun q => absurd hc (Int32.not_lt.mpr q.1))))
  · refine wp_iload_n (n := 6) dX9_needCount_5 rfl rfl ?_
    refine wp_sipush (n := 9) (v := nI 200) dX9_needCount_6 rfl (by decide) ?_
    refine wp_icmp_le (t := 22) (n := 12) dX9_needCount_9 (by decide) rfl (fun hq => ?_) (fun hq => ?_)
    · obtain ⟨j, h1, h2, e⟩ := inI_get (by omega) (by omega) (i32_not_lt hc) hq
      exact wp_return dX9_needCount_22 rfl (k0 j h1 h2 e)
    · exact wp_throwS 18 rfl dX9_needCount_12 dX9_needCount_15 dX9_needCount_16 dX9_needCount_18 dX9_needCount_21 rfl (by decide) (by decide) clX9_54 ax_iaei atX9_58 agX9_58 ax_nw rfl rfl (by decide) (by decide) (k1 (decide_eq_false (fun q => hq q.2)))
theorem s_X9_needReason (k1 : inI x 0 9 = false → ∀ n', h.1 ≤ n' → Q (.inr IAE) (n', h.2)) (k0 : inI x 0 9 = true → Q (.inl none) h) : WP Γ MX9_needReason (6, 95, 1, 6) 0 [some (.int x)] [] h Q := by
  refine wp_iload_n (n := 1) dX9_needReason_0 rfl rfl ?_
  refine wp_if_lt (t := 10) (n := 4) dX9_needReason_1 (by decide) rfl (fun hc => ?_) (fun hc => ?_)
  · exact wp_throwSW 19 rfl dX9_needReason_10 dX9_needReason_13 dX9_needReason_14 dX9_needReason_17 dX9_needReason_20 rfl (by decide) (by decide) clX9_54 ax_iaei atX9_58 agX9_58 ax_nw rfl rfl (by decide) (by decide) (k1 (decide_eq_false (fun q => absurd hc (Int32.not_lt.mpr q.1))))
  · refine wp_iload_n (n := 5) dX9_needReason_4 rfl rfl ?_
    refine wp_bipush (n := 7) (v := nI 9) dX9_needReason_5 rfl (by decide) ?_
    refine wp_icmp_le (t := 21) (n := 10) dX9_needReason_7 (by decide) rfl (fun hq => ?_) (fun hq => ?_)
    · exact wp_return dX9_needReason_21 rfl (k0 (decide_eq_true ⟨i32_not_lt hc, hq⟩))
    · exact wp_throwSW 19 rfl dX9_needReason_10 dX9_needReason_13 dX9_needReason_14 dX9_needReason_17 dX9_needReason_20 rfl (by decide) (by decide) clX9_54 ax_iaei atX9_58 agX9_58 ax_nw rfl rfl (by decide) (by decide) (k1 (decide_eq_false (fun q => hq q.2)))
theorem s_X9_needTicks (k1 : inI x 1 1000 = false → ∀ n', h.1 ≤ n' → Q (.inr IAE) (n', h.2)) (k0 : ∀ j, 1 ≤ j → j ≤ 1000 → x = nI j → Q (.inl none) h) : WP Γ MX9_needTicks (6, 95, 1, 6) 0 [some (.int x)] [] h Q := by
  refine wp_iload_n (n := 1) dX9_needTicks_0 rfl rfl ?_
  refine wp_iconst (n := 2) (v := nI 1) dX9_needTicks_1 rfl (by decide) ?_
  refine wp_icmp_lt (t := 12) (n := 5) dX9_needTicks_2 (by decide) rfl (fun hc => ?_) (fun hc => ?_)
  · exact wp_throwSW 15 rfl dX9_needTicks_12 dX9_needTicks_15 dX9_needTicks_16 dX9_needTicks_19 dX9_needTicks_22 rfl (by decide) (by decide) clX9_54 ax_iaei atX9_58 agX9_58 ax_nw rfl rfl (by decide) (by decide) (k1 (decide_eq_false (fun q => absurd hc (Int32.not_lt.mpr q.1))))
  · refine wp_iload_n (n := 6) dX9_needTicks_5 rfl rfl ?_
    refine wp_sipush (n := 9) (v := nI 1000) dX9_needTicks_6 rfl (by decide) ?_
    refine wp_icmp_le (t := 23) (n := 12) dX9_needTicks_9 (by decide) rfl (fun hq => ?_) (fun hq => ?_)
    · obtain ⟨j, h1, h2, e⟩ := inI_get (by omega) (by omega) (i32_not_lt hc) hq
      exact wp_return dX9_needTicks_23 rfl (k0 j h1 h2 e)
    · exact wp_throwSW 15 rfl dX9_needTicks_12 dX9_needTicks_15 dX9_needTicks_16 dX9_needTicks_19 dX9_needTicks_22 rfl (by decide) (by decide) clX9_54 ax_iaei atX9_58 agX9_58 ax_nw rfl rfl (by decide) (by decide) (k1 (decide_eq_false (fun q => hq q.2)))
theorem s_X9_needInterval (k1 : ¬ (0 ≤ x ∧ x ≤ z) → ∀ n', h.1 ≤ n' → Q (.inr IAE) (n', h.2)) (k0 : 0 ≤ x → x ≤ z → Q (.inl none) h) : WP Γ MX9_needInterval (6, 95, 1, 6) 0 [some (.int x), some (.int z)] [] h Q := by
  refine wp_iload_n (n := 1) dX9_needInterval_0 rfl rfl ?_
  refine wp_if_lt (t := 9) (n := 4) dX9_needInterval_1 (by decide) rfl (fun hc => ?_) (fun hc => ?_)
  · exact wp_throwSW 26 rfl dX9_needInterval_9 dX9_needInterval_12 dX9_needInterval_13 dX9_needInterval_16 dX9_needInterval_19 rfl (by decide) (by decide) clX9_54 ax_iaei atX9_58 agX9_58 ax_nw rfl rfl (by decide) (by decide) (k1 (fun q => absurd hc (Int32.not_lt.mpr q.1)))
  · refine wp_iload_n (n := 5) dX9_needInterval_4 rfl rfl ?_
    refine wp_iload_n (n := 6) dX9_needInterval_5 rfl rfl ?_
    refine wp_icmp_le (t := 20) (n := 9) dX9_needInterval_6 (by decide) rfl (fun hq => ?_) (fun hq => ?_)
    · exact wp_return dX9_needInterval_20 rfl (k0 (i32_not_lt hc) hq)
    · exact wp_throwSW 26 rfl dX9_needInterval_9 dX9_needInterval_12 dX9_needInterval_13 dX9_needInterval_16 dX9_needInterval_19 rfl (by decide) (by decide) clX9_54 ax_iaei atX9_58 agX9_58 ax_nw rfl rfl (by decide) (by decide) (k1 (fun q => hq q.2))
theorem s_X9_needSlot (k1 : inN x 2 = false → ∀ n', h.1 ≤ n' → Q (.inr IAE) (n', h.2)) (k0 : ∀ j, j < 2 → x = nI j → Q (.inl none) h) : WP Γ MX9_needSlot (6, 95, 1, 6) 0 [some (.int x)] [] h Q := by
  refine wp_iload_n (n := 1) dX9_needSlot_0 rfl rfl ?_
  refine wp_if_lt (t := 9) (n := 4) dX9_needSlot_1 (by decide) rfl (fun hc => ?_) (fun hc => ?_)
  · exact wp_throwSW 28 rfl dX9_needSlot_9 dX9_needSlot_12 dX9_needSlot_13 dX9_needSlot_16 dX9_needSlot_19 rfl (by decide) (by decide) clX9_54 ax_iaei atX9_58 agX9_58 ax_nw rfl rfl (by decide) (by decide) (k1 (decide_eq_false (fun q => absurd hc (Int32.not_lt.mpr q.1))))
  · refine wp_iload_n (n := 5) dX9_needSlot_4 rfl rfl ?_
    refine wp_iconst (n := 6) (v := nI 2) dX9_needSlot_5 rfl (by decide) ?_
    refine wp_icmp_lt (t := 20) (n := 9) dX9_needSlot_6 (by decide) rfl (fun hq => ?_) (fun hq => ?_)
    · obtain ⟨j, h1, e⟩ := inN_get (by omega) (i32_not_lt hc) hq
      exact wp_return dX9_needSlot_20 rfl (k0 j h1 e)
    · exact wp_throwSW 28 rfl dX9_needSlot_9 dX9_needSlot_12 dX9_needSlot_13 dX9_needSlot_16 dX9_needSlot_19 rfl (by decide) (by decide) clX9_54 ax_iaei atX9_58 agX9_58 ax_nw rfl rfl (by decide) (by decide) (k1 (decide_eq_false (fun q => hq q.2)))
end
