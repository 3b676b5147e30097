/-! ===== the reference: rents, expiries ===== -/

theorem i32_sub_add (a b c : Int32) : a - (b + c) = a - b - c := by
  rw [Int32.sub_eq_add_neg, Int32.neg_add, Int32.sub_eq_add_neg, Int32.sub_eq_add_neg, Int32.sub_eq_add_neg, Int32.add_assoc]

section
variable {Γ : GE} {h : AH} {Q : PO} {m a np nb ne nh nc y : Nat} {R : FI} {qu ra le ln pl tm rw hw cw pk : FI} {re : Nat → UInt32} {RE : Nat → UInt32} {bk : Nat → Int64} {t x z w v th tl at' bg er ea lr cm : Int32}
theorem s_X10_rent (hM : ModC h m a th tl at' bg er ea lr cm) (hR : h.2 a = some (.inl (.int, 5061, .inl R))) (hr : RowR R np qu ra re le ln nb pl tm ne rw bk nh hw nc cw t y) (hI : Inv np qu ra re le ln nb pl tm ne rw bk nh hw nc cw t y) (hA : Γ.2.1 ≤ m) (ham : ¬ a = m) (hE : h.2 (m + 5) = some (.inl (.float, 8, .inr (.inr (.inl RE))))) (hre : ∀ j, j < np → RE j = re j)
    (k1 : inN x np = false → ∀ h', ax_fr m (m + 1) h h' → ModC h' m a (nI 1) tl at' bg er ea lr cm → Q (.inl (some (.float FP.fconst0))) h')
    (k : ∀ j, j < np → x = nI j → ∀ h', ax_fr m (m + 1) h h' → ModC h' m a (0) tl at' bg er ea lr cm → Q (.inl (some (.float (re j)))) h') : WP Γ MX10_rent (2, 43, 0, 0) 0 [some (.ref m), some (.int x)] [] h Q := by
  have hM0 := hM
  unfold ModC at hM
  have hI0 := hI
  have hr0 := hr
  obtain ⟨⟨s1, s2, s3, s4, s5, s6, s7, s8, tn, s9, s10⟩, IM, IP, IJ, IR, IC⟩ := hI
  obtain ⟨⟨r0, r1, r2, r3, r4, r5, r6⟩, rM, rP, rJ, rH, rC⟩ := hr
  refine wp_aload_n (n := 1) dX10_rent_0 rfl rfl ?_
  refine wp_aload_n (n := 2) dX10_rent_1 rfl rfl ?_
  refine wp_iload_n (n := 3) dX10_rent_2 rfl rfl ?_
  refine wp_callV1 (n := 6) (rm' := (1, 22, 0, 0)) rfl dX10_rent_3 rfl mlX10_109 (by repeat first | assumption | exact ax_set_self _ _ _ | exact ax_newA_self _ _ _ | refine (ax_set_ne _ _ (by omega)).trans ?_ | refine (ax_newA_ne _ _ _ (by omega)).trans ?_) rfl rfl rfl rfl rfl ?_
  refine s_X10_isPool hM0 hR r1 s2 ?_
  show WP Γ _ _ _ _ _ _ _
  refine wp_iconst (n := 7) (v := nI 1) dX10_rent_6 rfl (by decide) ?_
  refine wp_callV2 (n := 10) (rm' := (0, 0, 0, 0)) rfl dX10_rent_7 rfl mlX10_113 (by repeat first | assumption | exact ax_set_self _ _ _ | exact ax_newA_self _ _ _ | refine (ax_set_ne _ _ (by omega)).trans ?_ | refine (ax_newA_ne _ _ _ (by omega)).trans ?_) rfl rfl rfl rfl rfl ?_
  refine s_X10_isThrown hM0 hA (fun hB f1 mB => ?_)
  show WP Γ _ _ _ _ _ _ _
  have fB := f1
  have hRB := fB.get hR (by omega)
  cases hx1 : inN x np with
  | false =>
    rw [hx1] at mB
    refine wp_if_eq (t := 17) (n := 13) dX10_rent_10 (by decide) rfl (fun hq => ?_) (fun hq => ?_)
    · exact absurd hq (by decide)
    · refine wp_fconst0 (n := 14) dX10_rent_13 rfl ?_
      refine wp_goto (t := 23) dX10_rent_14 (by decide) ?_
      exact wp_freturn dX10_rent_23 rfl (k1 hx1 hB fB mB)
  | true =>
    rw [hx1] at mB
    have mB' := mB
    unfold ModC at mB'
    refine wp_if_eq (t := 17) (n := 13) dX10_rent_10 (by decide) rfl (fun hq => ?_) (fun hq => ?_)
    · skip
      obtain ⟨j, j1, rfl⟩ := inN_get (n := np) (by omega) (of_decide_eq_true hx1).1 (of_decide_eq_true hx1).2
      have hEB := fB.get hE (by omega)
      refine wp_aload_n (n := 18) dX10_rent_17 rfl rfl ?_
      refine wp_getf (n := 21) dX10_rent_18 rfl flX10_22 (by repeat first | assumption | exact ax_set_self _ _ _ | exact ax_newA_self _ _ _ | refine (ax_set_ne _ _ (by omega)).trans ?_ | refine (ax_newA_ne _ _ _ (by omega)).trans ?_) (by rfl) ?_
      refine wp_iload_n (n := 22) dX10_rent_21 rfl rfl ?_
      refine wp_fald (n := 23) (j) dX10_rent_22 rfl (by repeat first | assumption | exact ax_set_self _ _ _ | exact ax_newA_self _ _ _ | refine (ax_set_ne _ _ (by omega)).trans ?_ | refine (ax_newA_ne _ _ _ (by omega)).trans ?_) (by simp only [nI_zero, nI_mul, nI_add]) (by omega) (by omega) ?_
      rw [hre j j1]
      exact wp_freturn dX10_rent_23 rfl (k j j1 rfl hB fB mB)
    · exact absurd rfl hq

theorem s_X10_totalRent (hM : ModC h m a th tl at' bg er ea lr cm) (hR : h.2 a = some (.inl (.int, 5061, .inl R))) (hr : RowR R np qu ra re le ln nb pl tm ne rw bk nh hw nc cw t y) (hI : Inv np qu ra re le ln nb pl tm ne rw bk nh hw nc cw t y) (hA : Γ.2.1 ≤ m) (ham : ¬ a = m) (hE : h.2 (m + 5) = some (.inl (.float, 8, .inr (.inr (.inl RE))))) (hre : ∀ j, j < np → RE j = re j)
    (k : ∀ h', ax_fr m (m + 1) h h' → ModC h' m a 0 tl at' bg er ea lr cm → PF (rntS re np) → Q (.inl (some (.float (rntS re np)))) h') : WP Γ MX10_totalRent (0, 0, 0, 0) 0 [some (.ref m), none, none] [] h Q := by
  have hM0 := hM
  unfold ModC at hM
  obtain ⟨⟨s1, s2, s3, s4, s5, s6, s7, s8, tn, s9, s10⟩, IM, IP, IJ, IR, IC⟩ := hI
  obtain ⟨⟨r0, r1, r2, r3, r4, r5, r6⟩, rM, rP, rJ, rH, rC⟩ := hr
  have pf : ∀ j, j ≤ np → PF (rntS re j) := by
    intro j
    induction j with
    | zero => exact fun _ => ff_zero.pf
    | succ j ih => exact fun hj => (ih (by omega)).add (IP j (by omega)).1
  refine wp_aload_n (n := 1) dX10_totalRent_0 rfl rfl ?_
  refine wp_iconst (n := 2) (v := 0) dX10_totalRent_1 rfl (by decide) ?_
  refine wp_putf (n := 5) dX10_totalRent_2 rfl flX10_50 (by repeat first | assumption | exact ax_set_self _ _ _ | exact ax_newA_self _ _ _ | refine (ax_set_ne _ _ (by omega)).trans ?_ | refine (ax_newA_ne _ _ _ (by omega)).trans ?_) (by omega) (by rfl) rfl rfl ?_
  have f1 : ax_fr m (m + 1) h (ax_set h m (.inr (10, [.ref a, .ref (m + 2), .ref (m + 3), .ref (m + 4), .ref (m + 5), .ref (m + 6), .ref (m + 7), .ref (m + 8), .int 0, .ref (m + 9), .ref (m + 10), .int tl, .int at', .int bg, .int er, .int ea, .int lr, .ref (m + 11), .int cm]))) := ax_fr.set (by omega)
  have m1 := ModC.set h m a 0 tl at' bg er ea lr cm
  have m1' := m1
  unfold ModC at m1'
  have hR1 := f1.get hR (by omega)
  have hE1 := f1.get hE (by omega)
  generalize ax_set h m (.inr (10, [.ref a, .ref (m + 2), .ref (m + 3), .ref (m + 4), .ref (m + 5), .ref (m + 6), .ref (m + 7), .ref (m + 8), .int 0, .ref (m + 9), .ref (m + 10), .int tl, .int at', .int bg, .int er, .int ea, .int lr, .ref (m + 11), .int cm])) = h1 at *
  refine wp_fconst0 (n := 6) dX10_totalRent_5 rfl ?_
  refine wp_fstore_n (n := 7) dX10_totalRent_6 rfl rfl rfl rfl ?_
  refine wp_iconst (n := 8) (v := 0) dX10_totalRent_7 rfl (by decide) ?_
  refine wp_istore_n (n := 9) dX10_totalRent_8 rfl rfl rfl rfl ?_
  suffices L : ∀ j, j ≤ np → WP Γ MX10_totalRent (0, 0, 0, 0) 9 [some (.ref m), some (.float (rntS re j)), some (.int (nI j))] [] h1 Q from L 0 (Nat.zero_le _)
  refine ax_up np (fun j hj ih => ?_)
  refine wp_iload_n (n := 10) dX10_totalRent_9 rfl rfl ?_
  refine wp_aload_n (n := 11) dX10_totalRent_10 rfl rfl ?_
  refine wp_getf (n := 14) dX10_totalRent_11 rfl flX10_9 (by repeat first | assumption | exact ax_set_self _ _ _ | exact ax_newA_self _ _ _ | refine (ax_set_ne _ _ (by omega)).trans ?_ | refine (ax_newA_ne _ _ _ (by omega)).trans ?_) (by rfl) ?_
  refine wp_iconst (n := 15) (v := nI 1) dX10_totalRent_14 rfl (by decide) ?_
  refine wp_iald (n := 16) _ dX10_totalRent_15 rfl (by repeat first | assumption | exact ax_set_self _ _ _ | exact ax_newA_self _ _ _ | refine (ax_set_ne _ _ (by omega)).trans ?_ | refine (ax_newA_ne _ _ _ (by omega)).trans ?_) rfl (by omega) (by decide) ?_
  rw [r1]
  refine wp_icmp_ge (t := 34) (n := 19) dX10_totalRent_16 (by decide) rfl (fun hc => ?_) (fun hc => ?_)
  · rw [nI_le9 (by omega) (by omega)] at hc
    obtain rfl : j = np := by omega
    refine wp_fload_n (n := 35) dX10_totalRent_34 rfl rfl ?_
    exact wp_freturn dX10_totalRent_35 rfl (k h1 f1 m1 (pf _ hj))
  · rw [nI_le9 (by omega) (by omega)] at hc
    have hlt : j < np := by omega
    have ih := ih hlt
    refine wp_fload_n (n := 20) dX10_totalRent_19 rfl rfl ?_
    refine wp_aload_n (n := 21) dX10_totalRent_20 rfl rfl ?_
    refine wp_getf (n := 24) dX10_totalRent_21 rfl flX10_22 (by repeat first | assumption | exact ax_set_self _ _ _ | exact ax_newA_self _ _ _ | refine (ax_set_ne _ _ (by omega)).trans ?_ | refine (ax_newA_ne _ _ _ (by omega)).trans ?_) (by rfl) ?_
    refine wp_iload_n (n := 25) dX10_totalRent_24 rfl rfl ?_
    refine wp_fald (n := 26) (j) dX10_totalRent_25 rfl (by repeat first | assumption | exact ax_set_self _ _ _ | exact ax_newA_self _ _ _ | refine (ax_set_ne _ _ (by omega)).trans ?_ | refine (ax_newA_ne _ _ _ (by omega)).trans ?_) (by simp only [nI_zero, nI_mul, nI_add]) (by omega) (by omega) ?_
    rw [hre j hlt]
    refine wp_fadd (n := 27) dX10_totalRent_26 rfl (n32_of (pf (j + 1) (by omega)).nn) ?_
    refine wp_fstore_n (n := 28) dX10_totalRent_27 rfl rfl rfl rfl ?_
    refine wp_iinc (n := 31) dX10_totalRent_28 rfl rfl (nI_inc j) rfl rfl rfl ?_
    refine wp_goto (t := 9) dX10_totalRent_31 (by decide) ?_
    exact ih


theorem s_X10_rentBehind {j k1 : Nat} (hM : ModC h m a th tl at' bg er ea lr cm) (hR : h.2 a = some (.inl (.int, 5061, .inl R))) (hr : RowR R np qu ra re le ln nb pl tm ne rw bk nh hw nc cw t y) (hn : nb ≤ 200) (hp : np ≤ 8) (hE : h.2 (m + 5) = some (.inl (.float, 8, .inr (.inr (.inl RE))))) (hre : RE j = re j) (hj : j < np) (hk : k1 ≤ 1000) (hpf : PF (re j)) (hra : ∃ r, r ≤ 9999 ∧ ra j = nI r)
    (k : PF (rntA ra re pl nb (nI k1) j) → Q (.inl (some (.float (rntA ra re pl nb (nI k1) j)))) h) : WP Γ MX10_rentBehind (1, 23, 0, 0) 0 [some (.ref m), some (.int (nI j)), some (.int (nI k1))] [] h Q := by
  have hM0 := hM
  unfold ModC at hM
  obtain ⟨⟨r0, r1, r2, r3, r4, r5, r6⟩, rM, rP, rJ, rH, rC⟩ := hr
  have hc := cnt_le pl (nI j) nb
  have hm : cnt pl (nI j) nb * k1 ≤ 200000 := Nat.le_trans (Nat.mul_le_mul (Nat.le_trans hc hn) hk) (by omega)
  have f1 : FF (FP.fdiv (FP.i2f (ra j)) 1120403456) := by
    obtain ⟨r, e1, e2⟩ := hra
    rw [e2]
    refine FF.rate ?_ ?_
    · rw [nI_toInt (by omega)]; omega
    · rw [nI_toInt (by omega)]; omega
  have f2 : FF (FP.i2f (nI (cnt pl (nI j) nb) * nI k1)) := by
    rw [nI_mul]
    refine FF.i2f ?_
    rw [nI_toInt (by omega)]; omega
  have f3 := f1.mul f2
  have f4 := hpf.add f3
  refine wp_aload_n (n := 1) dX10_rentBehind_0 rfl rfl ?_
  refine wp_getf (n := 4) dX10_rentBehind_1 rfl flX10_22 (by repeat first | assumption | exact ax_set_self _ _ _ | exact ax_newA_self _ _ _ | refine (ax_set_ne _ _ (by omega)).trans ?_ | refine (ax_newA_ne _ _ _ (by omega)).trans ?_) (by rfl) ?_
  refine wp_iload_n (n := 5) dX10_rentBehind_4 rfl rfl ?_
  refine wp_fald (n := 6) (j) dX10_rentBehind_5 rfl (by repeat first | assumption | exact ax_set_self _ _ _ | exact ax_newA_self _ _ _ | refine (ax_set_ne _ _ (by omega)).trans ?_ | refine (ax_newA_ne _ _ _ (by omega)).trans ?_) (by simp only [nI_zero, nI_mul, nI_add]) (by omega) (by omega) ?_
  rw [hre]
  refine wp_aload_n (n := 7) dX10_rentBehind_6 rfl rfl ?_
  refine wp_iload_n (n := 8) dX10_rentBehind_7 rfl rfl ?_
  refine wp_iconst (n := 9) (v := nI 1) dX10_rentBehind_8 rfl (by decide) ?_
  refine wp_callV2 (n := 12) (rm' := (0, 0, 0, 0)) rfl dX10_rentBehind_9 rfl mlX10_69 (by repeat first | assumption | exact ax_set_self _ _ _ | exact ax_newA_self _ _ _ | refine (ax_set_ne _ _ (by omega)).trans ?_ | refine (ax_newA_ne _ _ _ (by omega)).trans ?_) rfl rfl rfl rfl rfl ?_
  refine s_X10_pool hM0 hR (by omega) (by omega) ?_
  show WP Γ _ _ _ _ _ _ _
  rw [(rP j hj).2.1]
  refine wp_i2f (n := 13) dX10_rentBehind_12 rfl ?_
  refine wp_ldcf (n := 15) dX10_rentBehind_13 rfl kfX10_145 ?_
  refine wp_fdiv (n := 16) dX10_rentBehind_15 rfl (n32_of f1.pf.nn) ?_
  refine wp_aload_n (n := 17) dX10_rentBehind_16 rfl rfl ?_
  refine wp_iload_n (n := 18) dX10_rentBehind_17 rfl rfl ?_
  refine wp_callV1 (n := 21) (rm' := (0, 0, 0, 0)) rfl dX10_rentBehind_18 rfl mlX10_62 (by repeat first | assumption | exact ax_set_self _ _ _ | exact ax_newA_self _ _ _ | refine (ax_set_ne _ _ (by omega)).trans ?_ | refine (ax_newA_ne _ _ _ (by omega)).trans ?_) rfl rfl rfl rfl rfl ?_
  refine s_X10_balanceOf hM0 hR r0 rM hn ?_
  show WP Γ _ _ _ _ _ _ _
  refine wp_iload_n (n := 22) dX10_rentBehind_21 rfl rfl ?_
  refine wp_imul (n := 23) dX10_rentBehind_22 rfl ?_
  refine wp_i2f (n := 24) dX10_rentBehind_23 rfl ?_
  refine wp_fmul (n := 25) dX10_rentBehind_24 rfl (n32_of f3.nn) ?_
  refine wp_fadd (n := 26) dX10_rentBehind_25 rfl (n32_of f4.nn) ?_
  exact wp_freturn dX10_rentBehind_26 rfl (k f4)

theorem s_X10_rentAhead (hM : ModC h m a th tl at' bg er ea lr cm) (hR : h.2 a = some (.inl (.int, 5061, .inl R))) (hr : RowR R np qu ra re le ln nb pl tm ne rw bk nh hw nc cw t y) (hI : Inv np qu ra re le ln nb pl tm ne rw bk nh hw nc cw t y) (hA : Γ.2.1 ≤ m) (ham : ¬ a = m) (hE : h.2 (m + 5) = some (.inl (.float, 8, .inr (.inr (.inl RE))))) (hre : ∀ j, j < np → RE j = re j)
    (k1 : inN x np = false → ∀ h', ax_fr m (m + 1) h h' → ModC h' m a (nI 1) tl at' bg er ea lr cm → Q (.inl (some (.float FP.fconst0))) h')
    (k2 : inN x np = true → inI z 1 1000 = false → ∀ h', ax_fr m (m + 1) h h' → ModC h' m a (nI 2) tl at' bg er ea lr cm → Q (.inl (some (.float FP.fconst0))) h')
    (k : ∀ j, j < np → x = nI j → ∀ u, 1 ≤ u → u ≤ 1000 → z = nI u → ∀ h', ax_fr m (m + 1) h h' → ModC h' m a (0) tl at' bg er ea lr cm → Q (.inl (some (.float (rntA ra re pl nb (nI u) j)))) h') : WP Γ MX10_rentAhead (2, 45, 0, 0) 0 [some (.ref m), some (.int x), some (.int z)] [] h Q := by
  have hM0 := hM
  unfold ModC at hM
  have hI0 := hI
  have hr0 := hr
  obtain ⟨⟨s1, s2, s3, s4, s5, s6, s7, s8, tn, s9, s10⟩, IM, IP, IJ, IR, IC⟩ := hI
  obtain ⟨⟨r0, r1, r2, r3, r4, r5, r6⟩, rM, rP, rJ, rH, rC⟩ := hr
  refine wp_aload_n (n := 1) dX10_rentAhead_0 rfl rfl ?_
  refine wp_aload_n (n := 2) dX10_rentAhead_1 rfl rfl ?_
  refine wp_iload_n (n := 3) dX10_rentAhead_2 rfl rfl ?_
  refine wp_callV1 (n := 6) (rm' := (1, 22, 0, 0)) rfl dX10_rentAhead_3 rfl mlX10_109 (by repeat first | assumption | exact ax_set_self _ _ _ | exact ax_newA_self _ _ _ | refine (ax_set_ne _ _ (by omega)).trans ?_ | refine (ax_newA_ne _ _ _ (by omega)).trans ?_) rfl rfl rfl rfl rfl ?_
  refine s_X10_isPool hM0 hR r1 s2 ?_
  show WP Γ _ _ _ _ _ _ _
  refine wp_iconst (n := 7) (v := nI 1) dX10_rentAhead_6 rfl (by decide) ?_
  refine wp_callV2 (n := 10) (rm' := (0, 0, 0, 0)) rfl dX10_rentAhead_7 rfl mlX10_113 (by repeat first | assumption | exact ax_set_self _ _ _ | exact ax_newA_self _ _ _ | refine (ax_set_ne _ _ (by omega)).trans ?_ | refine (ax_newA_ne _ _ _ (by omega)).trans ?_) rfl rfl rfl rfl rfl ?_
  refine s_X10_isThrown hM0 hA (fun h1 f1 m1 => ?_)
  show WP Γ _ _ _ _ _ _ _
  have fa1 := f1
  have hR1 := fa1.get hR (by omega)
  cases hx1 : inN x np with
  | false =>
    rw [hx1] at m1
    refine wp_if_ne (t := 29) (n := 13) dX10_rentAhead_10 (by decide) rfl (fun hq => ?_) (fun hq => ?_)
    · refine wp_fconst0 (n := 30) dX10_rentAhead_29 rfl ?_
      exact wp_freturn dX10_rentAhead_30 rfl (k1 hx1 h1 fa1 m1)
    · exact absurd hq (by decide)
  | true =>
    rw [hx1] at m1
    have m1' := m1
    unfold ModC at m1'
    refine wp_if_ne (t := 29) (n := 13) dX10_rentAhead_10 (by decide) rfl (fun hq => ?_) (fun hq => ?_)
    · exact absurd rfl hq
    · skip
      refine wp_aload_n (n := 14) dX10_rentAhead_13 rfl rfl ?_
      refine wp_iload_n (n := 15) dX10_rentAhead_14 rfl rfl ?_
      refine wp_iconst (n := 16) (v := nI 1) dX10_rentAhead_15 rfl (by decide) ?_
      refine wp_sipush (n := 19) (v := nI 1000) dX10_rentAhead_16 rfl (by decide) ?_
      refine wp_callS3 (n := 22) (rm' := (0, 0, 0, 0)) rfl dX10_rentAhead_19 rfl mlX10_54 rfl rfl rfl rfl ?_
      refine s_X10_inJ (p := 1) (q := 1000) rfl rfl ?_
      show WP Γ _ _ _ _ _ _ _
      refine wp_iconst (n := 23) (v := nI 2) dX10_rentAhead_22 rfl (by decide) ?_
      refine wp_callV2 (n := 26) (rm' := (0, 0, 0, 0)) rfl dX10_rentAhead_23 rfl mlX10_113 (by repeat first | assumption | exact ax_set_self _ _ _ | exact ax_newA_self _ _ _ | refine (ax_set_ne _ _ (by omega)).trans ?_ | refine (ax_newA_ne _ _ _ (by omega)).trans ?_) rfl rfl rfl rfl rfl ?_
      refine s_X10_isThrown m1 hA (fun hB f2 mB => ?_)
      show WP Γ _ _ _ _ _ _ _
      have fB := fa1.tr (lo := m) (hi := m + 1) f2 (by omega) (by omega)
      have hRB := fB.get hR (by omega)
      cases hx2 : inI z 1 1000 with
      | false =>
        rw [hx2] at mB
        refine wp_if_eq (t := 31) (n := 29) dX10_rentAhead_26 (by decide) rfl (fun hq => ?_) (fun hq => ?_)
        · exact absurd hq (by decide)
        · refine wp_fconst0 (n := 30) dX10_rentAhead_29 rfl ?_
          exact wp_freturn dX10_rentAhead_30 rfl (k2 hx1 hx2 hB fB mB)
      | true =>
        rw [hx2] at mB
        have mB' := mB
        unfold ModC at mB'
        refine wp_if_eq (t := 31) (n := 29) dX10_rentAhead_26 (by decide) rfl (fun hq => ?_) (fun hq => ?_)
        · skip
          obtain ⟨j, j1, rfl⟩ := inN_get (n := np) (by omega) (of_decide_eq_true hx1).1 (of_decide_eq_true hx1).2
          obtain ⟨u, u1, u2, rfl⟩ := inI_get (a := 1) (b := 1000) (by omega) (by omega) (of_decide_eq_true hx2).1 (of_decide_eq_true hx2).2
          have hEB := fB.get hE (by omega)
          refine wp_aload_n (n := 32) dX10_rentAhead_31 rfl rfl ?_
          refine wp_iload_n (n := 33) dX10_rentAhead_32 rfl rfl ?_
          refine wp_iload_n (n := 34) dX10_rentAhead_33 rfl rfl ?_
          refine wp_callV2 (n := 37) (rm' := (1, 23, 0, 0)) rfl dX10_rentAhead_34 rfl mlX10_147 (by repeat first | assumption | exact ax_set_self _ _ _ | exact ax_newA_self _ _ _ | refine (ax_set_ne _ _ (by omega)).trans ?_ | refine (ax_newA_ne _ _ _ (by omega)).trans ?_) rfl rfl rfl rfl rfl ?_
          refine s_X10_rentBehind mB hRB hr0 s4 s2 hEB (hre j j1) j1 u2 (IP j j1).1 (IP j j1).2.1 (fun pf => ?_)
          show WP Γ _ _ _ _ _ _ _
          exact wp_freturn dX10_rentAhead_37 rfl (k j j1 rfl u u1 u2 rfl hB fB mB)
        · exact absurd rfl hq

theorem s_X10_nextExpiry (hM : ModC h m a th tl at' bg er ea lr cm) (hR : h.2 a = some (.inl (.int, 5061, .inl R))) (hr : RowR R np qu ra re le ln nb pl tm ne rw bk nh hw nc cw t y) (hI : Inv np qu ra re le ln nb pl tm ne rw bk nh hw nc cw t y) (hA : Γ.2.1 ≤ m) (ham : ¬ a = m)
    (k : ∀ h', ax_fr m (m + 1) h h' → ModC h' m a 0 tl at' bg er ea lr cm → Q (.inl (some (.int (oI (fteO hw nh))))) h') : WP Γ MX10_nextExpiry (1, 22, 0, 0) 0 [some (.ref m), none, none] [] h Q := by
  have hM0 := hM
  unfold ModC at hM
  obtain ⟨⟨s1, s2, s3, s4, s5, s6, s7, s8, tn, s9, s10⟩, IM, IP, IJ, IR, IC⟩ := hI
  obtain ⟨⟨r0, r1, r2, r3, r4, r5, r6⟩, rM, rP, rJ, rH, rC⟩ := hr
  refine wp_aload_n (n := 1) dX10_nextExpiry_0 rfl rfl ?_
  refine wp_iconst (n := 2) (v := 0) dX10_nextExpiry_1 rfl (by decide) ?_
  refine wp_putf (n := 5) dX10_nextExpiry_2 rfl flX10_50 (by repeat first | assumption | exact ax_set_self _ _ _ | exact ax_newA_self _ _ _ | refine (ax_set_ne _ _ (by omega)).trans ?_ | refine (ax_newA_ne _ _ _ (by omega)).trans ?_) (by omega) (by rfl) rfl rfl ?_
  have f1 : ax_fr m (m + 1) h (ax_set h m (.inr (10, [.ref a, .ref (m + 2), .ref (m + 3), .ref (m + 4), .ref (m + 5), .ref (m + 6), .ref (m + 7), .ref (m + 8), .int 0, .ref (m + 9), .ref (m + 10), .int tl, .int at', .int bg, .int er, .int ea, .int lr, .ref (m + 11), .int cm]))) := ax_fr.set (by omega)
  have m1 := ModC.set h m a 0 tl at' bg er ea lr cm
  have m1' := m1
  unfold ModC at m1'
  have hR1 := f1.get hR (by omega)
  generalize ax_set h m (.inr (10, [.ref a, .ref (m + 2), .ref (m + 3), .ref (m + 4), .ref (m + 5), .ref (m + 6), .ref (m + 7), .ref (m + 8), .int 0, .ref (m + 9), .ref (m + 10), .int tl, .int at', .int bg, .int er, .int ea, .int lr, .ref (m + 11), .int cm])) = h1 at *
  refine wp_iconst (n := 6) (v := (-1)) dX10_nextExpiry_5 rfl (by decide) ?_
  refine wp_istore_n (n := 7) dX10_nextExpiry_6 rfl rfl rfl rfl ?_
  refine wp_iconst (n := 8) (v := 0) dX10_nextExpiry_7 rfl (by decide) ?_
  refine wp_istore_n (n := 9) dX10_nextExpiry_8 rfl rfl rfl rfl ?_
  suffices L : ∀ j, j ≤ nh → WP Γ MX10_nextExpiry (1, 22, 0, 0) 9 [some (.ref m), some (.int (oI (fteO hw j))), some (.int (nI j))] [] h1 Q from L 0 (Nat.zero_le _)
  refine ax_up nh (fun j hj ih => ?_)
  refine wp_iload_n (n := 10) dX10_nextExpiry_9 rfl rfl ?_
  refine wp_aload_n (n := 11) dX10_nextExpiry_10 rfl rfl ?_
  refine wp_getf (n := 14) dX10_nextExpiry_11 rfl flX10_9 (by repeat first | assumption | exact ax_set_self _ _ _ | exact ax_newA_self _ _ _ | refine (ax_set_ne _ _ (by omega)).trans ?_ | refine (ax_newA_ne _ _ _ (by omega)).trans ?_) (by rfl) ?_
  refine wp_iconst (n := 15) (v := nI 5) dX10_nextExpiry_14 rfl (by decide) ?_
  refine wp_iald (n := 16) _ dX10_nextExpiry_15 rfl (by repeat first | assumption | exact ax_set_self _ _ _ | exact ax_newA_self _ _ _ | refine (ax_set_ne _ _ (by omega)).trans ?_ | refine (ax_newA_ne _ _ _ (by omega)).trans ?_) rfl (by omega) (by decide) ?_
  rw [r5]
  refine wp_icmp_ge (t := 56) (n := 19) dX10_nextExpiry_16 (by decide) rfl (fun hc => ?_) (fun hc => ?_)
  · rw [nI_le9 (by omega) (by omega)] at hc
    obtain rfl : j = nh := by omega
    refine wp_iload_n (n := 57) dX10_nextExpiry_56 rfl rfl ?_
    exact wp_ireturn dX10_nextExpiry_57 rfl rfl (k h1 f1 m1)
  · rw [nI_le9 (by omega) (by omega)] at hc
    have hlt : j < nh := by omega
    have ih := ih hlt
    have yes : (pend hw j = true ∧ fteC hw j (fteO hw j) = true) → WP Γ MX10_nextExpiry (1, 22, 0, 0) 48 [some (.ref m), some (.int (oI (fteO hw j))), some (.int (nI j))] [] h1 Q := by
      intro q
      simp only [fteO, if_pos q] at ih
      refine wp_iload_n (n := 49) dX10_nextExpiry_48 rfl rfl ?_
      refine wp_istore_n (n := 50) dX10_nextExpiry_49 rfl rfl rfl rfl ?_
      refine wp_iinc (n := 53) dX10_nextExpiry_50 rfl rfl (nI_inc j) rfl rfl rfl ?_
      refine wp_goto (t := 9) dX10_nextExpiry_53 (by decide) ?_
      exact ih
    have no : ¬ (pend hw j = true ∧ fteC hw j (fteO hw j) = true) → WP Γ MX10_nextExpiry (1, 22, 0, 0) 50 [some (.ref m), some (.int (oI (fteO hw j))), some (.int (nI j))] [] h1 Q := by
      intro q
      simp only [fteO, if_neg q] at ih
      refine wp_iinc (n := 53) dX10_nextExpiry_50 rfl rfl (nI_inc j) rfl rfl rfl ?_
      refine wp_goto (t := 9) dX10_nextExpiry_53 (by decide) ?_
      exact ih
    refine wp_aload_n (n := 20) dX10_nextExpiry_19 rfl rfl ?_
    refine wp_iload_n (n := 21) dX10_nextExpiry_20 rfl rfl ?_
    refine wp_iconst (n := 22) (v := nI 4) dX10_nextExpiry_21 rfl (by decide) ?_
    refine wp_callV2 (n := 25) (rm' := (0, 0, 0, 0)) rfl dX10_nextExpiry_22 rfl mlX10_58 (by repeat first | assumption | exact ax_set_self _ _ _ | exact ax_newA_self _ _ _ | refine (ax_set_ne _ _ (by omega)).trans ?_ | refine (ax_newA_ne _ _ _ (by omega)).trans ?_) rfl rfl rfl rfl rfl ?_
    refine s_X10_hold m1 hR1 (by omega) (by omega) ?_
    show WP Γ _ _ _ _ _ _ _
    rw [rH j hlt 4 (by omega)]
    refine wp_if_ne (t := 50) (n := 28) dX10_nextExpiry_25 (by decide) rfl (fun hq => ?_) (fun hq => ?_)
    · exact no (fun z => hq (of_decide_eq_true z.1))
    · have hp : pend hw j = true := decide_eq_true hq
      refine wp_iload_n (n := 29) dX10_nextExpiry_28 rfl rfl ?_
      refine wp_iconst (n := 30) (v := (-1)) dX10_nextExpiry_29 rfl (by decide) ?_
      cases ho : fteO hw j with
      | none =>
        rw [ho] at yes no
        refine wp_icmp_eq (t := 48) (n := 33) dX10_nextExpiry_30 (by decide) rfl (fun hs => ?_) (fun hs => ?_)
        · exact yes ⟨hp, rfl⟩
        · exact absurd rfl hs
      | some i =>
        rw [ho] at yes no
        have hi := fteO_lt hw j i ho
        refine wp_icmp_eq (t := 48) (n := 33) dX10_nextExpiry_30 (by decide) rfl (fun hs => ?_) (fun hs => ?_)
        · exact absurd hs (nI_ne_neg (by omega))
        · show WP Γ _ _ _ [some (.ref m), some (.int (nI i)), some (.int (nI j))] _ _ _
          refine wp_aload_n (n := 34) dX10_nextExpiry_33 rfl rfl ?_
          refine wp_iload_n (n := 35) dX10_nextExpiry_34 rfl rfl ?_
          refine wp_iconst (n := 36) (v := nI 3) dX10_nextExpiry_35 rfl (by decide) ?_
          refine wp_callV2 (n := 39) (rm' := (0, 0, 0, 0)) rfl dX10_nextExpiry_36 rfl mlX10_58 (by repeat first | assumption | exact ax_set_self _ _ _ | exact ax_newA_self _ _ _ | refine (ax_set_ne _ _ (by omega)).trans ?_ | refine (ax_newA_ne _ _ _ (by omega)).trans ?_) rfl rfl rfl rfl rfl ?_
          refine s_X10_hold m1 hR1 (by omega) (by omega) ?_
          show WP Γ _ _ _ _ _ _ _
          rw [rH j hlt 3 (by omega)]
          refine wp_aload_n (n := 40) dX10_nextExpiry_39 rfl rfl ?_
          refine wp_iload_n (n := 41) dX10_nextExpiry_40 rfl rfl ?_
          refine wp_iconst (n := 42) (v := nI 3) dX10_nextExpiry_41 rfl (by decide) ?_
          refine wp_callV2 (n := 45) (rm' := (0, 0, 0, 0)) rfl dX10_nextExpiry_42 rfl mlX10_58 (by repeat first | assumption | exact ax_set_self _ _ _ | exact ax_newA_self _ _ _ | refine (ax_set_ne _ _ (by omega)).trans ?_ | refine (ax_newA_ne _ _ _ (by omega)).trans ?_) rfl rfl rfl rfl rfl ?_
          refine s_X10_hold m1 hR1 (by omega) (by omega) ?_
          show WP Γ _ _ _ _ _ _ _
          rw [rH i (by omega) 3 (by omega)]
          refine wp_icmp_ge (t := 50) (n := 48) dX10_nextExpiry_45 (by decide) rfl (fun hu => ?_) (fun hu => ?_)
          · exact no (fun z => absurd (of_decide_eq_true z.2) (Int32.not_lt.mpr hu))
          · exact yes ⟨hp, decide_eq_true (i32_not_le hu)⟩


theorem s_X10_availableAt (hM : ModC h m a th tl at' bg er ea lr cm) (hR : h.2 a = some (.inl (.int, 5061, .inl R))) (hr : RowR R np qu ra re le ln nb pl tm ne rw bk nh hw nc cw t y) (hn : nb ≤ 200) (hh : nh ≤ 60)
    (k : Q (.inl (some (.int (nI (cnt pl x nb) - aSum hw x z nh)))) h) : WP Γ MX10_availableAt (1, 23, 0, 0) 0 [some (.ref m), some (.int x), some (.int z), none, none, none] [] h Q := by
  have hM0 := hM
  unfold ModC at hM
  obtain ⟨⟨r0, r1, r2, r3, r4, r5, r6⟩, rM, rP, rJ, rH, rC⟩ := hr
  refine wp_aload_n (n := 1) dX10_availableAt_0 rfl rfl ?_
  refine wp_iload_n (n := 2) dX10_availableAt_1 rfl rfl ?_
  refine wp_callV1 (n := 5) (rm' := (0, 0, 0, 0)) rfl dX10_availableAt_2 rfl mlX10_62 (by repeat first | assumption | exact ax_set_self _ _ _ | exact ax_newA_self _ _ _ | refine (ax_set_ne _ _ (by omega)).trans ?_ | refine (ax_newA_ne _ _ _ (by omega)).trans ?_) rfl rfl rfl rfl rfl ?_
  refine s_X10_balanceOf hM0 hR r0 rM hn ?_
  show WP Γ _ _ _ _ _ _ _
  refine wp_istore_n (n := 6) dX10_availableAt_5 rfl rfl rfl rfl ?_
  refine wp_iconst (n := 7) (v := 0) dX10_availableAt_6 rfl (by decide) ?_
  refine wp_istore (n := 9) dX10_availableAt_7 rfl rfl rfl rfl ?_
  suffices L : ∀ j, j ≤ nh → ∀ q5, WP Γ MX10_availableAt (1, 23, 0, 0) 9 [some (.ref m), some (.int x), some (.int z), some (.int (nI (cnt pl x nb) - aSum hw x z j)), some (.int (nI j)), q5] [] h Q by
    have := L 0 (Nat.zero_le _) none
    rw [show nI (cnt pl x nb) - aSum hw x z 0 = nI (cnt pl x nb) from Int32.sub_zero _] at this
    exact this
  refine ax_up nh (fun j hj ih => ?_)
  intro q5
  refine wp_lo (lo' := [some (.ref m), some (.int x), some (.int z), some (.int (nI (cnt pl x nb) - aSum hw x z j)), some (.int (nI j)), none]) (fun k v hk => ?_) ?_
  · match k, hk with
    | 0, hk => exact hk
    | 1, hk => exact hk
    | 2, hk => exact hk
    | 3, hk => exact hk
    | 4, hk => exact hk
    | 5, hk => exact absurd hk (by simp [ax_gl])
    | k + 6, hk => exact absurd hk (by simp [ax_gl])
  refine wp_iload (n := 11) dX10_availableAt_9 rfl rfl ?_
  refine wp_aload_n (n := 12) dX10_availableAt_11 rfl rfl ?_
  refine wp_getf (n := 15) dX10_availableAt_12 rfl flX10_9 (by repeat first | assumption | exact ax_set_self _ _ _ | exact ax_newA_self _ _ _ | refine (ax_set_ne _ _ (by omega)).trans ?_ | refine (ax_newA_ne _ _ _ (by omega)).trans ?_) (by rfl) ?_
  refine wp_iconst (n := 16) (v := nI 5) dX10_availableAt_15 rfl (by decide) ?_
  refine wp_iald (n := 17) _ dX10_availableAt_16 rfl (by repeat first | assumption | exact ax_set_self _ _ _ | exact ax_newA_self _ _ _ | refine (ax_set_ne _ _ (by omega)).trans ?_ | refine (ax_newA_ne _ _ _ (by omega)).trans ?_) rfl (by omega) (by decide) ?_
  rw [r5]
  refine wp_icmp_ge (t := 84) (n := 20) dX10_availableAt_17 (by decide) rfl (fun hc => ?_) (fun hc => ?_)
  · rw [nI_le9 (by omega) (by omega)] at hc
    obtain rfl : j = nh := by omega
    refine wp_iload_n (n := 85) dX10_availableAt_84 rfl rfl ?_
    exact wp_ireturn dX10_availableAt_85 rfl rfl (k)
  · rw [nI_le9 (by omega) (by omega)] at hc
    have hlt : j < nh := by omega
    have ih := ih hlt
    have e9 : nI (cnt pl x nb) - aSum hw x z (j + 1) = nI (cnt pl x nb) - aSum hw x z j - (if pend hw j = true ∧ z < hw (j * 5 + 3) ∧ hw (j * 5 + 0) = x then hw (j * 5 + 2) else 0) := by
      show nI (cnt pl x nb) - (aSum hw x z j + _) = _
      rw [i32_sub_add]
    rw [e9] at ih
    have no : ¬ (pend hw j = true ∧ z < hw (j * 5 + 3) ∧ hw (j * 5 + 0) = x) → WP Γ MX10_availableAt (1, 23, 0, 0) 56 [some (.ref m), some (.int x), some (.int z), some (.int (nI (cnt pl x nb) - aSum hw x z j)), some (.int (nI j)), none] [] h Q := by
      intro q
      rw [if_neg q] at ih
      refine wp_iconst (n := 57) (v := 0) dX10_availableAt_56 rfl (by decide) ?_
      refine wp_istore (n := 59) dX10_availableAt_57 rfl rfl rfl rfl ?_
      refine wp_iload_n (n := 60) dX10_availableAt_59 rfl rfl ?_
      refine wp_iload (n := 62) dX10_availableAt_60 rfl rfl ?_
      refine wp_if_eq (t := 75) (n := 65) dX10_availableAt_62 (by decide) rfl (fun hs => ?_) (fun hs => ?_)
      · refine wp_iconst (n := 76) (v := 0) dX10_availableAt_75 rfl (by decide) ?_
        refine wp_isub (n := 77) dX10_availableAt_76 rfl ?_
        refine wp_istore_n (n := 78) dX10_availableAt_77 rfl rfl rfl rfl ?_
        refine wp_iinc (n := 81) dX10_availableAt_78 rfl rfl (nI_inc j) rfl rfl rfl ?_
        refine wp_goto (t := 9) dX10_availableAt_81 (by decide) ?_
        exact ih _
      · exact absurd rfl hs
    refine wp_aload_n (n := 21) dX10_availableAt_20 rfl rfl ?_
    refine wp_iload (n := 23) dX10_availableAt_21 rfl rfl ?_
    refine wp_iconst (n := 24) (v := nI 4) dX10_availableAt_23 rfl (by decide) ?_
    refine wp_callV2 (n := 27) (rm' := (0, 0, 0, 0)) rfl dX10_availableAt_24 rfl mlX10_58 (by repeat first | assumption | exact ax_set_self _ _ _ | exact ax_newA_self _ _ _ | refine (ax_set_ne _ _ (by omega)).trans ?_ | refine (ax_newA_ne _ _ _ (by omega)).trans ?_) rfl rfl rfl rfl rfl ?_
    refine s_X10_hold hM0 hR (by omega) (by omega) ?_
    show WP Γ _ _ _ _ _ _ _
    rw [rH j hlt 4 (by omega)]
    refine wp_if_ne (t := 56) (n := 30) dX10_availableAt_27 (by decide) rfl (fun hq => ?_) (fun hq => ?_)
    · exact no (fun z => hq (of_decide_eq_true z.1))
    · have hp : pend hw j = true := decide_eq_true hq
      refine wp_aload_n (n := 31) dX10_availableAt_30 rfl rfl ?_
      refine wp_iload (n := 33) dX10_availableAt_31 rfl rfl ?_
      refine wp_iconst (n := 34) (v := 0) dX10_availableAt_33 rfl (by decide) ?_
      refine wp_callV2 (n := 37) (rm' := (0, 0, 0, 0)) rfl dX10_availableAt_34 rfl mlX10_58 (by repeat first | assumption | exact ax_set_self _ _ _ | exact ax_newA_self _ _ _ | refine (ax_set_ne _ _ (by omega)).trans ?_ | refine (ax_newA_ne _ _ _ (by omega)).trans ?_) rfl rfl rfl rfl rfl ?_
      refine s_X10_hold (q := 0) hM0 hR (by omega) (by omega) ?_
      show WP Γ _ _ _ _ _ _ _
      refine wp_iload_n (n := 38) dX10_availableAt_37 rfl rfl ?_
      rw [rH j hlt 0 (by omega)]
      refine wp_icmp_ne (t := 56) (n := 41) dX10_availableAt_38 (by decide) rfl (fun hu => ?_) (fun hu => ?_)
      · exact no (fun z => hu z.2.2)
      · refine wp_aload_n (n := 42) dX10_availableAt_41 rfl rfl ?_
        refine wp_iload (n := 44) dX10_availableAt_42 rfl rfl ?_
        refine wp_iconst (n := 45) (v := nI 3) dX10_availableAt_44 rfl (by decide) ?_
        refine wp_callV2 (n := 48) (rm' := (0, 0, 0, 0)) rfl dX10_availableAt_45 rfl mlX10_58 (by repeat first | assumption | exact ax_set_self _ _ _ | exact ax_newA_self _ _ _ | refine (ax_set_ne _ _ (by omega)).trans ?_ | refine (ax_newA_ne _ _ _ (by omega)).trans ?_) rfl rfl rfl rfl rfl ?_
        refine s_X10_hold hM0 hR (by omega) (by omega) ?_
        show WP Γ _ _ _ _ _ _ _
        refine wp_iload_n (n := 49) dX10_availableAt_48 rfl rfl ?_
        rw [rH j hlt 3 (by omega)]
        refine wp_icmp_le (t := 56) (n := 52) dX10_availableAt_49 (by decide) rfl (fun hv => ?_) (fun hv => ?_)
        · exact no (fun z => absurd z.2.1 (Int32.not_lt.mpr hv))
        · rw [if_pos ⟨hp, i32_not_le hv, hu⟩] at ih
          refine wp_iconst (n := 53) (v := nI 1) dX10_availableAt_52 rfl (by decide) ?_
          refine wp_goto (t := 57) dX10_availableAt_53 (by decide) ?_
          refine wp_istore (n := 59) dX10_availableAt_57 rfl rfl rfl rfl ?_
          refine wp_iload_n (n := 60) dX10_availableAt_59 rfl rfl ?_
          refine wp_iload (n := 62) dX10_availableAt_60 rfl rfl ?_
          refine wp_if_eq (t := 75) (n := 65) dX10_availableAt_62 (by decide) rfl (fun hs => ?_) (fun hs => ?_)
          · exact absurd hs (by decide)
          · refine wp_aload_n (n := 66) dX10_availableAt_65 rfl rfl ?_
            refine wp_iload (n := 68) dX10_availableAt_66 rfl rfl ?_
            refine wp_iconst (n := 69) (v := nI 2) dX10_availableAt_68 rfl (by decide) ?_
            refine wp_callV2 (n := 72) (rm' := (0, 0, 0, 0)) rfl dX10_availableAt_69 rfl mlX10_58 (by repeat first | assumption | exact ax_set_self _ _ _ | exact ax_newA_self _ _ _ | refine (ax_set_ne _ _ (by omega)).trans ?_ | refine (ax_newA_ne _ _ _ (by omega)).trans ?_) rfl rfl rfl rfl rfl ?_
            refine s_X10_hold hM0 hR (by omega) (by omega) ?_
            show WP Γ _ _ _ _ _ _ _
            rw [rH j hlt 2 (by omega)]
            refine wp_goto (t := 76) dX10_availableAt_72 (by decide) ?_
            refine wp_isub (n := 77) dX10_availableAt_76 rfl ?_
            refine wp_istore_n (n := 78) dX10_availableAt_77 rfl rfl rfl rfl ?_
            refine wp_iinc (n := 81) dX10_availableAt_78 rfl rfl (nI_inc j) rfl rfl rfl ?_
            refine wp_goto (t := 9) dX10_availableAt_81 (by decide) ?_
            exact ih _

end
