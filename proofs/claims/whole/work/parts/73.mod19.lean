/-! ===== the reference: entries by time ===== -/

/-- n is how many entries there are ahead of a time -/
def bfr (rw : FI) (ne : Nat) (x : Int32) (n : Nat) : Prop := n ≤ ne ∧ ∀ e, e < ne → (e < n ↔ rw (e * 7 + 4) < x)
def upt (rw : FI) (ne : Nat) (x : Int32) (n : Nat) : Prop := n ≤ ne ∧ ∀ e, e < ne → (e < n ↔ ¬ x < rw (e * 7 + 4))
theorem bfr_uniq {rw : FI} {ne : Nat} {x : Int32} {a b : Nat} (h1 : bfr rw ne x a) (h2 : bfr rw ne x b) : a = b := by
  rcases Nat.lt_trichotomy a b with q | q | q
  · have hb := h2.1
    exact absurd ((h1.2 a (by omega)).mpr ((h2.2 a (by omega)).mp q)) (by omega)
  · exact q
  · have hb := h1.1
    exact absurd ((h2.2 b (by omega)).mpr ((h1.2 b (by omega)).mp q)) (by omega)
theorem upt_uniq {rw : FI} {ne : Nat} {x : Int32} {a b : Nat} (h1 : upt rw ne x a) (h2 : upt rw ne x b) : a = b := by
  rcases Nat.lt_trichotomy a b with q | q | q
  · have hb := h2.1
    exact absurd ((h1.2 a (by omega)).mpr ((h2.2 a (by omega)).mp q)) (by omega)
  · exact q
  · have hb := h1.1
    exact absurd ((h2.2 b (by omega)).mpr ((h1.2 b (by omega)).mp q)) (by omega)
theorem bfr_upt {rw : FI} {ne : Nat} {x z : Int32} {a b : Nat} (hxz : x ≤ z) (h1 : bfr rw ne x a) (h2 : upt rw ne z b) : a ≤ b := by
  by_cases q : a ≤ b
  · exact q
  · have ha := h1.1
    have := (h1.2 b (by omega)).mp (by omega)
    exact absurd ((h2.2 b (by omega)).mpr (fun z9 => absurd (Int32.lt_of_le_of_lt hxz z9) (i32_lt_asymm this))) (by omega)
theorem sumI_flat {f : FI} {a : Nat} : ∀ {b : Nat}, a ≤ b → (∀ i, a ≤ i → i < b → f i = 0) → sumI f b = sumI f a
  | 0, h, _ => by rw [show a = 0 by omega]
  | b + 1, h, hz => by
    by_cases q : a = b + 1
    · rw [q]
    · show sumI f b + f b = _
      rw [hz b (by omega) (by omega), Int32.add_zero]
      exact sumI_flat (by omega) (fun i h1 h2 => hz i h1 (by omega))
theorem sumI_zero {f : FI} {b : Nat} (hz : ∀ i, i < b → f i = 0) : sumI f b = 0 := sumI_flat (a := 0) (Nat.zero_le _) (fun i _ h => hz i h)
theorem bkd_succ (nb : Nat) (rw : FI) (x : Int32) (j : Nat) : bkd nb rw x (j + 1) = bkd nb rw x j + chgJ rw x j := by
  unfold bkd
  rw [Int32.add_assoc]
  rfl

section
variable {Γ : GE} {h : AH} {Q : PO} {m a np nb ne nh nc y : Nat} {R : FI} {qu ra le ln pl tm rw hw cw pk : FI} {re : Nat → UInt32} {bk : Nat → Int64} {t x z w v th tl at' bg er ea lr cm : Int32}

theorem s_X10_entriesBefore (hM : ModC h m a th tl at' bg er ea lr cm) (hR : h.2 a = some (.inl (.int, 5061, .inl R))) (r4 : R 4 = nI ne) (rJ : RowJ R ne rw bk) (hne : ne ≤ 300) (hs : ∀ e e', e ≤ e' → e' < ne → rw (e * 7 + 4) ≤ rw (e' * 7 + 4))
    (k : ∀ n, bfr rw ne x n → Q (.inl (some (.int (nI n)))) h) : WP Γ MX10_entriesBefore (1, 22, 0, 0) 0 [some (.ref m), some (.int x), none] [] h Q := by
  have hM0 := hM
  unfold ModC at hM
  refine wp_iconst (n := 1) (v := 0) dX10_entriesBefore_0 rfl (by decide) ?_
  refine wp_istore_n (n := 2) dX10_entriesBefore_1 rfl rfl rfl rfl ?_
  suffices L : ∀ j, j ≤ ne → (∀ e, e < j → rw (e * 7 + 4) < x) → WP Γ MX10_entriesBefore (1, 22, 0, 0) 2 [some (.ref m), some (.int x), some (.int (nI j))] [] h Q from L 0 (Nat.zero_le _) (fun e he => absurd he (Nat.not_lt_zero _))
  refine ax_up ne (fun j hj ih => ?_)
  intro hb
  refine wp_iload_n (n := 3) dX10_entriesBefore_2 rfl rfl ?_
  refine wp_aload_n (n := 4) dX10_entriesBefore_3 rfl rfl ?_
  refine wp_getf (n := 7) dX10_entriesBefore_4 rfl flX10_9 (by repeat first | assumption | exact ax_set_self _ _ _ | exact ax_newA_self _ _ _ | refine (ax_set_ne _ _ (by omega)).trans ?_ | refine (ax_newA_ne _ _ _ (by omega)).trans ?_) (by rfl) ?_
  refine wp_iconst (n := 8) (v := nI 4) dX10_entriesBefore_7 rfl (by decide) ?_
  refine wp_iald (n := 9) _ dX10_entriesBefore_8 rfl (by repeat first | assumption | exact ax_set_self _ _ _ | exact ax_newA_self _ _ _ | refine (ax_set_ne _ _ (by omega)).trans ?_ | refine (ax_newA_ne _ _ _ (by omega)).trans ?_) rfl (by omega) (by decide) ?_
  rw [r4]
  refine wp_icmp_ge (t := 28) (n := 12) dX10_entriesBefore_9 (by decide) rfl (fun hc => ?_) (fun hc => ?_)
  · rw [nI_le9 (by omega) (by omega)] at hc
    obtain rfl : j = ne := by omega
    refine wp_iload_n (n := 29) dX10_entriesBefore_28 rfl rfl ?_
    exact wp_ireturn dX10_entriesBefore_29 rfl rfl (k j ⟨Nat.le_refl _, fun e he => ⟨fun _ => hb e he, fun _ => he⟩⟩)
  · rw [nI_le9 (by omega) (by omega)] at hc
    have hlt : j < ne := by omega
    refine wp_aload_n (n := 13) dX10_entriesBefore_12 rfl rfl ?_
    refine wp_iload_n (n := 14) dX10_entriesBefore_13 rfl rfl ?_
    refine wp_iconst (n := 15) (v := nI 4) dX10_entriesBefore_14 rfl (by decide) ?_
    refine wp_callV2 (n := 18) (rm' := (0, 0, 0, 0)) rfl dX10_entriesBefore_15 rfl mlX10_85 (by repeat first | assumption | exact ax_set_self _ _ _ | exact ax_newA_self _ _ _ | refine (ax_set_ne _ _ (by omega)).trans ?_ | refine (ax_newA_ne _ _ _ (by omega)).trans ?_) rfl rfl rfl rfl rfl ?_
    refine s_X10_entry hM0 hR (by omega) (by omega) ?_
    show WP Γ _ _ _ _ _ _ _
    refine wp_iload_n (n := 19) dX10_entriesBefore_18 rfl rfl ?_
    rw [(rJ j hlt).1 4 (by omega)]
    refine wp_icmp_ge (t := 28) (n := 22) dX10_entriesBefore_19 (by decide) rfl (fun hq => ?_) (fun hq => ?_)
    · refine wp_iload_n (n := 29) dX10_entriesBefore_28 rfl rfl ?_
      refine wp_ireturn dX10_entriesBefore_29 rfl rfl (k j ⟨hj, fun e he => ⟨fun z => hb e z, fun z => ?_⟩⟩)
      by_cases q : e < j
      · exact q
      · exact absurd z (Int32.not_lt.mpr (Int32.le_trans hq (hs j e (by omega) he)))
    · refine wp_iinc (n := 25) dX10_entriesBefore_22 rfl rfl (nI_inc j) rfl rfl rfl ?_
      refine wp_goto (t := 2) dX10_entriesBefore_25 (by decide) ?_
      refine ih hlt (fun e he => ?_)
      by_cases q : e = j
      · rw [q]; exact i32_not_le hq
      · exact hb e (by omega)
theorem i32_lt_succ {x z : Int32} (hx : ¬ x = 2147483647) : z < x + nI 1 ↔ ¬ x < z := by
  have h0 := x.toInt_lt
  have h3 := x.le_toInt
  have h1 : ¬ x.toInt = 2147483647 := fun q => hx (by rw [← Int32.toInt_inj]; exact q)
  have h2 : (nI 1).toInt = 1 := by decide
  rw [Int32.lt_iff_toInt_lt, Int32.lt_iff_toInt_lt, i32_add (by rw [h2]; omega) (by rw [h2]; omega), h2]
  omega
theorem s_X10_entriesUpTo (hM : ModC h m a th tl at' bg er ea lr cm) (hR : h.2 a = some (.inl (.int, 5061, .inl R))) (r4 : R 4 = nI ne) (rJ : RowJ R ne rw bk) (hne : ne ≤ 300) (hs : ∀ e e', e ≤ e' → e' < ne → rw (e * 7 + 4) ≤ rw (e' * 7 + 4))
    (k : ∀ n, upt rw ne x n → Q (.inl (some (.int (nI n)))) h) : WP Γ MX10_entriesUpTo (2, 44, 0, 0) 0 [some (.ref m), some (.int x)] [] h Q := by
  have hM0 := hM
  unfold ModC at hM
  refine wp_iload_n (n := 1) dX10_entriesUpTo_0 rfl rfl ?_
  refine wp_ldcw (n := 4) dX10_entriesUpTo_1 rfl kcX10_298 ?_
  refine wp_icmp_ne (t := 16) (n := 7) dX10_entriesUpTo_4 (by decide) rfl (fun hc => ?_) (fun hc => ?_)
  · have hc : ¬ x = 2147483647 := hc
    refine wp_aload_n (n := 17) dX10_entriesUpTo_16 rfl rfl ?_
    refine wp_iload_n (n := 18) dX10_entriesUpTo_17 rfl rfl ?_
    refine wp_iconst (n := 19) (v := nI 1) dX10_entriesUpTo_18 rfl (by decide) ?_
    refine wp_iadd (n := 20) dX10_entriesUpTo_19 rfl ?_
    refine wp_callV1 (n := 23) (rm' := (1, 22, 0, 0)) rfl dX10_entriesUpTo_20 rfl mlX10_299 (by repeat first | assumption | exact ax_set_self _ _ _ | exact ax_newA_self _ _ _ | refine (ax_set_ne _ _ (by omega)).trans ?_ | refine (ax_newA_ne _ _ _ (by omega)).trans ?_) rfl rfl rfl rfl rfl ?_
    refine s_X10_entriesBefore hM0 hR r4 rJ hne hs (fun n hn => ?_)
    show WP Γ _ _ _ _ _ _ _
    exact wp_ireturn dX10_entriesUpTo_23 rfl rfl (k n ⟨hn.1, fun e he => (hn.2 e he).trans (i32_lt_succ hc)⟩)
  · have hc : x = 2147483647 := hc
    refine wp_aload_n (n := 8) dX10_entriesUpTo_7 rfl rfl ?_
    refine wp_getf (n := 11) dX10_entriesUpTo_8 rfl flX10_9 (by repeat first | assumption | exact ax_set_self _ _ _ | exact ax_newA_self _ _ _ | refine (ax_set_ne _ _ (by omega)).trans ?_ | refine (ax_newA_ne _ _ _ (by omega)).trans ?_) (by rfl) ?_
    refine wp_iconst (n := 12) (v := nI 4) dX10_entriesUpTo_11 rfl (by decide) ?_
    refine wp_iald (n := 13) _ dX10_entriesUpTo_12 rfl (by repeat first | assumption | exact ax_set_self _ _ _ | exact ax_newA_self _ _ _ | refine (ax_set_ne _ _ (by omega)).trans ?_ | refine (ax_newA_ne _ _ _ (by omega)).trans ?_) rfl (by omega) (by decide) ?_
    rw [r4]
    refine wp_goto (t := 23) dX10_entriesUpTo_13 (by decide) ?_
    refine wp_ireturn dX10_entriesUpTo_23 rfl rfl (k ne ⟨Nat.le_refl _, fun e he => ⟨fun _ z => ?_, fun _ => he⟩⟩)
    rw [hc, Int32.lt_iff_toInt_lt] at z
    have h1 := (rw (e * 7 + 4)).toInt_lt
    have h2 : (2147483647 : Int32).toInt = 2147483647 := by decide
    omega

theorem s_X10_bookedAt (hM : ModC h m a th tl at' bg er ea lr cm) (hR : h.2 a = some (.inl (.int, 5061, .inl R))) (hr : RowR R np qu ra re le ln nb pl tm ne rw bk nh hw nc cw t y) (hI : Inv np qu ra re le ln nb pl tm ne rw bk nh hw nc cw t y) (hA : Γ.2.1 ≤ m) (ham : ¬ a = m) 
    (k1 : inN x np = false → ∀ h', ax_fr m (m + 1) h h' → ModC h' m a (nI 1) tl at' bg er ea lr cm → Q (.inl (some (.int 0))) h')
    (k2 : inN x np = true → decide (0 ≤ z) = false → ∀ h', ax_fr m (m + 1) h h' → ModC h' m a (nI 2) tl at' bg er ea lr cm → Q (.inl (some (.int 0))) h')
    (k : ∀ j, j < np → x = nI j → 0 ≤ z → ∀ h', ax_fr m (m + 1) h h' → ModC h' m a (0) tl at' bg er ea lr cm → Q (.inl (some (.int (opn nb (nI j) + netU rw (nI j) z ne)))) h') : WP Γ MX10_bookedAt (3, 65, 0, 0) 0 [some (.ref m), some (.int x), some (.int z)] [] h Q := by
  have hM0 := hM
  unfold ModC at hM
  have hI0 := hI
  have hr0 := hr
  obtain ⟨⟨s1, s2, s3, s4, s5, s6, s7, s8, tn, s9, s10⟩, IM, IP, IJ, IR, IC⟩ := hI
  obtain ⟨⟨r0, r1, r2, r3, r4, r5, r6⟩, rM, rP, rJ, rH, rC⟩ := hr
  refine wp_aload_n (n := 1) dX10_bookedAt_0 rfl rfl ?_
  refine wp_aload_n (n := 2) dX10_bookedAt_1 rfl rfl ?_
  refine wp_iload_n (n := 3) dX10_bookedAt_2 rfl rfl ?_
  refine wp_callV1 (n := 6) (rm' := (1, 22, 0, 0)) rfl dX10_bookedAt_3 rfl mlX10_109 (by repeat first | assumption | exact ax_set_self _ _ _ | exact ax_newA_self _ _ _ | refine (ax_set_ne _ _ (by omega)).trans ?_ | refine (ax_newA_ne _ _ _ (by omega)).trans ?_) rfl rfl rfl rfl rfl ?_
  refine s_X10_isPool hM0 hR r1 s2 ?_
  show WP Γ _ _ _ _ _ _ _
  refine wp_iconst (n := 7) (v := nI 1) dX10_bookedAt_6 rfl (by decide) ?_
  refine wp_callV2 (n := 10) (rm' := (0, 0, 0, 0)) rfl dX10_bookedAt_7 rfl mlX10_113 (by repeat first | assumption | exact ax_set_self _ _ _ | exact ax_newA_self _ _ _ | refine (ax_set_ne _ _ (by omega)).trans ?_ | refine (ax_newA_ne _ _ _ (by omega)).trans ?_) rfl rfl rfl rfl rfl ?_
  refine s_X10_isThrown hM0 hA (fun h1 f1 m1 => ?_)
  show WP Γ _ _ _ _ _ _ _
  have fa1 := f1
  have hR1 := fa1.get hR (by omega)
  cases hx1 : inN x np with
  | false =>
    rw [hx1] at m1
    refine wp_if_ne (t := 30) (n := 13) dX10_bookedAt_10 (by decide) rfl (fun hq => ?_) (fun hq => ?_)
    · refine wp_iconst (n := 31) (v := 0) dX10_bookedAt_30 rfl (by decide) ?_
      exact wp_ireturn dX10_bookedAt_31 rfl rfl (k1 hx1 h1 fa1 m1)
    · exact absurd hq (by decide)
  | true =>
    rw [hx1] at m1
    have m1' := m1
    unfold ModC at m1'
    refine wp_if_ne (t := 30) (n := 13) dX10_bookedAt_10 (by decide) rfl (fun hq => ?_) (fun hq => ?_)
    · exact absurd rfl hq
    · skip
      have J1 : ∀ c9, c9 = decide (0 ≤ z) → WP Γ MX10_bookedAt (3, 65, 0, 0) 23 [some (.ref m), some (.int x), some (.int z)] [.int (bI c9), .ref m] h1 Q := by
        intro c9 hc9
        refine wp_iconst (n := 24) (v := nI 2) dX10_bookedAt_23 rfl (by decide) ?_
        refine wp_callV2 (n := 27) (rm' := (0, 0, 0, 0)) rfl dX10_bookedAt_24 rfl mlX10_113 (by repeat first | assumption | exact ax_set_self _ _ _ | exact ax_newA_self _ _ _ | refine (ax_set_ne _ _ (by omega)).trans ?_ | refine (ax_newA_ne _ _ _ (by omega)).trans ?_) rfl rfl rfl rfl rfl ?_
        refine s_X10_isThrown m1 hA (fun hB f2 mB => ?_)
        show WP Γ _ _ _ _ _ _ _
        have fB := fa1.tr (lo := m) (hi := m + 1) f2 (by omega) (by omega)
        have hRB := fB.get hR (by omega)
        cases c9 with
        | false =>
          have hx2 := hc9.symm
          refine wp_if_eq (t := 32) (n := 30) dX10_bookedAt_27 (by decide) rfl (fun hq => ?_) (fun hq => ?_)
          · exact absurd hq (by decide)
          · refine wp_iconst (n := 31) (v := 0) dX10_bookedAt_30 rfl (by decide) ?_
            exact wp_ireturn dX10_bookedAt_31 rfl rfl (k2 hx1 hx2 hB fB mB)
        | true =>
          have hx2 := hc9.symm
          have mB' := mB
          unfold ModC at mB'
          refine wp_if_eq (t := 32) (n := 30) dX10_bookedAt_27 (by decide) rfl (fun hq => ?_) (fun hq => ?_)
          · skip
            obtain ⟨j, j1, rfl⟩ := inN_get (n := np) (by omega) (of_decide_eq_true hx1).1 (of_decide_eq_true hx1).2
            have g_z := of_decide_eq_true hx2
            have kk := k j j1 rfl g_z hB fB mB
            refine wp_aload_n (n := 33) dX10_bookedAt_32 rfl rfl ?_
            refine wp_iload_n (n := 34) dX10_bookedAt_33 rfl rfl ?_
            refine wp_aload_n (n := 35) dX10_bookedAt_34 rfl rfl ?_
            refine wp_iload_n (n := 36) dX10_bookedAt_35 rfl rfl ?_
            refine wp_callV1 (n := 39) (rm' := (2, 44, 0, 0)) rfl dX10_bookedAt_36 rfl mlX10_302 (by repeat first | assumption | exact ax_set_self _ _ _ | exact ax_newA_self _ _ _ | refine (ax_set_ne _ _ (by omega)).trans ?_ | refine (ax_newA_ne _ _ _ (by omega)).trans ?_) rfl rfl rfl rfl rfl ?_
            refine s_X10_entriesUpTo mB hRB r4 rJ s5 IJ.2.1 (fun n hn => ?_)
            show WP Γ _ _ _ _ _ _ _
            refine wp_callV2 (n := 42) (rm' := (1, 22, 0, 0)) rfl dX10_bookedAt_39 rfl mlX10_281 (by repeat first | assumption | exact ax_set_self _ _ _ | exact ax_newA_self _ _ _ | refine (ax_set_ne _ _ (by omega)).trans ?_ | refine (ax_newA_ne _ _ _ (by omega)).trans ?_) rfl rfl rfl rfl rfl ?_
            refine s_X10_bookedUpTo mB hRB r0 rJ s5 hn.1 ?_
            show WP Γ _ _ _ _ _ _ _
            have e9 : netU rw (nI j) z ne = sumI (chgJ rw (nI j)) n := by
              unfold netU
              rw [sumI_flat (a := n) hn.1 (fun i h1 h2 => if_pos (by
                by_cases q : z < rw (i * 7 + 4)
                · exact q
                · exact absurd ((hn.2 i h2).mpr q) (by omega)))]
              exact sumI_congr (fun i hi => if_neg ((hn.2 i (by have := hn.1; omega)).mp hi))
            rw [e9] at kk
            exact wp_ireturn dX10_bookedAt_42 rfl rfl (kk)
          · exact absurd rfl hq
      refine wp_aload_n (n := 14) dX10_bookedAt_13 rfl rfl ?_
      refine wp_iload_n (n := 15) dX10_bookedAt_14 rfl rfl ?_
      refine wp_if_lt (t := 22) (n := 18) dX10_bookedAt_15 (by decide) rfl (fun hc => ?_) (fun hc => ?_)
      · refine wp_iconst (n := 23) (v := 0) dX10_bookedAt_22 rfl (by decide) ?_
        exact J1 false (decide_eq_false (fun q => absurd hc (Int32.not_lt.mpr q))).symm
      · refine wp_iconst (n := 19) (v := nI 1) dX10_bookedAt_18 rfl (by decide) ?_
        refine wp_goto (t := 23) dX10_bookedAt_19 (by decide) ?_
        exact J1 true (decide_eq_true (i32_not_lt hc)).symm
theorem s_X10_peak (hM : ModC h m a th tl at' bg er ea lr cm) (hR : h.2 a = some (.inl (.int, 5061, .inl R))) (hr : RowR R np qu ra re le ln nb pl tm ne rw bk nh hw nc cw t y) (hI : Inv np qu ra re le ln nb pl tm ne rw bk nh hw nc cw t y) (hA : Γ.2.1 ≤ m) (ham : ¬ a = m) 
    (k1 : inN x np = false → ∀ h', ax_fr m (m + 1) h h' → ModC h' m a (nI 1) tl at' bg er ea lr cm → Q (.inl (some (.int 0))) h')
    (k2 : inN x np = true → decide (0 ≤ z ∧ z ≤ w) = false → ∀ h', ax_fr m (m + 1) h h' → ModC h' m a (nI 2) tl at' bg er ea lr cm → Q (.inl (some (.int 0))) h')
    (k : ∀ j, j < np → x = nI j → 0 ≤ z → z ≤ w → ∀ h', ax_fr m (m + 1) h h' → ModC h' m a (0) tl at' bg er ea lr cm → Q (.inl (some (.int (grtJ rw (nI j) z w ne 0 (opn nb (nI j)) (opn nb (nI j)))))) h') : WP Γ MX10_peak (3, 65, 0, 0) 0 [some (.ref m), some (.int x), some (.int z), some (.int w), none, none] [] h Q := by
  have hM0 := hM
  unfold ModC at hM
  have hI0 := hI
  have hr0 := hr
  obtain ⟨⟨s1, s2, s3, s4, s5, s6, s7, s8, tn, s9, s10⟩, IM, IP, IJ, IR, IC⟩ := hI
  obtain ⟨⟨r0, r1, r2, r3, r4, r5, r6⟩, rM, rP, rJ, rH, rC⟩ := hr
  refine wp_aload_n (n := 1) dX10_peak_0 rfl rfl ?_
  refine wp_aload_n (n := 2) dX10_peak_1 rfl rfl ?_
  refine wp_iload_n (n := 3) dX10_peak_2 rfl rfl ?_
  refine wp_callV1 (n := 6) (rm' := (1, 22, 0, 0)) rfl dX10_peak_3 rfl mlX10_109 (by repeat first | assumption | exact ax_set_self _ _ _ | exact ax_newA_self _ _ _ | refine (ax_set_ne _ _ (by omega)).trans ?_ | refine (ax_newA_ne _ _ _ (by omega)).trans ?_) rfl rfl rfl rfl rfl ?_
  refine s_X10_isPool hM0 hR r1 s2 ?_
  show WP Γ _ _ _ _ _ _ _
  refine wp_iconst (n := 7) (v := nI 1) dX10_peak_6 rfl (by decide) ?_
  refine wp_callV2 (n := 10) (rm' := (0, 0, 0, 0)) rfl dX10_peak_7 rfl mlX10_113 (by repeat first | assumption | exact ax_set_self _ _ _ | exact ax_newA_self _ _ _ | refine (ax_set_ne _ _ (by omega)).trans ?_ | refine (ax_newA_ne _ _ _ (by omega)).trans ?_) rfl rfl rfl rfl rfl ?_
  refine s_X10_isThrown hM0 hA (fun h1 f1 m1 => ?_)
  show WP Γ _ _ _ _ _ _ _
  have fa1 := f1
  have hR1 := fa1.get hR (by omega)
  cases hx1 : inN x np with
  | false =>
    rw [hx1] at m1
    refine wp_if_ne (t := 26) (n := 13) dX10_peak_10 (by decide) rfl (fun hq => ?_) (fun hq => ?_)
    · refine wp_iconst (n := 27) (v := 0) dX10_peak_26 rfl (by decide) ?_
      exact wp_ireturn dX10_peak_27 rfl rfl (k1 hx1 h1 fa1 m1)
    · exact absurd hq (by decide)
  | true =>
    rw [hx1] at m1
    have m1' := m1
    unfold ModC at m1'
    refine wp_if_ne (t := 26) (n := 13) dX10_peak_10 (by decide) rfl (fun hq => ?_) (fun hq => ?_)
    · exact absurd rfl hq
    · skip
      refine wp_aload_n (n := 14) dX10_peak_13 rfl rfl ?_
      refine wp_iload_n (n := 15) dX10_peak_14 rfl rfl ?_
      refine wp_iload_n (n := 16) dX10_peak_15 rfl rfl ?_
      refine wp_callS2 (n := 19) (rm' := (0, 0, 0, 0)) rfl dX10_peak_16 rfl mlX10_305 rfl rfl rfl rfl ?_
      refine s_X10_isInterval ?_
      show WP Γ _ _ _ _ _ _ _
      refine wp_iconst (n := 20) (v := nI 2) dX10_peak_19 rfl (by decide) ?_
      refine wp_callV2 (n := 23) (rm' := (0, 0, 0, 0)) rfl dX10_peak_20 rfl mlX10_113 (by repeat first | assumption | exact ax_set_self _ _ _ | exact ax_newA_self _ _ _ | refine (ax_set_ne _ _ (by omega)).trans ?_ | refine (ax_newA_ne _ _ _ (by omega)).trans ?_) rfl rfl rfl rfl rfl ?_
      refine s_X10_isThrown m1 hA (fun hB f2 mB => ?_)
      show WP Γ _ _ _ _ _ _ _
      have fB := fa1.tr (lo := m) (hi := m + 1) f2 (by omega) (by omega)
      have hRB := fB.get hR (by omega)
      cases hx2 : decide (0 ≤ z ∧ z ≤ w) with
      | false =>
        rw [hx2] at mB
        refine wp_if_eq (t := 28) (n := 26) dX10_peak_23 (by decide) rfl (fun hq => ?_) (fun hq => ?_)
        · exact absurd hq (by decide)
        · refine wp_iconst (n := 27) (v := 0) dX10_peak_26 rfl (by decide) ?_
          exact wp_ireturn dX10_peak_27 rfl rfl (k2 hx1 hx2 hB fB mB)
      | true =>
        rw [hx2] at mB
        have mB' := mB
        unfold ModC at mB'
        refine wp_if_eq (t := 28) (n := 26) dX10_peak_23 (by decide) rfl (fun hq => ?_) (fun hq => ?_)
        · skip
          obtain ⟨j, j1, rfl⟩ := inN_get (n := np) (by omega) (of_decide_eq_true hx1).1 (of_decide_eq_true hx1).2
          have g_z1 := (of_decide_eq_true hx2).1
          have g_z2 := (of_decide_eq_true hx2).2
          have kk := k j j1 rfl g_z1 g_z2 hB fB mB
          refine wp_aload_n (n := 29) dX10_peak_28 rfl rfl ?_
          refine wp_iload_n (n := 30) dX10_peak_29 rfl rfl ?_
          refine wp_aload_n (n := 31) dX10_peak_30 rfl rfl ?_
          refine wp_iload_n (n := 32) dX10_peak_31 rfl rfl ?_
          refine wp_callV1 (n := 35) (rm' := (1, 22, 0, 0)) rfl dX10_peak_32 rfl mlX10_299 (by repeat first | assumption | exact ax_set_self _ _ _ | exact ax_newA_self _ _ _ | refine (ax_set_ne _ _ (by omega)).trans ?_ | refine (ax_newA_ne _ _ _ (by omega)).trans ?_) rfl rfl rfl rfl rfl ?_
          refine s_X10_entriesBefore mB hRB r4 rJ s5 IJ.2.1 (fun n1 hn1 => ?_)
          show WP Γ _ _ _ _ _ _ _
          refine wp_callV2 (n := 38) (rm' := (1, 22, 0, 0)) rfl dX10_peak_35 rfl mlX10_281 (by repeat first | assumption | exact ax_set_self _ _ _ | exact ax_newA_self _ _ _ | refine (ax_set_ne _ _ (by omega)).trans ?_ | refine (ax_newA_ne _ _ _ (by omega)).trans ?_) rfl rfl rfl rfl rfl ?_
          refine s_X10_bookedUpTo mB hRB r0 rJ s5 hn1.1 ?_
          show WP Γ _ _ _ _ _ _ _
          refine wp_istore (n := 40) dX10_peak_38 rfl rfl rfl rfl ?_
          refine wp_aload_n (n := 41) dX10_peak_40 rfl rfl ?_
          refine wp_iload_n (n := 42) dX10_peak_41 rfl rfl ?_
          refine wp_callV1 (n := 45) (rm' := (1, 22, 0, 0)) rfl dX10_peak_42 rfl mlX10_299 (by repeat first | assumption | exact ax_set_self _ _ _ | exact ax_newA_self _ _ _ | refine (ax_set_ne _ _ (by omega)).trans ?_ | refine (ax_newA_ne _ _ _ (by omega)).trans ?_) rfl rfl rfl rfl rfl ?_
          refine s_X10_entriesBefore mB hRB r4 rJ s5 IJ.2.1 (fun n3 hn3 => ?_)
          show WP Γ _ _ _ _ _ _ _
          obtain rfl : n1 = n3 := bfr_uniq hn1 hn3
          refine wp_iconst (n := 46) (v := nI 1) dX10_peak_45 rfl (by decide) ?_
          refine wp_iadd (n := 47) dX10_peak_46 rfl ?_
          rw [nI_add]
          refine wp_istore (n := 49) dX10_peak_47 rfl rfl rfl rfl ?_
          have b1 := hn1.1
          have A : ∀ g e, e + g = ne → e ≤ n1 → grtJ rw (nI j) z w g e (bkd nb rw (nI j) e) (bkd nb rw (nI j) e) = grtJ rw (nI j) z w (ne - n1) n1 (bkd nb rw (nI j) n1) (bkd nb rw (nI j) n1) := by
            intro g
            induction g with
            | zero =>
              intro e h1 h2
              obtain rfl : e = n1 := by omega
              rw [show ne - e = 0 by omega]
            | succ g ih =>
              intro e h1 h2
              by_cases q : e = n1
              · subst q
                rw [show ne - e = g + 1 by omega]
              · have q2 := (hn1.2 e (by omega)).mp (by omega)
                rw [← ih (e + 1) (by omega) (by omega), bkd_succ]
                show (if w < rw (e * 7 + 4) then _ else _) = _
                rw [if_neg (fun z9 => absurd (Int32.lt_of_le_of_lt g_z2 z9) (i32_lt_asymm q2)), if_pos q2]
          have A0 := A ne 0 (by omega) (by omega)
          rw [show bkd nb rw (nI j) 0 = opn nb (nI j) from Int32.add_zero _] at A0
          rw [A0] at kk
          have L : ∀ g e b9, e + g = ne → n1 ≤ e → grtJ rw (nI j) z w g e (bkd nb rw (nI j) e) b9 = grtJ rw (nI j) z w (ne - n1) n1 (bkd nb rw (nI j) n1) (bkd nb rw (nI j) n1) → (∀ n2, upt rw ne w n2 → e ≤ n2) → WP Γ MX10_peak (3, 65, 0, 0) 49 [some (.ref m), some (.int (nI j)), some (.int z), some (.int w), some (.int b9), some (.int (nI (e + 1)))] [] hB Q := by
            intro g
            induction g with
            | zero =>
              intro e b9 h1 h2 h3 h4
              refine wp_iload (n := 51) dX10_peak_49 rfl rfl ?_
              refine wp_aload_n (n := 52) dX10_peak_51 rfl rfl ?_
              refine wp_iload_n (n := 53) dX10_peak_52 rfl rfl ?_
              refine wp_callV1 (n := 56) (rm' := (2, 44, 0, 0)) rfl dX10_peak_53 rfl mlX10_302 (by repeat first | assumption | exact ax_set_self _ _ _ | exact ax_newA_self _ _ _ | refine (ax_set_ne _ _ (by omega)).trans ?_ | refine (ax_newA_ne _ _ _ (by omega)).trans ?_) rfl rfl rfl rfl rfl ?_
              refine s_X10_entriesUpTo mB hRB r4 rJ s5 IJ.2.1 (fun n2 hn2 => ?_)
              show WP Γ _ _ _ _ _ _ _
              have := hn2.1
              refine wp_icmp_gt (t := 79) (n := 59) dX10_peak_56 (by decide) rfl (fun hc => ?_) (fun hc => ?_)
              · refine wp_iload (n := 81) dX10_peak_79 rfl rfl ?_
                rw [← h3] at kk
                exact wp_ireturn dX10_peak_81 rfl rfl (kk)
              · exact absurd ((nI_lt9 (by omega) (by omega)).mpr (show n2 < e + 1 by omega)) hc
            | succ g ih =>
              intro e b9 h1 h2 h3 h4
              refine wp_iload (n := 51) dX10_peak_49 rfl rfl ?_
              refine wp_aload_n (n := 52) dX10_peak_51 rfl rfl ?_
              refine wp_iload_n (n := 53) dX10_peak_52 rfl rfl ?_
              refine wp_callV1 (n := 56) (rm' := (2, 44, 0, 0)) rfl dX10_peak_53 rfl mlX10_302 (by repeat first | assumption | exact ax_set_self _ _ _ | exact ax_newA_self _ _ _ | refine (ax_set_ne _ _ (by omega)).trans ?_ | refine (ax_newA_ne _ _ _ (by omega)).trans ?_) rfl rfl rfl rfl rfl ?_
              refine s_X10_entriesUpTo mB hRB r4 rJ s5 IJ.2.1 (fun n2 hn2 => ?_)
              show WP Γ _ _ _ _ _ _ _
              have b2 := hn2.1
              have h4 := h4 n2 hn2
              have h3 : (if w < rw (e * 7 + 4) then b9 else grtJ rw (nI j) z w g (e + 1) (bkd nb rw (nI j) e + chgJ rw (nI j) e) (if rw (e * 7 + 4) < z then bkd nb rw (nI j) e + chgJ rw (nI j) e else (if b9 < bkd nb rw (nI j) e + chgJ rw (nI j) e then bkd nb rw (nI j) e + chgJ rw (nI j) e else b9))) = grtJ rw (nI j) z w (ne - n1) n1 (bkd nb rw (nI j) n1) (bkd nb rw (nI j) n1) := h3
              refine wp_icmp_gt (t := 79) (n := 59) dX10_peak_56 (by decide) rfl (fun hc => ?_) (fun hc => ?_)
              · have hlt := (nI_lt9 (by omega) (by omega)).mp hc
                have q : w < rw (e * 7 + 4) := by
                  by_cases q : w < rw (e * 7 + 4)
                  · exact q
                  · exact absurd ((hn2.2 e (by omega)).mpr q) (by omega)
                rw [if_pos q] at h3
                refine wp_iload (n := 81) dX10_peak_79 rfl rfl ?_
                rw [← h3] at kk
                exact wp_ireturn dX10_peak_81 rfl rfl (kk)
              · have hlt : ¬ n2 < e + 1 := fun q => hc ((nI_lt9 (by omega) (by omega)).mpr q)
                have q := (hn2.2 e (by omega)).mp (by omega)
                have q2 : ¬ rw (e * 7 + 4) < z := fun z9 => absurd ((hn1.2 e (by omega)).mpr z9) (by omega)
                rw [if_neg q, if_neg q2, ← bkd_succ] at h3
                refine wp_iload (n := 61) dX10_peak_59 rfl rfl ?_
                refine wp_aload_n (n := 62) dX10_peak_61 rfl rfl ?_
                refine wp_iload_n (n := 63) dX10_peak_62 rfl rfl ?_
                refine wp_iload (n := 65) dX10_peak_63 rfl rfl ?_
                refine wp_callV2 (n := 68) (rm' := (1, 22, 0, 0)) rfl dX10_peak_65 rfl mlX10_281 (by repeat first | assumption | exact ax_set_self _ _ _ | exact ax_newA_self _ _ _ | refine (ax_set_ne _ _ (by omega)).trans ?_ | refine (ax_newA_ne _ _ _ (by omega)).trans ?_) rfl rfl rfl rfl rfl ?_
                refine s_X10_bookedUpTo mB hRB r0 rJ s5 (by omega) ?_
                show WP Γ _ _ _ _ _ _ _
                refine wp_mmax (n := 71) dX10_peak_68 rfl mxX10_287 ax_mxs ax_mi ax_mxc rfl rfl ?_
                refine wp_istore (n := 73) dX10_peak_71 rfl rfl rfl rfl ?_
                refine wp_iinc (n := 76) dX10_peak_73 rfl rfl (nI_inc (e + 1)) rfl rfl rfl ?_
                refine wp_goto (t := 49) dX10_peak_76 (by decide) ?_
                exact ih (e + 1) _ (by omega) (by omega) h3 (fun n4 hn4 => by rw [upt_uniq hn4 hn2]; omega)
          exact L (ne - n1) n1 _ (by omega) (Nat.le_refl _) rfl (fun n2 hn2 => bfr_upt g_z2 hn1 hn2)
        · exact absurd rfl hq
end
