/-! ===== the reference: reconcile ===== -/
section
variable {Γ : GE} {h : AH} {Q : PO} {m a np nb ne nh nc y : Nat} {R : FI} {qu ra le ln pl tm rw hw cw pk : FI} {re : Nat → UInt32} {bk : Nat → Int64} {t x z w v th tl at' bg er ea lr cm : Int32}

theorem adjG_some {g f o : Nat} (h1 : posO nb pl rw ne np (nI 1) = some f) (h2 : posO nb pl rw ne np (-1) = some o) : adjG nb pl np t (g + 1) rw ne = if 300 ≤ ne then (rw, ne, true) else adjG nb pl np t g (upd7 rw ne (nI f) (nI o) (adjC nb pl rw ne f o) 0 t (nI 2) (-1)) (ne + 1) := by
  simp only [adjG, h1, h2]
theorem s_X10_unequal {s : Int32} (hM : ModC h m a th tl at' bg er ea lr cm) (hR : h.2 a = some (.inl (.int, 5061, .inl R))) (hr : RowR R np qu ra re le ln nb pl tm ne rw bk nh hw nc cw t y) (hS : InvS np nb ne nh nc y t)
    (k : Q (.inl (some (.int (oI (posO nb pl rw ne np s))))) h) : WP Γ MX10_unequal (3, 67, 0, 0) 0 [some (.ref m), some (.int s), none] [] h Q := by
  have hM0 := hM
  unfold ModC at hM
  have hr0 := hr
  obtain ⟨s1, s2, s3, s4, s5, s6, s7, s8, tn, s9, s10⟩ := hS
  obtain ⟨⟨r0, r1, r2, r3, r4, r5, r6⟩, rM, rP, rJ, rH, rC⟩ := hr
  unfold posO at k
  refine wp_iconst (n := 1) (v := 0) dX10_unequal_0 rfl (by decide) ?_
  refine wp_istore_n (n := 2) dX10_unequal_1 rfl rfl rfl rfl ?_
  suffices L : ∀ g j, j + g = np → Q (.inl (some (.int (oI (fstG (fun j => decide (0 < dif nb pl rw ne j * s)) g j))))) h → WP Γ MX10_unequal (3, 67, 0, 0) 2 [some (.ref m), some (.int s), some (.int (nI j))] [] h Q from L np 0 (by omega) k
  intro g
  induction g with
  | zero =>
    intro j hj k
    refine wp_iload_n (n := 3) dX10_unequal_2 rfl rfl ?_
    refine wp_aload_n (n := 4) dX10_unequal_3 rfl rfl ?_
    refine wp_getf (n := 7) dX10_unequal_4 rfl flX10_9 (by repeat first | assumption | exact ax_set_self _ _ _ | exact ax_newA_self _ _ _ | refine (ax_set_ne _ _ (by omega)).trans ?_ | refine (ax_newA_ne _ _ _ (by omega)).trans ?_) (by rfl) ?_
    refine wp_iconst (n := 8) (v := nI 1) dX10_unequal_7 rfl (by decide) ?_
    refine wp_iald (n := 9) _ dX10_unequal_8 rfl (by repeat first | assumption | exact ax_set_self _ _ _ | exact ax_newA_self _ _ _ | refine (ax_set_ne _ _ (by omega)).trans ?_ | refine (ax_newA_ne _ _ _ (by omega)).trans ?_) rfl (by omega) (by decide) ?_
    rw [r1]
    refine wp_icmp_ge (t := 36) (n := 12) dX10_unequal_9 (by decide) rfl (fun hc => ?_) (fun hc => ?_)
    · refine wp_iconst (n := 37) (v := (-1)) dX10_unequal_36 rfl (by decide) ?_
      exact wp_ireturn dX10_unequal_37 rfl rfl (k)
    · rw [nI_le9 (by omega) (by omega)] at hc
      exact absurd (by omega) hc
  | succ g ih =>
    intro j hj k
    refine wp_iload_n (n := 3) dX10_unequal_2 rfl rfl ?_
    refine wp_aload_n (n := 4) dX10_unequal_3 rfl rfl ?_
    refine wp_getf (n := 7) dX10_unequal_4 rfl flX10_9 (by repeat first | assumption | exact ax_set_self _ _ _ | exact ax_newA_self _ _ _ | refine (ax_set_ne _ _ (by omega)).trans ?_ | refine (ax_newA_ne _ _ _ (by omega)).trans ?_) (by rfl) ?_
    refine wp_iconst (n := 8) (v := nI 1) dX10_unequal_7 rfl (by decide) ?_
    refine wp_iald (n := 9) _ dX10_unequal_8 rfl (by repeat first | assumption | exact ax_set_self _ _ _ | exact ax_newA_self _ _ _ | refine (ax_set_ne _ _ (by omega)).trans ?_ | refine (ax_newA_ne _ _ _ (by omega)).trans ?_) rfl (by omega) (by decide) ?_
    rw [r1]
    refine wp_icmp_ge (t := 36) (n := 12) dX10_unequal_9 (by decide) rfl (fun hc => ?_) (fun hc => ?_)
    · rw [nI_le9 (by omega) (by omega)] at hc
      exact absurd hc (by omega)
    · refine wp_iload_n (n := 13) dX10_unequal_12 rfl rfl ?_
      refine wp_aload_n (n := 14) dX10_unequal_13 rfl rfl ?_
      refine wp_iload_n (n := 15) dX10_unequal_14 rfl rfl ?_
      refine wp_callV1 (n := 18) (rm' := (2, 46, 0, 0)) rfl dX10_unequal_15 rfl mlX10_284 (by repeat first | assumption | exact ax_set_self _ _ _ | exact ax_newA_self _ _ _ | refine (ax_set_ne _ _ (by omega)).trans ?_ | refine (ax_newA_ne _ _ _ (by omega)).trans ?_) rfl rfl rfl rfl rfl ?_
      refine s_X10_bookedOf hM0 hR hr0 s5 ?_
      show WP Γ _ _ _ _ _ _ _
      refine wp_aload_n (n := 19) dX10_unequal_18 rfl rfl ?_
      refine wp_iload_n (n := 20) dX10_unequal_19 rfl rfl ?_
      refine wp_callV1 (n := 23) (rm' := (0, 0, 0, 0)) rfl dX10_unequal_20 rfl mlX10_62 (by repeat first | assumption | exact ax_set_self _ _ _ | exact ax_newA_self _ _ _ | refine (ax_set_ne _ _ (by omega)).trans ?_ | refine (ax_newA_ne _ _ _ (by omega)).trans ?_) rfl rfl rfl rfl rfl ?_
      refine s_X10_balanceOf hM0 hR r0 rM s4 ?_
      show WP Γ _ _ _ _ _ _ _
      refine wp_isub (n := 24) dX10_unequal_23 rfl ?_
      rw [show bkd nb rw (nI j) ne - nI (cnt pl (nI j) nb) = dif nb pl rw ne j from rfl]
      refine wp_imul (n := 25) dX10_unequal_24 rfl ?_
      rw [Int32.mul_comm]
      refine wp_if_le (t := 30) (n := 28) dX10_unequal_25 (by decide) rfl (fun hq => ?_) (fun hq => ?_)
      · refine wp_iinc (n := 33) dX10_unequal_30 rfl rfl (nI_inc j) rfl rfl rfl ?_
        refine wp_goto (t := 2) dX10_unequal_33 (by decide) ?_
        have e : decide (0 < dif nb pl rw ne j * s) = false := decide_eq_false (Int32.not_lt.mpr hq)
        simp only [fstG, e, Bool.false_eq_true, if_false] at k
        exact ih (j + 1) (by omega) k
      · have e : decide (0 < dif nb pl rw ne j * s) = true := decide_eq_true (i32_not_le hq)
        simp only [fstG, e, if_true] at k
        refine wp_iload_n (n := 29) dX10_unequal_28 rfl rfl ?_
        exact wp_ireturn dX10_unequal_29 rfl rfl (k)


theorem s_X10_reconcile (hM : ModC h m a th tl at' bg er ea lr cm) (hR : h.2 a = some (.inl (.int, 5061, .inl R))) (hr : RowR R np qu ra re le ln nb pl tm ne rw bk nh hw nc cw t y) (hI : Inv np qu ra re le ln nb pl tm ne rw bk nh hw nc cw t y) (hA : Γ.2.1 ≤ m) (ham : ¬ a = m) (hAa : Γ.2.1 ≤ a)
    (k : ∀ h' R', h'.1 = h.1 → (∀ c, ¬ c = m → ¬ c = a → h'.2 c = h.2 c) → ModC h' m a 0 tl at' bg er ea lr cm → h'.2 a = some (.inl (.int, 5061, .inl R')) → (∀ bk', (∀ e d, e < (adjG nb pl np t 8 rw ne).2.1 → d < 200 → blk bk' e d = (decide (e < ne) && blk bk e d)) → RowR R' np qu ra re le ln nb pl tm (if (adjG nb pl np t 8 rw ne).2.2 = true then ne else (adjG nb pl np t 8 rw ne).2.1) ((adjG nb pl np t 8 rw ne).1) bk' nh hw nc cw t y ∧ Inv np qu ra re le ln nb pl tm (if (adjG nb pl np t 8 rw ne).2.2 = true then ne else (adjG nb pl np t 8 rw ne).2.1) ((adjG nb pl np t 8 rw ne).1) bk' nh hw nc cw t y) → Q (.inl (some (.int (if (adjG nb pl np t 8 rw ne).2.2 = true then -2 else nI (adjG nb pl np t 8 rw ne).2.1 - nI ne)))) h') : WP Γ MX10_reconcile (4, 89, 0, 0) 0 [some (.ref m), none, none, none, none] [] h Q := by
  have hM0 := hM
  unfold ModC at hM
  have hI0 := hI
  have hr0 := hr
  obtain ⟨⟨s1, s2, s3, s4, s5, s6, s7, s8, tn, s9, s10⟩, IM, IP, IJ, IR, IC⟩ := hI
  obtain ⟨⟨r0, r1, r2, r3, r4, r5, r6⟩, rM, rP, rJ, rH, rC⟩ := hr
  refine wp_aload_n (n := 1) dX10_reconcile_0 rfl rfl ?_
  refine wp_iconst (n := 2) (v := 0) dX10_reconcile_1 rfl (by decide) ?_
  refine wp_putf (n := 5) dX10_reconcile_2 rfl flX10_50 (by repeat first | assumption | exact ax_set_self _ _ _ | exact ax_newA_self _ _ _ | refine (ax_set_ne _ _ (by omega)).trans ?_ | refine (ax_newA_ne _ _ _ (by omega)).trans ?_) (by omega) (by rfl) rfl rfl ?_
  have f1 : ax_fr m (m + 1) h (ax_set h m (.inr (10, [.ref a, .ref (m + 2), .ref (m + 3), .ref (m + 4), .ref (m + 5), .ref (m + 6), .ref (m + 7), .ref (m + 8), .int 0, .ref (m + 9), .ref (m + 10), .int tl, .int at', .int bg, .int er, .int ea, .int lr, .ref (m + 11), .int cm]))) := ax_fr.set (by omega)
  have m1 := ModC.set h m a 0 tl at' bg er ea lr cm
  have m1' := m1
  unfold ModC at m1'
  have hR1 := f1.get hR (by omega)
  generalize ax_set h m (.inr (10, [.ref a, .ref (m + 2), .ref (m + 3), .ref (m + 4), .ref (m + 5), .ref (m + 6), .ref (m + 7), .ref (m + 8), .int 0, .ref (m + 9), .ref (m + 10), .int tl, .int at', .int bg, .int er, .int ea, .int lr, .ref (m + 11), .int cm])) = h1 at *
  refine wp_aload_n (n := 6) dX10_reconcile_5 rfl rfl ?_
  refine wp_getf (n := 9) dX10_reconcile_6 rfl flX10_9 (by repeat first | assumption | exact ax_set_self _ _ _ | exact ax_newA_self _ _ _ | refine (ax_set_ne _ _ (by omega)).trans ?_ | refine (ax_newA_ne _ _ _ (by omega)).trans ?_) (by rfl) ?_
  refine wp_iconst (n := 10) (v := nI 4) dX10_reconcile_9 rfl (by decide) ?_
  refine wp_iald (n := 11) _ dX10_reconcile_10 rfl (by repeat first | assumption | exact ax_set_self _ _ _ | exact ax_newA_self _ _ _ | refine (ax_set_ne _ _ (by omega)).trans ?_ | refine (ax_newA_ne _ _ _ (by omega)).trans ?_) rfl (by omega) (by decide) ?_
  rw [r4]
  refine wp_istore_n (n := 12) dX10_reconcile_11 rfl rfl rfl rfl ?_
  refine wp_aload_n (n := 13) dX10_reconcile_12 rfl rfl ?_
  refine wp_iconst (n := 14) (v := nI 1) dX10_reconcile_13 rfl (by decide) ?_
  refine wp_callV1 (n := 17) (rm' := (3, 67, 0, 0)) rfl dX10_reconcile_14 rfl mlX10_311 (by repeat first | assumption | exact ax_set_self _ _ _ | exact ax_newA_self _ _ _ | refine (ax_set_ne _ _ (by omega)).trans ?_ | refine (ax_newA_ne _ _ _ (by omega)).trans ?_) rfl rfl rfl rfl rfl ?_
  refine s_X10_unequal m1 hR1 hr0 hI0.1 ?_
  show WP Γ _ _ _ _ _ _ _
  refine wp_istore_n (n := 18) dX10_reconcile_17 rfl rfl rfl rfl ?_
  have L : ∀ g rw1 ne1, ∀ h2 R2 q3 q4, ax_fr a (a + 1) h1 h2 → h2.2 a = some (.inl (.int, 5061, .inl R2)) → RowR R2 np qu ra re le ln nb pl tm ne1 rw1 (bkZ bk ne) nh hw nc cw t y → Inv np qu ra re le ln nb pl tm ne1 rw1 (bkZ bk ne) nh hw nc cw t y → cntB (nzB nb pl rw1 ne1) np ≤ g → adjG nb pl np t 8 rw ne = adjG nb pl np t g rw1 ne1 → ne ≤ ne1 → (∀ i, i < ne * 7 → rw1 i = rw i) → WP Γ MX10_reconcile (4, 89, 0, 0) 18 [some (.ref m), some (.int (nI ne)), some (.int (oI (posO nb pl rw1 ne1 np (nI 1)))), q3, q4] [] h2 Q := by
    intro g
    induction g with
    | zero =>
      intro rw1 ne1 h2 R2 q3 q4 f2 hR2 hr2 hI2 hz hA9 hle hrw
      have hno : posO nb pl rw1 ne1 np (nI 1) = none := by
        cases q : posO nb pl rw1 ne1 np (nI 1) with
        | none => rfl
        | some f =>
          obtain ⟨hf, hp⟩ := pos_some q
          have z0 : (0 : Int32).toInt = 0 := rfl
          have := cntB_lt (p := fun _ => false) (q := nzB nb pl rw1 ne1) hf (fun b hb h => by cases h) (decide_eq_true (fun z => by rw [z] at hp; omega)) (by decide)
          omega
      rw [hno]
      have m2 := m1.fr f2 (by omega)
      have m2' := m2
      unfold ModC at m2'
      have x4 := hr2.1.2.2.2.2.1
      have b5 := hI2.1.2.2.2.2.1
      refine wp_lo (lo' := [some (.ref m), some (.int (nI ne)), some (.int (-1)), none, none]) (fun k v hk => ?_) ?_
      · match k, hk with
        | 0, hk => exact hk
        | 1, hk => exact hk
        | 2, hk => exact hk
        | 3, hk => exact absurd hk (by simp [ax_gl])
        | 4, hk => exact absurd hk (by simp [ax_gl])
        | k + 5, hk => exact absurd hk (by simp [ax_gl])
      refine wp_iload_n (n := 19) dX10_reconcile_18 rfl rfl ?_
      refine wp_iconst (n := 20) (v := (-1)) dX10_reconcile_19 rfl (by decide) ?_
      refine wp_icmp_eq (t := 89) (n := 23) dX10_reconcile_20 (by decide) rfl (fun hc => ?_) (fun hc => ?_)
      · refine wp_iload_n (n := 90) dX10_reconcile_89 rfl rfl ?_
        refine wp_iconst (n := 91) (v := (-1)) dX10_reconcile_90 rfl (by decide) ?_
        refine wp_icmp_eq (t := 104) (n := 94) dX10_reconcile_91 (by decide) rfl (fun hq => ?_) (fun hq => ?_)
        · refine wp_aload_n (n := 105) dX10_reconcile_104 rfl rfl ?_
          refine wp_getf (n := 108) dX10_reconcile_105 rfl flX10_9 (by repeat first | assumption | exact ax_set_self _ _ _ | exact ax_newA_self _ _ _ | refine (ax_set_ne _ _ (by omega)).trans ?_ | refine (ax_newA_ne _ _ _ (by omega)).trans ?_) (by rfl) ?_
          refine wp_iconst (n := 109) (v := nI 4) dX10_reconcile_108 rfl (by decide) ?_
          refine wp_iald (n := 110) _ dX10_reconcile_109 rfl (by repeat first | assumption | exact ax_set_self _ _ _ | exact ax_newA_self _ _ _ | refine (ax_set_ne _ _ (by omega)).trans ?_ | refine (ax_newA_ne _ _ _ (by omega)).trans ?_) rfl (by omega) (by decide) ?_
          rw [x4]
          refine wp_iload_n (n := 111) dX10_reconcile_110 rfl rfl ?_
          refine wp_isub (n := 112) dX10_reconcile_111 rfl ?_
          rw [hA9] at k
          simp only [adjG, Bool.false_eq_true, if_false] at k
          refine wp_ireturn dX10_reconcile_112 rfl rfl (k h2 R2 (f2.1.trans f1.1) (fun c c1 c2 => (f2.2 c (by omega)).trans (f1.2 c (by omega))) m2 hR2 (fun bk' hb => ?_))
          have e2 : ∀ e d, e < ne1 → d < 200 → blk bk' e d = blk (bkZ bk ne) e d := fun e d h1 h2 => (hb e d h1 h2).trans (blk_bkZ h2).symm
          exact ⟨hr2.bkC (fun _ _ => rfl) e2, hI2.congr (fun _ _ => rfl) e2⟩
        · exact absurd rfl hq
      · exact absurd rfl hc
    | succ g ih =>
      intro rw1 ne1 h2 R2 q3 q4 f2 hR2 hr2 hI2 hz hA9 hle hrw
      have m2 := m1.fr f2 (by omega)
      have m2' := m2
      unfold ModC at m2'
      have x4 := hr2.1.2.2.2.2.1
      have b5 := hI2.1.2.2.2.2.1
      cases hf9 : posO nb pl rw1 ne1 np (nI 1) with
      | none =>
        refine wp_lo (lo' := [some (.ref m), some (.int (nI ne)), some (.int (-1)), none, none]) (fun k v hk => ?_) ?_
        · match k, hk with
          | 0, hk => exact hk
          | 1, hk => exact hk
          | 2, hk => exact hk
          | 3, hk => exact absurd hk (by simp [ax_gl])
          | 4, hk => exact absurd hk (by simp [ax_gl])
          | k + 5, hk => exact absurd hk (by simp [ax_gl])
        refine wp_iload_n (n := 19) dX10_reconcile_18 rfl rfl ?_
        refine wp_iconst (n := 20) (v := (-1)) dX10_reconcile_19 rfl (by decide) ?_
        refine wp_icmp_eq (t := 89) (n := 23) dX10_reconcile_20 (by decide) rfl (fun hc => ?_) (fun hc => ?_)
        · refine wp_iload_n (n := 90) dX10_reconcile_89 rfl rfl ?_
          refine wp_iconst (n := 91) (v := (-1)) dX10_reconcile_90 rfl (by decide) ?_
          refine wp_icmp_eq (t := 104) (n := 94) dX10_reconcile_91 (by decide) rfl (fun hq => ?_) (fun hq => ?_)
          · refine wp_aload_n (n := 105) dX10_reconcile_104 rfl rfl ?_
            refine wp_getf (n := 108) dX10_reconcile_105 rfl flX10_9 (by repeat first | assumption | exact ax_set_self _ _ _ | exact ax_newA_self _ _ _ | refine (ax_set_ne _ _ (by omega)).trans ?_ | refine (ax_newA_ne _ _ _ (by omega)).trans ?_) (by rfl) ?_
            refine wp_iconst (n := 109) (v := nI 4) dX10_reconcile_108 rfl (by decide) ?_
            refine wp_iald (n := 110) _ dX10_reconcile_109 rfl (by repeat first | assumption | exact ax_set_self _ _ _ | exact ax_newA_self _ _ _ | refine (ax_set_ne _ _ (by omega)).trans ?_ | refine (ax_newA_ne _ _ _ (by omega)).trans ?_) rfl (by omega) (by decide) ?_
            rw [x4]
            refine wp_iload_n (n := 111) dX10_reconcile_110 rfl rfl ?_
            refine wp_isub (n := 112) dX10_reconcile_111 rfl ?_
            rw [hA9] at k
            simp only [adjG, hf9, Bool.false_eq_true, if_false] at k
            refine wp_ireturn dX10_reconcile_112 rfl rfl (k h2 R2 (f2.1.trans f1.1) (fun c c1 c2 => (f2.2 c (by omega)).trans (f1.2 c (by omega))) m2 hR2 (fun bk' hb => ?_))
            have e2 : ∀ e d, e < ne1 → d < 200 → blk bk' e d = blk (bkZ bk ne) e d := fun e d h1 h2 => (hb e d h1 h2).trans (blk_bkZ h2).symm
            exact ⟨hr2.bkC (fun _ _ => rfl) e2, hI2.congr (fun _ _ => rfl) e2⟩
          · exact absurd rfl hq
        · exact absurd rfl hc
      | some f =>
        have pf := pos_some hf9
        obtain ⟨o, ho9⟩ := neg_ex hI2 hf9
        have po := neg_some hI2 ho9
        have hA9 := hA9.trans (adjG_some hf9 ho9)
        refine wp_lo (lo' := [some (.ref m), some (.int (nI ne)), some (.int (nI f)), none, none]) (fun k v hk => ?_) ?_
        · match k, hk with
          | 0, hk => exact hk
          | 1, hk => exact hk
          | 2, hk => exact hk
          | 3, hk => exact absurd hk (by simp [ax_gl])
          | 4, hk => exact absurd hk (by simp [ax_gl])
          | k + 5, hk => exact absurd hk (by simp [ax_gl])
        refine wp_iload_n (n := 19) dX10_reconcile_18 rfl rfl ?_
        refine wp_iconst (n := 20) (v := (-1)) dX10_reconcile_19 rfl (by decide) ?_
        refine wp_icmp_eq (t := 89) (n := 23) dX10_reconcile_20 (by decide) rfl (fun hc => ?_) (fun hc => ?_)
        · exact absurd hc (nI_ne_neg (by omega))
        · refine wp_aload_n (n := 24) dX10_reconcile_23 rfl rfl ?_
          refine wp_getf (n := 27) dX10_reconcile_24 rfl flX10_9 (by repeat first | assumption | exact ax_set_self _ _ _ | exact ax_newA_self _ _ _ | refine (ax_set_ne _ _ (by omega)).trans ?_ | refine (ax_newA_ne _ _ _ (by omega)).trans ?_) (by rfl) ?_
          refine wp_iconst (n := 28) (v := nI 4) dX10_reconcile_27 rfl (by decide) ?_
          refine wp_iald (n := 29) _ dX10_reconcile_28 rfl (by repeat first | assumption | exact ax_set_self _ _ _ | exact ax_newA_self _ _ _ | refine (ax_set_ne _ _ (by omega)).trans ?_ | refine (ax_newA_ne _ _ _ (by omega)).trans ?_) rfl (by omega) (by decide) ?_
          rw [x4]
          refine wp_sipush (n := 32) (v := nI 300) dX10_reconcile_29 rfl (by decide) ?_
          refine wp_icmp_ge (t := 89) (n := 35) dX10_reconcile_32 (by decide) rfl (fun hq => ?_) (fun hq => ?_)
          · have hge := (nI_le9 (by omega) (by omega)).mp hq
            rw [if_pos hge] at hA9
            refine wp_iload_n (n := 90) dX10_reconcile_89 rfl rfl ?_
            refine wp_iconst (n := 91) (v := (-1)) dX10_reconcile_90 rfl (by decide) ?_
            refine wp_icmp_eq (t := 104) (n := 94) dX10_reconcile_91 (by decide) rfl (fun hs => ?_) (fun hs => ?_)
            · exact absurd hs (nI_ne_neg (by omega))
            · refine wp_aload_n (n := 95) dX10_reconcile_94 rfl rfl ?_
              refine wp_getf (n := 98) dX10_reconcile_95 rfl flX10_9 (by repeat first | assumption | exact ax_set_self _ _ _ | exact ax_newA_self _ _ _ | refine (ax_set_ne _ _ (by omega)).trans ?_ | refine (ax_newA_ne _ _ _ (by omega)).trans ?_) (by rfl) ?_
              refine wp_iconst (n := 99) (v := nI 4) dX10_reconcile_98 rfl (by decide) ?_
              refine wp_iload_n (n := 100) dX10_reconcile_99 rfl rfl ?_
              refine wp_iast (n := 101) _ dX10_reconcile_100 rfl (by repeat first | assumption | exact ax_set_self _ _ _ | exact ax_newA_self _ _ _ | refine (ax_set_ne _ _ (by omega)).trans ?_ | refine (ax_newA_ne _ _ _ (by omega)).trans ?_) (by omega) rfl (by omega) (by decide) ?_
              refine wp_bipush (n := 103) (v := (-2)) dX10_reconcile_101 rfl (by decide) ?_
              rw [hA9] at k
              simp only [if_true] at k
              refine wp_ireturn dX10_reconcile_103 rfl rfl (k _ _ (f2.1.trans f1.1) (fun c c1 c2 => (ax_set_ne _ _ c2).trans ((f2.2 c (by omega)).trans (f1.2 c (by omega)))) ((ax_set_ne _ _ (by omega)).trans m2) (ax_set_self _ _ _) (fun bk' hb => ⟨?_, ?_⟩))
              · obtain ⟨⟨x0, x1, x2, x3, x4, x5, x6⟩, xM, xP, xJ, xH, xC⟩ := hr2
                have eo : ∀ u, ¬ u = 4 → upd R2 4 (nI ne) u = R2 u := fun u hu => if_neg hu
                refine ⟨⟨(eo 0 (by omega)).trans x0, (eo 1 (by omega)).trans x1, (eo 2 (by omega)).trans x2, (eo 3 (by omega)).trans x3, if_pos rfl, (eo 5 (by omega)).trans x5, (eo 6 (by omega)).trans x6⟩, fun d hd => ⟨(eo _ (by omega)).trans (xM d hd).1, (eo _ (by omega)).trans (xM d hd).2⟩, fun j hj => ⟨(eo _ (by omega)).trans (xP j hj).1, (eo _ (by omega)).trans (xP j hj).2.1, fun i hi => (eo _ (by omega)).trans ((xP j hj).2.2 i hi)⟩, fun e he => ⟨fun q hq => (eo _ (by omega)).trans ((xJ e (by omega)).1 q hq), fun d hd => ?_⟩, fun r hr q hq => (eo _ (by omega)).trans (xH r hr q hq), fun c hc => ⟨fun j hj => (eo _ (by omega)).trans ((xC c hc).1 j hj), (eo _ (by omega)).trans (xC c hc).2⟩⟩
                rw [eo _ (by omega), hb e d (by omega) hd]
                exact ((xJ e (by omega)).2 d hd).trans (blk_bkZ hd)
              · exact hI0.congr hrw (fun e d h1 h2 => by rw [hb e d (by omega) h2, decide_eq_true h1, Bool.true_and])
          · have hlt : ¬ 300 ≤ ne1 := fun q => hq ((nI_le9 (by omega) (by omega)).mpr q)
            rw [if_neg hlt] at hA9
            have r0' := hr2.1.1
            have rM' := hr2.2.1
            have hbf : ∀ d, d < 200 → blk (bkZ bk ne) ne1 d = false := fun d hd => by rw [blk_bkZ hd, decide_eq_false (by omega), Bool.false_and]
            refine wp_aload_n (n := 36) dX10_reconcile_35 rfl rfl ?_
            refine wp_iconst (n := 37) (v := (-1)) dX10_reconcile_36 rfl (by decide) ?_
            refine wp_callV1 (n := 40) (rm' := (3, 67, 0, 0)) rfl dX10_reconcile_37 rfl mlX10_311 (by repeat first | assumption | exact ax_set_self _ _ _ | exact ax_newA_self _ _ _ | refine (ax_set_ne _ _ (by omega)).trans ?_ | refine (ax_newA_ne _ _ _ (by omega)).trans ?_) rfl rfl rfl rfl rfl ?_
            refine s_X10_unequal m2 hR2 hr2 hI2.1 ?_
            show WP Γ _ _ _ _ _ _ _
            rw [ho9]
            show WP Γ _ _ _ _ (.int (nI o) :: _) _ _
            refine wp_istore_n (n := 41) dX10_reconcile_40 rfl rfl rfl rfl ?_
            refine wp_aload_n (n := 42) dX10_reconcile_41 rfl rfl ?_
            refine wp_iload_n (n := 43) dX10_reconcile_42 rfl rfl ?_
            refine wp_callV1 (n := 46) (rm' := (2, 46, 0, 0)) rfl dX10_reconcile_43 rfl mlX10_284 (by repeat first | assumption | exact ax_set_self _ _ _ | exact ax_newA_self _ _ _ | refine (ax_set_ne _ _ (by omega)).trans ?_ | refine (ax_newA_ne _ _ _ (by omega)).trans ?_) rfl rfl rfl rfl rfl ?_
            refine s_X10_bookedOf m2 hR2 hr2 b5 ?_
            show WP Γ _ _ _ _ _ _ _
            refine wp_aload_n (n := 47) dX10_reconcile_46 rfl rfl ?_
            refine wp_iload_n (n := 48) dX10_reconcile_47 rfl rfl ?_
            refine wp_callV1 (n := 51) (rm' := (0, 0, 0, 0)) rfl dX10_reconcile_48 rfl mlX10_62 (by repeat first | assumption | exact ax_set_self _ _ _ | exact ax_newA_self _ _ _ | refine (ax_set_ne _ _ (by omega)).trans ?_ | refine (ax_newA_ne _ _ _ (by omega)).trans ?_) rfl rfl rfl rfl rfl ?_
            refine s_X10_balanceOf m2 hR2 r0' rM' s4 ?_
            show WP Γ _ _ _ _ _ _ _
            refine wp_isub (n := 52) dX10_reconcile_51 rfl ?_
            refine wp_aload_n (n := 53) dX10_reconcile_52 rfl rfl ?_
            refine wp_iload_n (n := 54) dX10_reconcile_53 rfl rfl ?_
            refine wp_callV1 (n := 57) (rm' := (0, 0, 0, 0)) rfl dX10_reconcile_54 rfl mlX10_62 (by repeat first | assumption | exact ax_set_self _ _ _ | exact ax_newA_self _ _ _ | refine (ax_set_ne _ _ (by omega)).trans ?_ | refine (ax_newA_ne _ _ _ (by omega)).trans ?_) rfl rfl rfl rfl rfl ?_
            refine s_X10_balanceOf m2 hR2 r0' rM' s4 ?_
            show WP Γ _ _ _ _ _ _ _
            refine wp_aload_n (n := 58) dX10_reconcile_57 rfl rfl ?_
            refine wp_iload_n (n := 59) dX10_reconcile_58 rfl rfl ?_
            refine wp_callV1 (n := 62) (rm' := (2, 46, 0, 0)) rfl dX10_reconcile_59 rfl mlX10_284 (by repeat first | assumption | exact ax_set_self _ _ _ | exact ax_newA_self _ _ _ | refine (ax_set_ne _ _ (by omega)).trans ?_ | refine (ax_newA_ne _ _ _ (by omega)).trans ?_) rfl rfl rfl rfl rfl ?_
            refine s_X10_bookedOf m2 hR2 hr2 b5 ?_
            show WP Γ _ _ _ _ _ _ _
            refine wp_isub (n := 63) dX10_reconcile_62 rfl ?_
            rw [show nI (cnt pl (nI o) nb) - bkd nb rw1 (nI o) ne1 = - dif nb pl rw1 ne1 o by unfold dif; rw [Int32.neg_sub], show bkd nb rw1 (nI f) ne1 - nI (cnt pl (nI f) nb) = dif nb pl rw1 ne1 f from rfl]
            refine wp_mmin (n := 66) dX10_reconcile_63 rfl mnX10_189 ax_mns ax_mi ax_mnc rfl rfl ?_
            rw [show (if - dif nb pl rw1 ne1 o < dif nb pl rw1 ne1 f then - dif nb pl rw1 ne1 o else dif nb pl rw1 ne1 f) = adjC nb pl rw1 ne1 f o from rfl]
            refine wp_istore (n := 68) dX10_reconcile_66 rfl rfl rfl rfl ?_
            refine wp_aload_n (n := 69) dX10_reconcile_68 rfl rfl ?_
            refine wp_iload_n (n := 70) dX10_reconcile_69 rfl rfl ?_
            refine wp_iload_n (n := 71) dX10_reconcile_70 rfl rfl ?_
            refine wp_iload (n := 73) dX10_reconcile_71 rfl rfl ?_
            refine wp_iconst (n := 74) (v := 0) dX10_reconcile_73 rfl (by decide) ?_
            refine wp_iconst (n := 75) (v := nI 2) dX10_reconcile_74 rfl (by decide) ?_
            refine wp_iconst (n := 76) (v := (-1)) dX10_reconcile_75 rfl (by decide) ?_
            refine wp_callV6 (n := 79) (rm' := (0, 0, 0, 0)) rfl dX10_reconcile_76 rfl mlX10_88 (by repeat first | assumption | exact ax_set_self _ _ _ | exact ax_newA_self _ _ _ | refine (ax_set_ne _ _ (by omega)).trans ?_ | refine (ax_newA_ne _ _ _ (by omega)).trans ?_) rfl rfl rfl rfl rfl ?_
            refine s_X10_adds m2 hR2 x4 hr2.1.2.2.1 hAa ham (by omega) (fun h3 R3 f3 hR3 z3 => ?_)
            show WP Γ _ _ _ _ _ _ _
            have m3 := m2.fr f3 (by omega)
            have m3' := m3
            unfold ModC at m3'
            have hr3 := hr2.adds hI2.1 (by omega) z3 hbf
            have hI3 := hI2.adj pf po (by omega) hbf
            have nz := nz_less (t := t) hI2 pf po
            refine wp_pop (n := 80) dX10_reconcile_79 rfl rfl ?_
            refine wp_aload_n (n := 81) dX10_reconcile_80 rfl rfl ?_
            refine wp_iconst (n := 82) (v := nI 1) dX10_reconcile_81 rfl (by decide) ?_
            refine wp_callV1 (n := 85) (rm' := (3, 67, 0, 0)) rfl dX10_reconcile_82 rfl mlX10_311 (by repeat first | assumption | exact ax_set_self _ _ _ | exact ax_newA_self _ _ _ | refine (ax_set_ne _ _ (by omega)).trans ?_ | refine (ax_newA_ne _ _ _ (by omega)).trans ?_) rfl rfl rfl rfl rfl ?_
            refine s_X10_unequal m3 hR3 hr3 hI3.1 ?_
            show WP Γ _ _ _ _ _ _ _
            refine wp_istore_n (n := 86) dX10_reconcile_85 rfl rfl rfl rfl ?_
            refine wp_goto (t := 18) dX10_reconcile_86 (by decide) ?_
            exact ih _ _ h3 R3 _ _ (f2.tr (lo := a) (hi := a + 1) f3 (by omega) (by omega)) hR3 hr3 hI3 (by omega) hA9 (by omega) (fun i hi => (upd7_lt _ _ _ _ _ _ _ _ (by omega)).trans (hrw i hi))
  have e2 : ∀ e d, e < ne → d < 200 → blk (bkZ bk ne) e d = blk bk e d := fun e d h1 h2 => by rw [blk_bkZ h2, decide_eq_true h1, Bool.true_and]
  exact L 8 rw ne h1 R _ _ ax_fr.rf hR1 (hr0.bkC (fun _ _ => rfl) e2) (hI0.congr (fun _ _ => rfl) e2) (Nat.le_trans (cntB_le _ _) s2) rfl (Nat.le_refl _) (fun _ _ => rfl)

end
