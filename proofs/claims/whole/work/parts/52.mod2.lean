/-! ===== the reference: what can go, entries ===== -/
section
variable {Γ : GE} {h : AH} {Q : PO} {m a np nb ne nh nc y : Nat} {R : FI} {qu ra le ln pl tm rw hw cw pk : FI} {re : Nat → UInt32} {bk : Nat → Int64} {t x z w th tl at' bg er ea lr cm : Int32}
theorem s_X10_availableOf (hM : ModC h m a th tl at' bg er ea lr cm) (hR : h.2 a = some (.inl (.int, 5061, .inl R))) (hr : RowR R np qu ra re le ln nb pl tm ne rw bk nh hw nc cw t y) (hn : nb ≤ 200) (hh : nh ≤ 60)
    (k : Q (.inl (some (.int (avl pl nb hw nh x)))) h) : WP Γ MX10_availableOf (2, 46, 0, 0) 0 [some (.ref m), some (.int x)] [] h Q := by
  have hM0 := hM
  unfold ModC at hM
  obtain ⟨⟨r0, r1, r2, r3, r4, r5, r6⟩, rM, rP, rJ, rH, rC⟩ := hr
  refine wp_aload_n (n := 1) dX10_availableOf_0 rfl rfl ?_
  refine wp_iload_n (n := 2) dX10_availableOf_1 rfl rfl ?_
  refine wp_callV1 (n := 5) (rm' := (0, 0, 0, 0)) rfl dX10_availableOf_2 rfl mlX10_62 (by repeat first | assumption | exact ax_set_self _ _ _ | exact ax_newA_self _ _ _ | refine (ax_set_ne _ _ (by omega)).trans ?_ | refine (ax_newA_ne _ _ _ (by omega)).trans ?_) rfl rfl rfl rfl rfl ?_
  refine s_X10_balanceOf hM0 hR r0 rM hn ?_
  show WP Γ _ _ _ _ _ _ _
  refine wp_aload_n (n := 6) dX10_availableOf_5 rfl rfl ?_
  refine wp_iload_n (n := 7) dX10_availableOf_6 rfl rfl ?_
  refine wp_iconst (n := 8) (v := 0) dX10_availableOf_7 rfl (by decide) ?_
  refine wp_callV2 (n := 11) (rm' := (1, 22, 0, 0)) rfl dX10_availableOf_8 rfl mlX10_66 (by repeat first | assumption | exact ax_set_self _ _ _ | exact ax_newA_self _ _ _ | refine (ax_set_ne _ _ (by omega)).trans ?_ | refine (ax_newA_ne _ _ _ (by omega)).trans ?_) rfl rfl rfl rfl rfl ?_
  refine s_X10_reserved (s := 0) hM0 hR r5 rH hh (by omega) ?_
  show WP Γ _ _ _ _ _ _ _
  refine wp_isub (n := 12) dX10_availableOf_11 rfl ?_
  exact wp_ireturn dX10_availableOf_12 rfl rfl (k)
theorem s_X10_roomOf {j : Nat} (hM : ModC h m a th tl at' bg er ea lr cm) (hR : h.2 a = some (.inl (.int, 5061, .inl R))) (hr : RowR R np qu ra re le ln nb pl tm ne rw bk nh hw nc cw t y) (hn : nb ≤ 200) (hh : nh ≤ 60) (hp : np ≤ 8) (hj : j < np)
    (k : Q (.inl (some (.int (roo qu pl nb hw nh j)))) h) : WP Γ MX10_roomOf (2, 46, 0, 0) 0 [some (.ref m), some (.int (nI j))] [] h Q := by
  have hM0 := hM
  unfold ModC at hM
  obtain ⟨⟨r0, r1, r2, r3, r4, r5, r6⟩, rM, rP, rJ, rH, rC⟩ := hr
  refine wp_aload_n (n := 1) dX10_roomOf_0 rfl rfl ?_
  refine wp_iload_n (n := 2) dX10_roomOf_1 rfl rfl ?_
  refine wp_iconst (n := 3) (v := 0) dX10_roomOf_2 rfl (by decide) ?_
  refine wp_callV2 (n := 6) (rm' := (0, 0, 0, 0)) rfl dX10_roomOf_3 rfl mlX10_69 (by repeat first | assumption | exact ax_set_self _ _ _ | exact ax_newA_self _ _ _ | refine (ax_set_ne _ _ (by omega)).trans ?_ | refine (ax_newA_ne _ _ _ (by omega)).trans ?_) rfl rfl rfl rfl rfl ?_
  refine s_X10_pool (q := 0) hM0 hR (by omega) (by omega) ?_
  show WP Γ _ _ _ _ _ _ _
  rw [(rP j hj).1]
  refine wp_aload_n (n := 7) dX10_roomOf_6 rfl rfl ?_
  refine wp_iload_n (n := 8) dX10_roomOf_7 rfl rfl ?_
  refine wp_callV1 (n := 11) (rm' := (0, 0, 0, 0)) rfl dX10_roomOf_8 rfl mlX10_62 (by repeat first | assumption | exact ax_set_self _ _ _ | exact ax_newA_self _ _ _ | refine (ax_set_ne _ _ (by omega)).trans ?_ | refine (ax_newA_ne _ _ _ (by omega)).trans ?_) rfl rfl rfl rfl rfl ?_
  refine s_X10_balanceOf hM0 hR r0 rM hn ?_
  show WP Γ _ _ _ _ _ _ _
  refine wp_isub (n := 12) dX10_roomOf_11 rfl ?_
  refine wp_aload_n (n := 13) dX10_roomOf_12 rfl rfl ?_
  refine wp_iload_n (n := 14) dX10_roomOf_13 rfl rfl ?_
  refine wp_iconst (n := 15) (v := nI 1) dX10_roomOf_14 rfl (by decide) ?_
  refine wp_callV2 (n := 18) (rm' := (1, 22, 0, 0)) rfl dX10_roomOf_15 rfl mlX10_66 (by repeat first | assumption | exact ax_set_self _ _ _ | exact ax_newA_self _ _ _ | refine (ax_set_ne _ _ (by omega)).trans ?_ | refine (ax_newA_ne _ _ _ (by omega)).trans ?_) rfl rfl rfl rfl rfl ?_
  refine s_X10_reserved hM0 hR r5 rH hh (by omega) ?_
  show WP Γ _ _ _ _ _ _ _
  refine wp_isub (n := 19) dX10_roomOf_18 rfl ?_
  exact wp_ireturn dX10_roomOf_19 rfl rfl (k)
theorem s_X10_refusal {j : Nat} (hM : ModC h m a th tl at' bg er ea lr cm) (hR : h.2 a = some (.inl (.int, 5061, .inl R))) (hr : RowR R np qu ra re le ln nb pl tm ne rw bk nh hw nc cw t y) (hn : nb ≤ 200) (hh : nh ≤ 60) (hp : np ≤ 8) (hj : j < np)
    (k : Q (.inl (some (.int (obs qu pl nb hw nh x j z 0)))) h) : WP Γ MX10_refusal (3, 67, 0, 0) 0 [some (.ref m), some (.int x), some (.int (nI j)), some (.int z)] [] h Q := by
  have hM0 := hM
  unfold ModC at hM
  unfold obs at k
  simp only [Int32.add_zero] at k
  refine wp_aload_n (n := 1) dX10_refusal_0 rfl rfl ?_
  refine wp_iload_n (n := 2) dX10_refusal_1 rfl rfl ?_
  refine wp_callV1 (n := 5) (rm' := (2, 46, 0, 0)) rfl dX10_refusal_2 rfl mlX10_92 (by repeat first | assumption | exact ax_set_self _ _ _ | exact ax_newA_self _ _ _ | refine (ax_set_ne _ _ (by omega)).trans ?_ | refine (ax_newA_ne _ _ _ (by omega)).trans ?_) rfl rfl rfl rfl rfl ?_
  refine s_X10_availableOf hM0 hR hr hn hh ?_
  show WP Γ _ _ _ _ _ _ _
  refine wp_iload_n (n := 6) dX10_refusal_5 rfl rfl ?_
  refine wp_icmp_ge (t := 14) (n := 9) dX10_refusal_6 (by decide) rfl (fun hc => ?_) (fun hc => ?_)
  · rw [if_neg (Int32.not_lt.mpr hc)] at k
    refine wp_aload_n (n := 15) dX10_refusal_14 rfl rfl ?_
    refine wp_iload_n (n := 16) dX10_refusal_15 rfl rfl ?_
    refine wp_callV1 (n := 19) (rm' := (2, 46, 0, 0)) rfl dX10_refusal_16 rfl mlX10_95 (by repeat first | assumption | exact ax_set_self _ _ _ | exact ax_newA_self _ _ _ | refine (ax_set_ne _ _ (by omega)).trans ?_ | refine (ax_newA_ne _ _ _ (by omega)).trans ?_) rfl rfl rfl rfl rfl ?_
    refine s_X10_roomOf hM0 hR hr hn hh hp hj ?_
    show WP Γ _ _ _ _ _ _ _
    refine wp_iload_n (n := 20) dX10_refusal_19 rfl rfl ?_
    refine wp_icmp_ge (t := 28) (n := 23) dX10_refusal_20 (by decide) rfl (fun hq => ?_) (fun hq => ?_)
    · rw [if_neg (Int32.not_lt.mpr hq)] at k
      refine wp_iconst (n := 29) (v := 0) dX10_refusal_28 rfl (by decide) ?_
      exact wp_ireturn dX10_refusal_29 rfl rfl (k)
    · rw [if_pos (i32_not_le hq)] at k
      refine wp_bipush (n := 25) (v := (-4)) dX10_refusal_23 rfl (by decide) ?_
      refine wp_goto (t := 29) dX10_refusal_25 (by decide) ?_
      exact wp_ireturn dX10_refusal_29 rfl rfl (k)
  · rw [if_pos (i32_not_le hc)] at k
    refine wp_bipush (n := 11) (v := (-3)) dX10_refusal_9 rfl (by decide) ?_
    refine wp_goto (t := 29) dX10_refusal_11 (by decide) ?_
    exact wp_ireturn dX10_refusal_29 rfl rfl (k)
theorem s_X10_isIn {d : Nat} (hM : ModC h m a th tl at' bg er ea lr cm) (hR : h.2 a = some (.inl (.int, 5061, .inl R))) (hS : R 0 = nI nb) (hm : RowM R nb pl tm) (hn : nb ≤ 200) (hd : d ≤ 1000)
    (k : Q (.inl (some (.int (bI (decide (d < nb ∧ pl d = x)))))) h) : WP Γ MX10_isIn (0, 0, 0, 0) 0 [some (.ref m), some (.int (nI d)), some (.int x)] [] h Q := by
  unfold ModC at hM
  refine wp_iload_n (n := 1) dX10_isIn_0 rfl rfl ?_
  refine wp_aload_n (n := 2) dX10_isIn_1 rfl rfl ?_
  refine wp_getf (n := 5) dX10_isIn_2 rfl flX10_9 (by repeat first | assumption | exact ax_set_self _ _ _ | exact ax_newA_self _ _ _ | refine (ax_set_ne _ _ (by omega)).trans ?_ | refine (ax_newA_ne _ _ _ (by omega)).trans ?_) (by rfl) ?_
  refine wp_iconst (n := 6) (v := 0) dX10_isIn_5 rfl (by decide) ?_
  refine wp_iald (n := 7) 0 dX10_isIn_6 rfl hR rfl (by omega) (by omega) ?_
  rw [hS]
  refine wp_icmp_ge (t := 27) (n := 10) dX10_isIn_7 (by decide) rfl (fun hc => ?_) (fun hc => ?_)
  · rw [nI_le9 (by omega) (by omega)] at hc
    rw [decide_eq_false (fun q => by omega)] at k
    refine wp_iconst (n := 28) (v := 0) dX10_isIn_27 rfl (by decide) ?_
    exact wp_ireturn dX10_isIn_28 rfl rfl (k)
  · rw [nI_le9 (by omega) (by omega)] at hc
    refine wp_aload_n (n := 11) dX10_isIn_10 rfl rfl ?_
    refine wp_getf (n := 14) dX10_isIn_11 rfl flX10_9 (by repeat first | assumption | exact ax_set_self _ _ _ | exact ax_newA_self _ _ _ | refine (ax_set_ne _ _ (by omega)).trans ?_ | refine (ax_newA_ne _ _ _ (by omega)).trans ?_) (by rfl) ?_
    refine wp_bipush (n := 16) (v := nI 7) dX10_isIn_14 rfl (by decide) ?_
    refine wp_iload_n (n := 17) dX10_isIn_16 rfl rfl ?_
    refine wp_iadd (n := 18) dX10_isIn_17 rfl ?_
    refine wp_iald (n := 19) (7 + d) dX10_isIn_18 rfl (by repeat first | assumption | exact ax_set_self _ _ _ | exact ax_newA_self _ _ _ | refine (ax_set_ne _ _ (by omega)).trans ?_ | refine (ax_newA_ne _ _ _ (by omega)).trans ?_) (by simp only [nI_zero, nI_mul, nI_add]) (by omega) (by omega) ?_
    refine wp_iload_n (n := 20) dX10_isIn_19 rfl rfl ?_
    rw [(hm d (by omega)).1]
    refine wp_icmp_ne (t := 27) (n := 23) dX10_isIn_20 (by decide) rfl (fun hq => ?_) (fun hq => ?_)
    · rw [decide_eq_false (fun q => hq q.2)] at k
      refine wp_iconst (n := 28) (v := 0) dX10_isIn_27 rfl (by decide) ?_
      exact wp_ireturn dX10_isIn_28 rfl rfl (k)
    · rw [decide_eq_true ⟨by omega, hq⟩] at k
      refine wp_iconst (n := 24) (v := nI 1) dX10_isIn_23 rfl (by decide) ?_
      refine wp_goto (t := 28) dX10_isIn_24 (by decide) ?_
      exact wp_ireturn dX10_isIn_28 rfl rfl (k)
theorem s_X10_picksNone (hM : ModC h m a th tl at' bg er ea lr cm) (hP : h.2 (m + 9) = some (.inl (.boolean, 200, .inl pk))) (hA : Γ.2.1 ≤ m)
    (k : ∀ h' pk', ax_fr (m + 9) (m + 10) h h' → h'.2 (m + 9) = some (.inl (.boolean, 200, .inl pk')) → (∀ d, d < 200 → pk' d = 0) → Q (.inl none) h') : WP Γ MX10_picksNone (0, 0, 0, 0) 0 [some (.ref m), none] [] h Q := by
  refine wp_iconst (n := 1) (v := 0) dX10_picksNone_0 rfl (by decide) ?_
  refine wp_istore_n (n := 2) dX10_picksNone_1 rfl rfl rfl rfl ?_
  suffices L : ∀ j, j ≤ 200 → ∀ h1 pk1, ax_fr (m + 9) (m + 10) h h1 → h1.2 (m + 9) = some (.inl (.boolean, 200, .inl pk1)) → (∀ d, d < j → pk1 d = 0) → WP Γ MX10_picksNone (0, 0, 0, 0) 2 [some (.ref m), some (.int (nI j))] [] h1 Q from L 0 (Nat.zero_le _) h pk ax_fr.rf hP (fun d hd => absurd hd (Nat.not_lt_zero _))
  refine ax_up 200 (fun j hj ih => ?_)
  intro h1 pk1 f1 hP1 hz
  have hM1 := hM.fr f1 (by omega)
  unfold ModC at hM1
  refine wp_iload_n (n := 3) dX10_picksNone_2 rfl rfl ?_
  refine wp_sipush (n := 6) (v := nI 200) dX10_picksNone_3 rfl (by decide) ?_
  refine wp_icmp_ge (t := 22) (n := 9) dX10_picksNone_6 (by decide) rfl (fun hc => ?_) (fun hc => ?_)
  · rw [nI_le9 (by omega) (by omega)] at hc
    exact wp_return dX10_picksNone_22 rfl (k h1 pk1 f1 hP1 (fun d hd => hz d (by omega)))
  · rw [nI_le9 (by omega) (by omega)] at hc
    refine wp_aload_n (n := 10) dX10_picksNone_9 rfl rfl ?_
    refine wp_getf (n := 13) dX10_picksNone_10 rfl flX10_36 (by repeat first | assumption | exact ax_set_self _ _ _ | exact ax_newA_self _ _ _ | refine (ax_set_ne _ _ (by omega)).trans ?_ | refine (ax_newA_ne _ _ _ (by omega)).trans ?_) (by rfl) ?_
    refine wp_iload_n (n := 14) dX10_picksNone_13 rfl rfl ?_
    refine wp_iconst (n := 15) (v := 0) dX10_picksNone_14 rfl (by decide) ?_
    refine wp_zast (n := 16) _ dX10_picksNone_15 rfl (by repeat first | assumption | exact ax_set_self _ _ _ | exact ax_newA_self _ _ _ | refine (ax_set_ne _ _ (by omega)).trans ?_ | refine (ax_newA_ne _ _ _ (by omega)).trans ?_) (by omega) rfl (by omega) (by decide) rfl ?_
    refine wp_iinc (n := 19) dX10_picksNone_16 rfl rfl (nI_inc j) rfl rfl rfl ?_
    refine wp_goto (t := 2) dX10_picksNone_19 (by decide) ?_
    refine ih (by omega) _ _ (f1.put (by omega)) (ax_set_self _ _ _) (fun d hd => ?_)
    simp only [upd]
    by_cases e : d = j
    · rw [if_pos e]
    · rw [if_neg e]; exact hz d (by omega)
/-- the row behind an entry was added -/
def addR (R R' : FI) (ne : Nat) (i j c d t g l : Int32) : Prop := R' 4 = nI (ne + 1) ∧ R' (471 + 14 * ne + 0) = i ∧ R' (471 + 14 * ne + 1) = j ∧ R' (471 + 14 * ne + 2) = c ∧ R' (471 + 14 * ne + 3) = d ∧ R' (471 + 14 * ne + 4) = t ∧ R' (471 + 14 * ne + 5) = g ∧ R' (471 + 14 * ne + 6) = l ∧ (∀ q, q < 7 → R' (471 + 14 * ne + 7 + q) = 0) ∧ ∀ u, ¬ u = 4 → (u < 471 + 14 * ne ∨ 471 + 14 * ne + 14 ≤ u) → R' u = R u
theorem s_X10_adds {i j c d g l : Int32} (hM : ModC h m a th tl at' bg er ea lr cm) (hR : h.2 a = some (.inl (.int, 5061, .inl R))) (hS4 : R 4 = nI ne) (hS2 : R 2 = t) (hA : Γ.2.1 ≤ a) (ham : ¬ a = m) (he : ne < 300)
    (k : ∀ h' R', ax_fr a (a + 1) h h' → h'.2 a = some (.inl (.int, 5061, .inl R')) → addR R R' ne i j c d t g l → Q (.inl (some (.int (nI ne)))) h') : WP Γ MX10_adds (0, 0, 0, 0) 0 [some (.ref m), some (.int i), some (.int j), some (.int c), some (.int d), some (.int g), some (.int l), none, none] [] h Q := by
  have hM0 := hM
  unfold ModC at hM
  refine wp_sipush (n := 3) (v := nI 471) dX10_adds_0 rfl (by decide) ?_
  refine wp_bipush (n := 5) (v := nI 14) dX10_adds_3 rfl (by decide) ?_
  refine wp_aload_n (n := 6) dX10_adds_5 rfl rfl ?_
  refine wp_getf (n := 9) dX10_adds_6 rfl flX10_9 (by repeat first | assumption | exact ax_set_self _ _ _ | exact ax_newA_self _ _ _ | refine (ax_set_ne _ _ (by omega)).trans ?_ | refine (ax_newA_ne _ _ _ (by omega)).trans ?_) (by rfl) ?_
  refine wp_iconst (n := 10) (v := nI 4) dX10_adds_9 rfl (by decide) ?_
  refine wp_iald (n := 11) _ dX10_adds_10 rfl (by repeat first | assumption | exact ax_set_self _ _ _ | exact ax_newA_self _ _ _ | refine (ax_set_ne _ _ (by omega)).trans ?_ | refine (ax_newA_ne _ _ _ (by omega)).trans ?_) rfl (by omega) (by decide) ?_
  rw [hS4]
  refine wp_imul (n := 12) dX10_adds_11 rfl ?_
  refine wp_iadd (n := 13) dX10_adds_12 rfl ?_
  rw [nI_mul, nI_add]
  refine wp_istore (n := 15) dX10_adds_13 rfl rfl rfl rfl ?_
  refine wp_aload_n (n := 16) dX10_adds_15 rfl rfl ?_
  refine wp_getf (n := 19) dX10_adds_16 rfl flX10_9 (by repeat first | assumption | exact ax_set_self _ _ _ | exact ax_newA_self _ _ _ | refine (ax_set_ne _ _ (by omega)).trans ?_ | refine (ax_newA_ne _ _ _ (by omega)).trans ?_) (by rfl) ?_
  refine wp_iload (n := 21) dX10_adds_19 rfl rfl ?_
  refine wp_iconst (n := 22) (v := 0) dX10_adds_21 rfl (by decide) ?_
  refine wp_iadd (n := 23) dX10_adds_22 rfl ?_
  refine wp_iload_n (n := 24) dX10_adds_23 rfl rfl ?_
  refine wp_iast (n := 25) (471 + 14 * ne + 0) dX10_adds_24 rfl hR (by omega) (by rw [nI_zero, nI_add]) (by omega) (by omega) ?_
  refine wp_aload_n (n := 26) dX10_adds_25 rfl rfl ?_
  refine wp_getf (n := 29) dX10_adds_26 rfl flX10_9 (by repeat first | assumption | exact ax_set_self _ _ _ | exact ax_newA_self _ _ _ | refine (ax_set_ne _ _ (by omega)).trans ?_ | refine (ax_newA_ne _ _ _ (by omega)).trans ?_) (by rfl) ?_
  refine wp_iload (n := 31) dX10_adds_29 rfl rfl ?_
  refine wp_iconst (n := 32) (v := nI 1) dX10_adds_31 rfl (by decide) ?_
  refine wp_iadd (n := 33) dX10_adds_32 rfl ?_
  refine wp_iload_n (n := 34) dX10_adds_33 rfl rfl ?_
  refine wp_iast (n := 35) (471 + 14 * ne + 1) dX10_adds_34 rfl (by repeat first | assumption | exact ax_set_self _ _ _ | exact ax_newA_self _ _ _ | refine (ax_set_ne _ _ (by omega)).trans ?_ | refine (ax_newA_ne _ _ _ (by omega)).trans ?_) (by omega) (by simp only [nI_zero, nI_mul, nI_add]) (by omega) (by omega) ?_
  refine wp_aload_n (n := 36) dX10_adds_35 rfl rfl ?_
  refine wp_getf (n := 39) dX10_adds_36 rfl flX10_9 (by repeat first | assumption | exact ax_set_self _ _ _ | exact ax_newA_self _ _ _ | refine (ax_set_ne _ _ (by omega)).trans ?_ | refine (ax_newA_ne _ _ _ (by omega)).trans ?_) (by rfl) ?_
  refine wp_iload (n := 41) dX10_adds_39 rfl rfl ?_
  refine wp_iconst (n := 42) (v := nI 2) dX10_adds_41 rfl (by decide) ?_
  refine wp_iadd (n := 43) dX10_adds_42 rfl ?_
  refine wp_iload_n (n := 44) dX10_adds_43 rfl rfl ?_
  refine wp_iast (n := 45) (471 + 14 * ne + 2) dX10_adds_44 rfl (by repeat first | assumption | exact ax_set_self _ _ _ | exact ax_newA_self _ _ _ | refine (ax_set_ne _ _ (by omega)).trans ?_ | refine (ax_newA_ne _ _ _ (by omega)).trans ?_) (by omega) (by simp only [nI_zero, nI_mul, nI_add]) (by omega) (by omega) ?_
  refine wp_aload_n (n := 46) dX10_adds_45 rfl rfl ?_
  refine wp_getf (n := 49) dX10_adds_46 rfl flX10_9 (by repeat first | assumption | exact ax_set_self _ _ _ | exact ax_newA_self _ _ _ | refine (ax_set_ne _ _ (by omega)).trans ?_ | refine (ax_newA_ne _ _ _ (by omega)).trans ?_) (by rfl) ?_
  refine wp_iload (n := 51) dX10_adds_49 rfl rfl ?_
  refine wp_iconst (n := 52) (v := nI 3) dX10_adds_51 rfl (by decide) ?_
  refine wp_iadd (n := 53) dX10_adds_52 rfl ?_
  refine wp_iload (n := 55) dX10_adds_53 rfl rfl ?_
  refine wp_iast (n := 56) (471 + 14 * ne + 3) dX10_adds_55 rfl (by repeat first | assumption | exact ax_set_self _ _ _ | exact ax_newA_self _ _ _ | refine (ax_set_ne _ _ (by omega)).trans ?_ | refine (ax_newA_ne _ _ _ (by omega)).trans ?_) (by omega) (by simp only [nI_zero, nI_mul, nI_add]) (by omega) (by omega) ?_
  refine wp_aload_n (n := 57) dX10_adds_56 rfl rfl ?_
  refine wp_getf (n := 60) dX10_adds_57 rfl flX10_9 (by repeat first | assumption | exact ax_set_self _ _ _ | exact ax_newA_self _ _ _ | refine (ax_set_ne _ _ (by omega)).trans ?_ | refine (ax_newA_ne _ _ _ (by omega)).trans ?_) (by rfl) ?_
  refine wp_iload (n := 62) dX10_adds_60 rfl rfl ?_
  refine wp_iconst (n := 63) (v := nI 4) dX10_adds_62 rfl (by decide) ?_
  refine wp_iadd (n := 64) dX10_adds_63 rfl ?_
  refine wp_aload_n (n := 65) dX10_adds_64 rfl rfl ?_
  refine wp_getf (n := 68) dX10_adds_65 rfl flX10_9 (by repeat first | assumption | exact ax_set_self _ _ _ | exact ax_newA_self _ _ _ | refine (ax_set_ne _ _ (by omega)).trans ?_ | refine (ax_newA_ne _ _ _ (by omega)).trans ?_) (by rfl) ?_
  refine wp_iconst (n := 69) (v := nI 2) dX10_adds_68 rfl (by decide) ?_
  refine wp_iald (n := 70) _ dX10_adds_69 rfl (by repeat first | assumption | exact ax_set_self _ _ _ | exact ax_newA_self _ _ _ | refine (ax_set_ne _ _ (by omega)).trans ?_ | refine (ax_newA_ne _ _ _ (by omega)).trans ?_) rfl (by omega) (by decide) ?_
  rw [show upd (upd (upd (upd R (471 + 14 * ne + 0) i) (471 + 14 * ne + 1) j) (471 + 14 * ne + 2) c) (471 + 14 * ne + 3) d 2 = t by
    simp only [upd]
    rw [if_neg (by omega), if_neg (by omega), if_neg (by omega), if_neg (by omega)]
    exact hS2]
  refine wp_iast (n := 71) (471 + 14 * ne + 4) dX10_adds_70 rfl (by repeat first | assumption | exact ax_set_self _ _ _ | exact ax_newA_self _ _ _ | refine (ax_set_ne _ _ (by omega)).trans ?_ | refine (ax_newA_ne _ _ _ (by omega)).trans ?_) (by omega) (by simp only [nI_zero, nI_mul, nI_add]) (by omega) (by omega) ?_
  refine wp_aload_n (n := 72) dX10_adds_71 rfl rfl ?_
  refine wp_getf (n := 75) dX10_adds_72 rfl flX10_9 (by repeat first | assumption | exact ax_set_self _ _ _ | exact ax_newA_self _ _ _ | refine (ax_set_ne _ _ (by omega)).trans ?_ | refine (ax_newA_ne _ _ _ (by omega)).trans ?_) (by rfl) ?_
  refine wp_iload (n := 77) dX10_adds_75 rfl rfl ?_
  refine wp_iconst (n := 78) (v := nI 5) dX10_adds_77 rfl (by decide) ?_
  refine wp_iadd (n := 79) dX10_adds_78 rfl ?_
  refine wp_iload (n := 81) dX10_adds_79 rfl rfl ?_
  refine wp_iast (n := 82) (471 + 14 * ne + 5) dX10_adds_81 rfl (by repeat first | assumption | exact ax_set_self _ _ _ | exact ax_newA_self _ _ _ | refine (ax_set_ne _ _ (by omega)).trans ?_ | refine (ax_newA_ne _ _ _ (by omega)).trans ?_) (by omega) (by simp only [nI_zero, nI_mul, nI_add]) (by omega) (by omega) ?_
  refine wp_aload_n (n := 83) dX10_adds_82 rfl rfl ?_
  refine wp_getf (n := 86) dX10_adds_83 rfl flX10_9 (by repeat first | assumption | exact ax_set_self _ _ _ | exact ax_newA_self _ _ _ | refine (ax_set_ne _ _ (by omega)).trans ?_ | refine (ax_newA_ne _ _ _ (by omega)).trans ?_) (by rfl) ?_
  refine wp_iload (n := 88) dX10_adds_86 rfl rfl ?_
  refine wp_bipush (n := 90) (v := nI 6) dX10_adds_88 rfl (by decide) ?_
  refine wp_iadd (n := 91) dX10_adds_90 rfl ?_
  refine wp_iload (n := 93) dX10_adds_91 rfl rfl ?_
  refine wp_iast (n := 94) (471 + 14 * ne + 6) dX10_adds_93 rfl (by repeat first | assumption | exact ax_set_self _ _ _ | exact ax_newA_self _ _ _ | refine (ax_set_ne _ _ (by omega)).trans ?_ | refine (ax_newA_ne _ _ _ (by omega)).trans ?_) (by omega) (by simp only [nI_zero, nI_mul, nI_add]) (by omega) (by omega) ?_
  refine wp_iconst (n := 95) (v := 0) dX10_adds_94 rfl (by decide) ?_
  refine wp_istore (n := 97) dX10_adds_95 rfl rfl rfl rfl ?_
  have L : ∀ q, q ≤ 7 → ∀ h1 R1, ax_fr a (a + 1) h h1 → h1.2 a = some (.inl (.int, 5061, .inl R1)) → (R1 4 = nI ne ∧ R1 (471 + 14 * ne + 0) = i ∧ R1 (471 + 14 * ne + 1) = j ∧ R1 (471 + 14 * ne + 2) = c ∧ R1 (471 + 14 * ne + 3) = d ∧ R1 (471 + 14 * ne + 4) = t ∧ R1 (471 + 14 * ne + 5) = g ∧ R1 (471 + 14 * ne + 6) = l ∧ (∀ v, v < q → R1 (471 + 14 * ne + 7 + v) = 0) ∧ ∀ u, ¬ u = 4 → (u < 471 + 14 * ne ∨ 471 + 14 * ne + 14 ≤ u) → R1 u = R u) → WP Γ MX10_adds (0, 0, 0, 0) 97 [some (.ref m), some (.int i), some (.int j), some (.int c), some (.int d), some (.int g), some (.int l), some (.int (nI (471 + 14 * ne))), some (.int (nI q))] [] h1 Q := by
    refine ax_up 7 (fun q hq ih => ?_)
    intro h1 R1 f1 hR1 hz
    obtain ⟨z4, z0, z1, z2, z3, z5, z6, z7, z8, z9⟩ := hz
    have hM1 := f1.get hM (by omega)
    refine wp_iload (n := 99) dX10_adds_97 rfl rfl ?_
    refine wp_bipush (n := 101) (v := nI 7) dX10_adds_99 rfl (by decide) ?_
    refine wp_icmp_ge (t := 124) (n := 104) dX10_adds_101 (by decide) rfl (fun hc => ?_) (fun hc => ?_)
    · rw [nI_le9 (by omega) (by omega)] at hc
      obtain rfl : q = 7 := by omega
      refine wp_aload_n (n := 125) dX10_adds_124 rfl rfl ?_
      refine wp_getf (n := 128) dX10_adds_125 rfl flX10_9 (by repeat first | assumption | exact ax_set_self _ _ _ | exact ax_newA_self _ _ _ | refine (ax_set_ne _ _ (by omega)).trans ?_ | refine (ax_newA_ne _ _ _ (by omega)).trans ?_) (by rfl) ?_
      refine wp_iconst (n := 129) (v := nI 4) dX10_adds_128 rfl (by decide) ?_
      refine wp_dup2 (n := 130) dX10_adds_129 rfl rfl rfl ?_
      refine wp_iald (n := 131) _ dX10_adds_130 rfl (by repeat first | assumption | exact ax_set_self _ _ _ | exact ax_newA_self _ _ _ | refine (ax_set_ne _ _ (by omega)).trans ?_ | refine (ax_newA_ne _ _ _ (by omega)).trans ?_) rfl (by omega) (by decide) ?_
      rw [z4]
      refine wp_iconst (n := 132) (v := nI 1) dX10_adds_131 rfl (by decide) ?_
      refine wp_iadd (n := 133) dX10_adds_132 rfl ?_
      rw [nI_add]
      refine wp_iast (n := 134) _ dX10_adds_133 rfl (by repeat first | assumption | exact ax_set_self _ _ _ | exact ax_newA_self _ _ _ | refine (ax_set_ne _ _ (by omega)).trans ?_ | refine (ax_newA_ne _ _ _ (by omega)).trans ?_) (by omega) rfl (by omega) (by decide) ?_
      refine wp_aload_n (n := 135) dX10_adds_134 rfl rfl ?_
      refine wp_getf (n := 138) dX10_adds_135 rfl flX10_9 (by repeat first | assumption | exact ax_set_self _ _ _ | exact ax_newA_self _ _ _ | refine (ax_set_ne _ _ (by omega)).trans ?_ | refine (ax_newA_ne _ _ _ (by omega)).trans ?_) (by rfl) ?_
      refine wp_iconst (n := 139) (v := nI 4) dX10_adds_138 rfl (by decide) ?_
      refine wp_iald (n := 140) _ dX10_adds_139 rfl (by repeat first | assumption | exact ax_set_self _ _ _ | exact ax_newA_self _ _ _ | refine (ax_set_ne _ _ (by omega)).trans ?_ | refine (ax_newA_ne _ _ _ (by omega)).trans ?_) rfl (by omega) (by decide) ?_
      rw [show upd R1 4 (nI (ne + 1)) 4 = nI (ne + 1) by simp [upd]]
      refine wp_iconst (n := 141) (v := nI 1) dX10_adds_140 rfl (by decide) ?_
      refine wp_isub (n := 142) dX10_adds_141 rfl ?_
      rw [nI_sub (by omega)]
      refine wp_ireturn dX10_adds_142 rfl rfl (k _ _ (f1.put (by omega)) (ax_set_self _ _ _) ?_)
      have e : ∀ u, ¬ u = 4 → upd R1 4 (nI (ne + 1)) u = R1 u := fun u hu => if_neg hu
      refine ⟨by simp [upd], by rw [e _ (by omega)]; exact z0, by rw [e _ (by omega)]; exact z1, by rw [e _ (by omega)]; exact z2, by rw [e _ (by omega)]; exact z3, by rw [e _ (by omega)]; exact z5, by rw [e _ (by omega)]; exact z6, by rw [e _ (by omega)]; exact z7, fun v hv => by rw [e _ (by omega)]; exact z8 v hv, fun u h1 h2 => by rw [e _ h1]; exact z9 u h1 h2⟩
    · rw [nI_le9 (by omega) (by omega)] at hc
      refine wp_aload_n (n := 105) dX10_adds_104 rfl rfl ?_
      refine wp_getf (n := 108) dX10_adds_105 rfl flX10_9 (by repeat first | assumption | exact ax_set_self _ _ _ | exact ax_newA_self _ _ _ | refine (ax_set_ne _ _ (by omega)).trans ?_ | refine (ax_newA_ne _ _ _ (by omega)).trans ?_) (by rfl) ?_
      refine wp_iload (n := 110) dX10_adds_108 rfl rfl ?_
      refine wp_bipush (n := 112) (v := nI 7) dX10_adds_110 rfl (by decide) ?_
      refine wp_iadd (n := 113) dX10_adds_112 rfl ?_
      refine wp_iload (n := 115) dX10_adds_113 rfl rfl ?_
      refine wp_iadd (n := 116) dX10_adds_115 rfl ?_
      refine wp_iconst (n := 117) (v := 0) dX10_adds_116 rfl (by decide) ?_
      refine wp_iast (n := 118) (471 + 14 * ne + 7 + q) dX10_adds_117 rfl (by repeat first | assumption | exact ax_set_self _ _ _ | exact ax_newA_self _ _ _ | refine (ax_set_ne _ _ (by omega)).trans ?_ | refine (ax_newA_ne _ _ _ (by omega)).trans ?_) (by omega) (by simp only [nI_zero, nI_mul, nI_add]) (by omega) (by omega) ?_
      refine wp_iinc (n := 121) dX10_adds_118 rfl rfl (nI_inc q) rfl rfl rfl ?_
      refine wp_goto (t := 97) dX10_adds_121 (by decide) ?_
      have e : ∀ u, ¬ u = 471 + 14 * ne + 7 + q → upd R1 (471 + 14 * ne + 7 + q) 0 u = R1 u := fun u hu => if_neg hu
      refine ih (by omega) _ _ (f1.put (by omega)) (ax_set_self _ _ _) ⟨by rw [e _ (by omega)]; exact z4, by rw [e _ (by omega)]; exact z0, by rw [e _ (by omega)]; exact z1, by rw [e _ (by omega)]; exact z2, by rw [e _ (by omega)]; exact z3, by rw [e _ (by omega)]; exact z5, by rw [e _ (by omega)]; exact z6, by rw [e _ (by omega)]; exact z7, fun v hv => ?_, fun u h1 h2 => by rw [e _ (by omega)]; exact z9 u h1 h2⟩
      by_cases e9 : v = q
      · subst e9; simp [upd]
      · rw [e _ (by omega)]; exact z8 v (by omega)
  refine L 0 (by omega) _ _ (((((((ax_fr.set (lo := a) (hi := a + 1) (by omega)).put (by omega)).put (by omega)).put (by omega)).put (by omega)).put (by omega)).put (by omega)) (ax_set_self _ _ _) ⟨?_, ?_, ?_, ?_, ?_, ?_, ?_, ?_, fun v hv => absurd hv (Nat.not_lt_zero _), fun u h1 h2 => ?_⟩
  · simp only [upd]; repeat rw [if_neg (by omega)]
    exact hS4
  · simp [upd]
  · simp [upd]
  · simp [upd]
  · simp [upd]
  · simp [upd]
  · simp [upd]
  · simp [upd]
  · simp only [upd]; repeat rw [if_neg (by omega)]
/-- whether an entry has a block -/
theorem s_X10_hasBlock {e d : Nat} (hM : ModC h m a th tl at' bg er ea lr cm) (hR : h.2 a = some (.inl (.int, 5061, .inl R))) (hJ : RowJ R ne rw bk) (hn : ne ≤ 300) (he : e < ne) (hd : d < 200)
    (k : Q (.inl (some (.int (bI (blk bk e d))))) h) : WP Γ MX10_hasBlock (1, 22, 0, 0) 0 [some (.ref m), some (.int (nI e)), some (.int (nI d))] [] h Q := by
  have hM0 := hM
  unfold ModC at hM
  refine wp_aload_n (n := 1) dX10_hasBlock_0 rfl rfl ?_
  refine wp_iload_n (n := 2) dX10_hasBlock_1 rfl rfl ?_
  refine wp_bipush (n := 4) (v := nI 7) dX10_hasBlock_2 rfl (by decide) ?_
  refine wp_iload_n (n := 5) dX10_hasBlock_4 rfl rfl ?_
  refine wp_bipush (n := 7) (v := nI 32) dX10_hasBlock_5 rfl (by decide) ?_
  refine wp_idiv (n := 8) dX10_hasBlock_7 rfl (by decide) ?_
  rw [nI_d32 d hd]
  refine wp_iadd (n := 9) dX10_hasBlock_8 rfl ?_
  rw [nI_add]
  refine wp_callV2 (n := 12) (rm' := (0, 0, 0, 0)) rfl dX10_hasBlock_9 rfl mlX10_85 (by repeat first | assumption | exact ax_set_self _ _ _ | exact ax_newA_self _ _ _ | refine (ax_set_ne _ _ (by omega)).trans ?_ | refine (ax_newA_ne _ _ _ (by omega)).trans ?_) rfl rfl rfl rfl rfl ?_
  refine s_X10_entry hM0 hR (by omega) (by omega) ?_
  show WP Γ _ _ _ _ _ _ _
  refine wp_iload_n (n := 13) dX10_hasBlock_12 rfl rfl ?_
  refine wp_bipush (n := 15) (v := nI 32) dX10_hasBlock_13 rfl (by decide) ?_
  refine wp_irem (n := 16) dX10_hasBlock_15 rfl (by decide) ?_
  rw [nI_r32 d hd]
  refine wp_ishr (n := 17) dX10_hasBlock_16 rfl ?_
  refine wp_iconst (n := 18) (v := nI 1) dX10_hasBlock_17 rfl (by decide) ?_
  refine wp_iand (n := 19) dX10_hasBlock_18 rfl ?_
  refine wp_iconst (n := 20) (v := nI 1) dX10_hasBlock_19 rfl (by decide) ?_
  have e1 := (hJ e he).2 d hd
  refine wp_icmp_ne (t := 27) (n := 23) dX10_hasBlock_20 (by decide) rfl (fun hc => ?_) (fun hc => ?_)
  · have : blk bk e d = false := by
      rw [← e1]
      exact Bool.eq_false_iff.mpr (fun z => hc ((bi_read (by omega)).mpr z))
    rw [this] at k
    refine wp_iconst (n := 28) (v := 0) dX10_hasBlock_27 rfl (by decide) ?_
    exact wp_ireturn dX10_hasBlock_28 rfl rfl (k)
  · have : blk bk e d = true := by
      rw [← e1]
      exact (bi_read (by omega)).mp hc
    rw [this] at k
    refine wp_iconst (n := 24) (v := nI 1) dX10_hasBlock_23 rfl (by decide) ?_
    refine wp_goto (t := 28) dX10_hasBlock_24 (by decide) ?_
    exact wp_ireturn dX10_hasBlock_28 rfl rfl (k)
end
