/-! ===== the reference: audits ===== -/

theorem sumI_split (f : FI) (a : Nat) : ∀ b, sumI f (a + b) = sumI f a + sumI (fun i => f (a + i)) b
  | 0 => (Int32.add_zero _).symm
  | b + 1 => by
    show sumI f (a + b) + f (a + b) = sumI f a + (sumI (fun i => f (a + i)) b + f (a + b))
    rw [sumI_split f a b, Int32.add_assoc]
theorem bkd_diff (nb : Nat) (rw : FI) (x : Int32) {m1 m2 : Nat} (h : m1 ≤ m2) : bkd nb rw x m2 - bkd nb rw x m1 = sumI (fun i => chgJ rw x (m1 + i)) (m2 - m1) := by
  unfold bkd
  have := sumI_split (chgJ rw x) m1 (m2 - m1)
  rw [show m1 + (m2 - m1) = m2 by omega] at this
  rw [this, ← Int32.add_assoc, Int32.sub_eq_add_neg, Int32.add_assoc, Int32.add_comm (sumI (fun i => chgJ rw x (m1 + i)) (m2 - m1)), ← Int32.add_assoc, ← Int32.sub_eq_add_neg, Int32.sub_self, Int32.zero_add]

section
variable {Γ : GE} {h : AH} {Q : PO} {m a np nb ne nh nc y : Nat} {R : FI} {qu ra le ln pl tm rw hw cw pk : FI} {re : Nat → UInt32} {bk : Nat → Int64} {t x z w v th tl at' bg er ea lr cm : Int32}

theorem s_X10_check {c q : Nat} (hM : ModC h m a th tl at' bg er ea lr cm) (hR : h.2 a = some (.inl (.int, 5061, .inl R))) (hc : c < 10) (hq : q < 9)
    (k : Q (.inl (some (.int (R (4971 + 9 * c + q))))) h) : WP Γ MX10_check (0, 0, 0, 0) 0 [some (.ref m), some (.int (nI c)), some (.int (nI q))] [] h Q := by
  unfold ModC at hM
  refine wp_aload_n (n := 1) dX10_check_0 rfl rfl ?_
  refine wp_getf (n := 4) dX10_check_1 rfl flX10_9 (by repeat first | assumption | exact ax_set_self _ _ _ | exact ax_newA_self _ _ _ | refine (ax_set_ne _ _ (by omega)).trans ?_ | refine (ax_newA_ne _ _ _ (by omega)).trans ?_) (by rfl) ?_
  refine wp_sipush (n := 7) (v := nI 4971) dX10_check_4 rfl (by decide) ?_
  refine wp_bipush (n := 9) (v := nI 9) dX10_check_7 rfl (by decide) ?_
  refine wp_iload_n (n := 10) dX10_check_9 rfl rfl ?_
  refine wp_imul (n := 11) dX10_check_10 rfl ?_
  refine wp_iadd (n := 12) dX10_check_11 rfl ?_
  refine wp_iload_n (n := 13) dX10_check_12 rfl rfl ?_
  refine wp_iadd (n := 14) dX10_check_13 rfl ?_
  refine wp_iald (n := 15) (4971 + 9 * c + q) dX10_check_14 rfl (by repeat first | assumption | exact ax_set_self _ _ _ | exact ax_newA_self _ _ _ | refine (ax_set_ne _ _ (by omega)).trans ?_ | refine (ax_newA_ne _ _ _ (by omega)).trans ?_) (by simp only [nI_zero, nI_mul, nI_add]) (by omega) (by omega) ?_
  exact wp_ireturn dX10_check_15 rfl rfl (k)
theorem s_X10_audited {i j m1 m2 q : Nat} (hM : ModC h m a th tl at' bg er ea lr cm) (hR : h.2 a = some (.inl (.int, 5061, .inl R))) (hr : RowR R np qu ra re le ln nb pl tm ne rw bk nh hw nc cw t y) (hne : ne ≤ 300) (hnc : nc ≤ 10) (hnp : np ≤ 8) (hi : i < nc) (hj : j < nc) (hq : q < np) (e1 : cw (i * 9 + 8) = nI m1) (e2 : cw (j * 9 + 8) = nI m2) (h12 : m1 ≤ m2) (h2 : m2 ≤ ne)
    (k : Q (.inl (some (.int (audC rw cw i j m1 m2 q)))) h) : WP Γ MX10_audited (2, 46, 0, 0) 0 [some (.ref m), some (.int (nI i)), some (.int (nI j)), some (.int (nI q)), none, none] [] h Q := by
  have hM0 := hM
  unfold ModC at hM
  obtain ⟨⟨r0, r1, r2, r3, r4, r5, r6⟩, rM, rP, rJ, rH, rC⟩ := hr
  refine wp_aload_n (n := 1) dX10_audited_0 rfl rfl ?_
  refine wp_iload_n (n := 2) dX10_audited_1 rfl rfl ?_
  refine wp_iload_n (n := 3) dX10_audited_2 rfl rfl ?_
  refine wp_callV2 (n := 6) (rm' := (0, 0, 0, 0)) rfl dX10_audited_3 rfl mlX10_314 (by repeat first | assumption | exact ax_set_self _ _ _ | exact ax_newA_self _ _ _ | refine (ax_set_ne _ _ (by omega)).trans ?_ | refine (ax_newA_ne _ _ _ (by omega)).trans ?_) rfl rfl rfl rfl rfl ?_
  refine s_X10_check hM0 hR (by omega) (by omega) ?_
  show WP Γ _ _ _ _ _ _ _
  rw [(rC j hj).1 q hq]
  refine wp_aload_n (n := 7) dX10_audited_6 rfl rfl ?_
  refine wp_iload_n (n := 8) dX10_audited_7 rfl rfl ?_
  refine wp_iload_n (n := 9) dX10_audited_8 rfl rfl ?_
  refine wp_callV2 (n := 12) (rm' := (0, 0, 0, 0)) rfl dX10_audited_9 rfl mlX10_314 (by repeat first | assumption | exact ax_set_self _ _ _ | exact ax_newA_self _ _ _ | refine (ax_set_ne _ _ (by omega)).trans ?_ | refine (ax_newA_ne _ _ _ (by omega)).trans ?_) rfl rfl rfl rfl rfl ?_
  refine s_X10_check hM0 hR (by omega) (by omega) ?_
  show WP Γ _ _ _ _ _ _ _
  rw [(rC i hi).1 q hq]
  refine wp_isub (n := 13) dX10_audited_12 rfl ?_
  refine wp_istore (n := 15) dX10_audited_13 rfl rfl rfl rfl ?_
  refine wp_aload_n (n := 16) dX10_audited_15 rfl rfl ?_
  refine wp_iload_n (n := 17) dX10_audited_16 rfl rfl ?_
  refine wp_aload_n (n := 18) dX10_audited_17 rfl rfl ?_
  refine wp_iload_n (n := 19) dX10_audited_18 rfl rfl ?_
  refine wp_bipush (n := 21) (v := nI 8) dX10_audited_19 rfl (by decide) ?_
  refine wp_callV2 (n := 24) (rm' := (0, 0, 0, 0)) rfl dX10_audited_21 rfl mlX10_314 (by repeat first | assumption | exact ax_set_self _ _ _ | exact ax_newA_self _ _ _ | refine (ax_set_ne _ _ (by omega)).trans ?_ | refine (ax_newA_ne _ _ _ (by omega)).trans ?_) rfl rfl rfl rfl rfl ?_
  refine s_X10_check hM0 hR (by omega) (by omega) ?_
  show WP Γ _ _ _ _ _ _ _
  rw [(rC j hj).2, e2]
  refine wp_callV2 (n := 27) (rm' := (1, 22, 0, 0)) rfl dX10_audited_24 rfl mlX10_281 (by repeat first | assumption | exact ax_set_self _ _ _ | exact ax_newA_self _ _ _ | refine (ax_set_ne _ _ (by omega)).trans ?_ | refine (ax_newA_ne _ _ _ (by omega)).trans ?_) rfl rfl rfl rfl rfl ?_
  refine s_X10_bookedUpTo hM0 hR r0 rJ hne h2 ?_
  show WP Γ _ _ _ _ _ _ _
  refine wp_aload_n (n := 28) dX10_audited_27 rfl rfl ?_
  refine wp_iload_n (n := 29) dX10_audited_28 rfl rfl ?_
  refine wp_aload_n (n := 30) dX10_audited_29 rfl rfl ?_
  refine wp_iload_n (n := 31) dX10_audited_30 rfl rfl ?_
  refine wp_bipush (n := 33) (v := nI 8) dX10_audited_31 rfl (by decide) ?_
  refine wp_callV2 (n := 36) (rm' := (0, 0, 0, 0)) rfl dX10_audited_33 rfl mlX10_314 (by repeat first | assumption | exact ax_set_self _ _ _ | exact ax_newA_self _ _ _ | refine (ax_set_ne _ _ (by omega)).trans ?_ | refine (ax_newA_ne _ _ _ (by omega)).trans ?_) rfl rfl rfl rfl rfl ?_
  refine s_X10_check hM0 hR (by omega) (by omega) ?_
  show WP Γ _ _ _ _ _ _ _
  rw [(rC i hi).2, e1]
  refine wp_callV2 (n := 39) (rm' := (1, 22, 0, 0)) rfl dX10_audited_36 rfl mlX10_281 (by repeat first | assumption | exact ax_set_self _ _ _ | exact ax_newA_self _ _ _ | refine (ax_set_ne _ _ (by omega)).trans ?_ | refine (ax_newA_ne _ _ _ (by omega)).trans ?_) rfl rfl rfl rfl rfl ?_
  refine s_X10_bookedUpTo hM0 hR r0 rJ hne (by omega) ?_
  show WP Γ _ _ _ _ _ _ _
  refine wp_isub (n := 40) dX10_audited_39 rfl ?_
  rw [bkd_diff nb rw (nI q) h12]
  refine wp_istore (n := 42) dX10_audited_40 rfl rfl rfl rfl ?_
  refine wp_iload (n := 44) dX10_audited_42 rfl rfl ?_
  refine wp_iload (n := 46) dX10_audited_44 rfl rfl ?_
  refine wp_isub (n := 47) dX10_audited_46 rfl ?_
  exact wp_ireturn dX10_audited_47 rfl rfl (k)

theorem s_X10_auditSet (hM : ModC h m a th tl at' bg er ea lr cm) (hR : h.2 a = some (.inl (.int, 5061, .inl R))) (hr : RowR R np qu ra re le ln nb pl tm ne rw bk nh hw nc cw t y) (hI : Inv np qu ra re le ln nb pl tm ne rw bk nh hw nc cw t y) (hA : Γ.2.1 ≤ m) (ham : ¬ a = m) 
    (k1 : decide (0 ≤ x ∧ x ≤ z ∧ z < nI nc) = false → ∀ h', ax_fr m (m + 1) h h' → ModC h' m a (nI 1) tl at' bg er ea lr cm → Q (.inl (some (.int 0))) h')
    (k : ∀ i j, i ≤ j → j < nc → x = nI i → z = nI j → ∀ m1 m2, cw (i * 9 + 8) = nI m1 → cw (j * 9 + 8) = nI m2 → m1 ≤ m2 → m2 ≤ ne → ∀ h', ax_fr m (m + 1) h h' → ModC h' m a (0) tl at' bg er ea lr cm → Q (.inl (some (.int (setB (fun q => decide (¬ audC rw cw i j m1 m2 q = 0)) np)))) h') : WP Γ MX10_auditSet (3, 71, 0, 0) 0 [some (.ref m), some (.int x), some (.int z), none, none] [] h Q := by
  have hM0 := hM
  unfold ModC at hM
  have hI0 := hI
  have hr0 := hr
  obtain ⟨⟨s1, s2, s3, s4, s5, s6, s7, s8, tn, s9, s10⟩, IM, IP, IJ, IR, IC⟩ := hI
  obtain ⟨⟨r0, r1, r2, r3, r4, r5, r6⟩, rM, rP, rJ, rH, rC⟩ := hr
  refine wp_aload_n (n := 1) dX10_auditSet_0 rfl rfl ?_
  refine wp_aload_n (n := 2) dX10_auditSet_1 rfl rfl ?_
  refine wp_iload_n (n := 3) dX10_auditSet_2 rfl rfl ?_
  refine wp_iload_n (n := 4) dX10_auditSet_3 rfl rfl ?_
  refine wp_callV2 (n := 7) (rm' := (1, 22, 0, 0)) rfl dX10_auditSet_4 rfl mlX10_317 (by repeat first | assumption | exact ax_set_self _ _ _ | exact ax_newA_self _ _ _ | refine (ax_set_ne _ _ (by omega)).trans ?_ | refine (ax_newA_ne _ _ _ (by omega)).trans ?_) rfl rfl rfl rfl rfl ?_
  refine s_X10_areChecks hM0 hR r6 s7 ?_
  show WP Γ _ _ _ _ _ _ _
  refine wp_iconst (n := 8) (v := nI 1) dX10_auditSet_7 rfl (by decide) ?_
  refine wp_callV2 (n := 11) (rm' := (0, 0, 0, 0)) rfl dX10_auditSet_8 rfl mlX10_113 (by repeat first | assumption | exact ax_set_self _ _ _ | exact ax_newA_self _ _ _ | refine (ax_set_ne _ _ (by omega)).trans ?_ | refine (ax_newA_ne _ _ _ (by omega)).trans ?_) rfl rfl rfl rfl rfl ?_
  refine s_X10_isThrown hM0 hA (fun hB f1 mB => ?_)
  show WP Γ _ _ _ _ _ _ _
  have fB := f1
  have hRB := fB.get hR (by omega)
  cases hx1 : decide (0 ≤ x ∧ x ≤ z ∧ z < nI nc) with
  | false =>
    rw [hx1] at mB
    refine wp_if_eq (t := 16) (n := 14) dX10_auditSet_11 (by decide) rfl (fun hq => ?_) (fun hq => ?_)
    · exact absurd hq (by decide)
    · refine wp_iconst (n := 15) (v := 0) dX10_auditSet_14 rfl (by decide) ?_
      exact wp_ireturn dX10_auditSet_15 rfl rfl (k1 hx1 hB fB mB)
  | true =>
    rw [hx1] at mB
    have mB' := mB
    unfold ModC at mB'
    refine wp_if_eq (t := 16) (n := 14) dX10_auditSet_11 (by decide) rfl (fun hq => ?_) (fun hq => ?_)
    · skip
      obtain ⟨i, j, i1, j1, rfl, rfl⟩ := chk_get s7 (of_decide_eq_true hx1)
      obtain ⟨m1, b1, e1⟩ := IC.1 i (by omega)
      obtain ⟨m2, b2, e2⟩ := IC.1 j j1
      have h12 := IC.2 i j m1 m2 i1 j1 e1 e2 (by omega) (by omega)
      have kk := k i j i1 j1 rfl rfl m1 m2 e1 e2 h12 b2 hB fB mB
      refine wp_iconst (n := 17) (v := 0) dX10_auditSet_16 rfl (by decide) ?_
      refine wp_istore_n (n := 18) dX10_auditSet_17 rfl rfl rfl rfl ?_
      refine wp_iconst (n := 19) (v := 0) dX10_auditSet_18 rfl (by decide) ?_
      refine wp_istore (n := 21) dX10_auditSet_19 rfl rfl rfl rfl ?_
      suffices L : ∀ q, q ≤ np → WP Γ MX10_auditSet (3, 71, 0, 0) 21 [some (.ref m), some (.int (nI i)), some (.int (nI j)), some (.int (setB (fun q => decide (¬ audC rw cw i j m1 m2 q = 0)) q)), some (.int (nI q))] [] hB Q from L 0 (Nat.zero_le _)
      refine ax_up np (fun q hq ih => ?_)
      refine wp_iload (n := 23) dX10_auditSet_21 rfl rfl ?_
      refine wp_aload_n (n := 24) dX10_auditSet_23 rfl rfl ?_
      refine wp_getf (n := 27) dX10_auditSet_24 rfl flX10_9 (by repeat first | assumption | exact ax_set_self _ _ _ | exact ax_newA_self _ _ _ | refine (ax_set_ne _ _ (by omega)).trans ?_ | refine (ax_newA_ne _ _ _ (by omega)).trans ?_) (by rfl) ?_
      refine wp_iconst (n := 28) (v := nI 1) dX10_auditSet_27 rfl (by decide) ?_
      refine wp_iald (n := 29) _ dX10_auditSet_28 rfl (by repeat first | assumption | exact ax_set_self _ _ _ | exact ax_newA_self _ _ _ | refine (ax_set_ne _ _ (by omega)).trans ?_ | refine (ax_newA_ne _ _ _ (by omega)).trans ?_) rfl (by omega) (by decide) ?_
      rw [r1]
      refine wp_icmp_ge (t := 60) (n := 32) dX10_auditSet_29 (by decide) rfl (fun hc => ?_) (fun hc => ?_)
      · rw [nI_le9 (by omega) (by omega)] at hc
        obtain rfl : q = np := by omega
        refine wp_iload_n (n := 61) dX10_auditSet_60 rfl rfl ?_
        exact wp_ireturn dX10_auditSet_61 rfl rfl (kk)
      · rw [nI_le9 (by omega) (by omega)] at hc
        have hlt : q < np := by omega
        have ih := ih hlt
        refine wp_iload_n (n := 33) dX10_auditSet_32 rfl rfl ?_
        refine wp_aload_n (n := 34) dX10_auditSet_33 rfl rfl ?_
        refine wp_iload_n (n := 35) dX10_auditSet_34 rfl rfl ?_
        refine wp_iload_n (n := 36) dX10_auditSet_35 rfl rfl ?_
        refine wp_iload (n := 38) dX10_auditSet_36 rfl rfl ?_
        refine wp_callV3 (n := 41) (rm' := (2, 46, 0, 0)) rfl dX10_auditSet_38 rfl mlX10_320 (by repeat first | assumption | exact ax_set_self _ _ _ | exact ax_newA_self _ _ _ | refine (ax_set_ne _ _ (by omega)).trans ?_ | refine (ax_newA_ne _ _ _ (by omega)).trans ?_) rfl rfl rfl rfl rfl ?_
        refine s_X10_audited mB hRB hr0 s5 s7 s2 (by omega) j1 hlt e1 e2 h12 b2 ?_
        show WP Γ _ _ _ _ _ _ _
        refine wp_if_eq (t := 51) (n := 44) dX10_auditSet_41 (by decide) rfl (fun hs => ?_) (fun hs => ?_)
        · simp only [setB, hs, not_true_eq_false, decide_false, Bool.false_eq_true, if_false] at ih
          refine wp_iconst (n := 52) (v := 0) dX10_auditSet_51 rfl (by decide) ?_
          refine wp_ior (n := 53) dX10_auditSet_52 rfl ?_
          rw [Int32.or_zero]
          refine wp_istore_n (n := 54) dX10_auditSet_53 rfl rfl rfl rfl ?_
          refine wp_iinc (n := 57) dX10_auditSet_54 rfl rfl (nI_inc q) rfl rfl rfl ?_
          refine wp_goto (t := 21) dX10_auditSet_57 (by decide) ?_
          exact ih
        · simp only [setB, hs, not_false_eq_true, decide_true, if_true] at ih
          refine wp_iconst (n := 45) (v := nI 1) dX10_auditSet_44 rfl (by decide) ?_
          refine wp_iload (n := 47) dX10_auditSet_45 rfl rfl ?_
          refine wp_ishl (n := 48) dX10_auditSet_47 rfl ?_
          refine wp_goto (t := 52) dX10_auditSet_48 (by decide) ?_
          refine wp_ior (n := 53) dX10_auditSet_52 rfl ?_
          refine wp_istore_n (n := 54) dX10_auditSet_53 rfl rfl rfl rfl ?_
          refine wp_iinc (n := 57) dX10_auditSet_54 rfl rfl (nI_inc q) rfl rfl rfl ?_
          refine wp_goto (t := 21) dX10_auditSet_57 (by decide) ?_
          exact ih
    · exact absurd rfl hq
theorem s_X10_auditOf (hM : ModC h m a th tl at' bg er ea lr cm) (hR : h.2 a = some (.inl (.int, 5061, .inl R))) (hr : RowR R np qu ra re le ln nb pl tm ne rw bk nh hw nc cw t y) (hI : Inv np qu ra re le ln nb pl tm ne rw bk nh hw nc cw t y) (hA : Γ.2.1 ≤ m) (ham : ¬ a = m) 
    (k1 : inN w np = false → ∀ h', ax_fr m (m + 1) h h' → ModC h' m a (nI 1) tl at' bg er ea lr cm → Q (.inl (some (.int 0))) h')
    (k2 : inN w np = true → decide (0 ≤ x ∧ x ≤ z ∧ z < nI nc) = false → ∀ h', ax_fr m (m + 1) h h' → ModC h' m a (nI 2) tl at' bg er ea lr cm → Q (.inl (some (.int 0))) h')
    (k : ∀ q, q < np → w = nI q → ∀ i j, i ≤ j → j < nc → x = nI i → z = nI j → ∀ m1 m2, cw (i * 9 + 8) = nI m1 → cw (j * 9 + 8) = nI m2 → m1 ≤ m2 → m2 ≤ ne → ∀ h', ax_fr m (m + 1) h h' → ModC h' m a (0) tl at' bg er ea lr cm → Q (.inl (some (.int (audC rw cw i j m1 m2 q)))) h') : WP Γ MX10_auditOf (3, 71, 0, 0) 0 [some (.ref m), some (.int x), some (.int z), some (.int w)] [] h Q := by
  have hM0 := hM
  unfold ModC at hM
  have hI0 := hI
  have hr0 := hr
  obtain ⟨⟨s1, s2, s3, s4, s5, s6, s7, s8, tn, s9, s10⟩, IM, IP, IJ, IR, IC⟩ := hI
  obtain ⟨⟨r0, r1, r2, r3, r4, r5, r6⟩, rM, rP, rJ, rH, rC⟩ := hr
  refine wp_aload_n (n := 1) dX10_auditOf_0 rfl rfl ?_
  refine wp_aload_n (n := 2) dX10_auditOf_1 rfl rfl ?_
  refine wp_iload_n (n := 3) dX10_auditOf_2 rfl rfl ?_
  refine wp_callV1 (n := 6) (rm' := (1, 22, 0, 0)) rfl dX10_auditOf_3 rfl mlX10_109 (by repeat first | assumption | exact ax_set_self _ _ _ | exact ax_newA_self _ _ _ | refine (ax_set_ne _ _ (by omega)).trans ?_ | refine (ax_newA_ne _ _ _ (by omega)).trans ?_) rfl rfl rfl rfl rfl ?_
  refine s_X10_isPool hM0 hR r1 s2 ?_
  show WP Γ _ _ _ _ _ _ _
  refine wp_iconst (n := 7) (v := nI 1) dX10_auditOf_6 rfl (by decide) ?_
  refine wp_callV2 (n := 10) (rm' := (0, 0, 0, 0)) rfl dX10_auditOf_7 rfl mlX10_113 (by repeat first | assumption | exact ax_set_self _ _ _ | exact ax_newA_self _ _ _ | refine (ax_set_ne _ _ (by omega)).trans ?_ | refine (ax_newA_ne _ _ _ (by omega)).trans ?_) rfl rfl rfl rfl rfl ?_
  refine s_X10_isThrown hM0 hA (fun h1 f1 m1 => ?_)
  show WP Γ _ _ _ _ _ _ _
  have fa1 := f1
  have hR1 := fa1.get hR (by omega)
  cases hx1 : inN w np with
  | false =>
    rw [hx1] at m1
    refine wp_if_ne (t := 27) (n := 13) dX10_auditOf_10 (by decide) rfl (fun hq => ?_) (fun hq => ?_)
    · refine wp_iconst (n := 28) (v := 0) dX10_auditOf_27 rfl (by decide) ?_
      exact wp_ireturn dX10_auditOf_28 rfl rfl (k1 hx1 h1 fa1 m1)
    · exact absurd hq (by decide)
  | true =>
    rw [hx1] at m1
    have m1' := m1
    unfold ModC at m1'
    refine wp_if_ne (t := 27) (n := 13) dX10_auditOf_10 (by decide) rfl (fun hq => ?_) (fun hq => ?_)
    · exact absurd rfl hq
    · skip
      refine wp_aload_n (n := 14) dX10_auditOf_13 rfl rfl ?_
      refine wp_aload_n (n := 15) dX10_auditOf_14 rfl rfl ?_
      refine wp_iload_n (n := 16) dX10_auditOf_15 rfl rfl ?_
      refine wp_iload_n (n := 17) dX10_auditOf_16 rfl rfl ?_
      refine wp_callV2 (n := 20) (rm' := (1, 22, 0, 0)) rfl dX10_auditOf_17 rfl mlX10_317 (by repeat first | assumption | exact ax_set_self _ _ _ | exact ax_newA_self _ _ _ | refine (ax_set_ne _ _ (by omega)).trans ?_ | refine (ax_newA_ne _ _ _ (by omega)).trans ?_) rfl rfl rfl rfl rfl ?_
      refine s_X10_areChecks m1 hR1 r6 s7 ?_
      show WP Γ _ _ _ _ _ _ _
      refine wp_iconst (n := 21) (v := nI 2) dX10_auditOf_20 rfl (by decide) ?_
      refine wp_callV2 (n := 24) (rm' := (0, 0, 0, 0)) rfl dX10_auditOf_21 rfl mlX10_113 (by repeat first | assumption | exact ax_set_self _ _ _ | exact ax_newA_self _ _ _ | refine (ax_set_ne _ _ (by omega)).trans ?_ | refine (ax_newA_ne _ _ _ (by omega)).trans ?_) rfl rfl rfl rfl rfl ?_
      refine s_X10_isThrown m1 hA (fun hB f2 mB => ?_)
      show WP Γ _ _ _ _ _ _ _
      have fB := fa1.tr (lo := m) (hi := m + 1) f2 (by omega) (by omega)
      have hRB := fB.get hR (by omega)
      cases hx2 : decide (0 ≤ x ∧ x ≤ z ∧ z < nI nc) with
      | false =>
        rw [hx2] at mB
        refine wp_if_eq (t := 29) (n := 27) dX10_auditOf_24 (by decide) rfl (fun hq => ?_) (fun hq => ?_)
        · exact absurd hq (by decide)
        · refine wp_iconst (n := 28) (v := 0) dX10_auditOf_27 rfl (by decide) ?_
          exact wp_ireturn dX10_auditOf_28 rfl rfl (k2 hx1 hx2 hB fB mB)
      | true =>
        rw [hx2] at mB
        have mB' := mB
        unfold ModC at mB'
        refine wp_if_eq (t := 29) (n := 27) dX10_auditOf_24 (by decide) rfl (fun hq => ?_) (fun hq => ?_)
        · skip
          obtain ⟨q, q1, rfl⟩ := inN_get (n := np) (by omega) (of_decide_eq_true hx1).1 (of_decide_eq_true hx1).2
          obtain ⟨i, j, i1, j1, rfl, rfl⟩ := chk_get s7 (of_decide_eq_true hx2)
          obtain ⟨m1, b1, e1⟩ := IC.1 i (by omega)
          obtain ⟨m2, b2, e2⟩ := IC.1 j j1
          have h12 := IC.2 i j m1 m2 i1 j1 e1 e2 (by omega) (by omega)
          refine wp_aload_n (n := 30) dX10_auditOf_29 rfl rfl ?_
          refine wp_iload_n (n := 31) dX10_auditOf_30 rfl rfl ?_
          refine wp_iload_n (n := 32) dX10_auditOf_31 rfl rfl ?_
          refine wp_iload_n (n := 33) dX10_auditOf_32 rfl rfl ?_
          refine wp_callV3 (n := 36) (rm' := (2, 46, 0, 0)) rfl dX10_auditOf_33 rfl mlX10_320 (by repeat first | assumption | exact ax_set_self _ _ _ | exact ax_newA_self _ _ _ | refine (ax_set_ne _ _ (by omega)).trans ?_ | refine (ax_newA_ne _ _ _ (by omega)).trans ?_) rfl rfl rfl rfl rfl ?_
          refine s_X10_audited mB hRB hr0 s5 s7 s2 (by omega) j1 q1 e1 e2 h12 b2 ?_
          show WP Γ _ _ _ _ _ _ _
          exact wp_ireturn dX10_auditOf_36 rfl rfl (k q q1 rfl i j i1 j1 rfl rfl m1 m2 e1 e2 h12 b2 hB fB mB)
        · exact absurd rfl hq

theorem s_X10_mismatches (hM : ModC h m a th tl at' bg er ea lr cm) (hR : h.2 a = some (.inl (.int, 5061, .inl R))) (hr : RowR R np qu ra re le ln nb pl tm ne rw bk nh hw nc cw t y) (hI : Inv np qu ra re le ln nb pl tm ne rw bk nh hw nc cw t y) (hA : Γ.2.1 ≤ m) (ham : ¬ a = m)
    (k : ∀ h', ax_fr m (m + 1) h h' → ModC h' m a (0) tl at' bg er ea lr cm → Q (.inl (some (.int (setB (fun j => decide (¬ bkd nb rw (nI j) ne = nI (cnt pl (nI j) nb))) np)))) h') : WP Γ MX10_mismatches (3, 67, 0, 0) 0 [some (.ref m), none, none] [] h Q := by
  have hM0 := hM
  unfold ModC at hM
  have hI0 := hI
  have hr0 := hr
  obtain ⟨⟨s1, s2, s3, s4, s5, s6, s7, s8, tn, s9, s10⟩, IM, IP, IJ, IR, IC⟩ := hI
  obtain ⟨⟨r0, r1, r2, r3, r4, r5, r6⟩, rM, rP, rJ, rH, rC⟩ := hr
  refine wp_aload_n (n := 1) dX10_mismatches_0 rfl rfl ?_
  refine wp_iconst (n := 2) (v := 0) dX10_mismatches_1 rfl (by decide) ?_
  refine wp_putf (n := 5) dX10_mismatches_2 rfl flX10_50 (by repeat first | assumption | exact ax_set_self _ _ _ | exact ax_newA_self _ _ _ | refine (ax_set_ne _ _ (by omega)).trans ?_ | refine (ax_newA_ne _ _ _ (by omega)).trans ?_) (by omega) (by rfl) rfl rfl ?_
  have f1 : ax_fr m (m + 1) h (ax_set h m (.inr (10, [.ref a, .ref (m + 2), .ref (m + 3), .ref (m + 4), .ref (m + 5), .ref (m + 6), .ref (m + 7), .ref (m + 8), .int 0, .ref (m + 9), .ref (m + 10), .int tl, .int at', .int bg, .int er, .int ea, .int lr, .ref (m + 11), .int cm]))) := ax_fr.set (by omega)
  have m1 := ModC.set h m a 0 tl at' bg er ea lr cm
  have m1' := m1
  unfold ModC at m1'
  have hR1 := f1.get hR (by omega)
  generalize ax_set h m (.inr (10, [.ref a, .ref (m + 2), .ref (m + 3), .ref (m + 4), .ref (m + 5), .ref (m + 6), .ref (m + 7), .ref (m + 8), .int 0, .ref (m + 9), .ref (m + 10), .int tl, .int at', .int bg, .int er, .int ea, .int lr, .ref (m + 11), .int cm])) = h1 at *
  refine wp_iconst (n := 6) (v := 0) dX10_mismatches_5 rfl (by decide) ?_
  refine wp_istore_n (n := 7) dX10_mismatches_6 rfl rfl rfl rfl ?_
  refine wp_iconst (n := 8) (v := 0) dX10_mismatches_7 rfl (by decide) ?_
  refine wp_istore_n (n := 9) dX10_mismatches_8 rfl rfl rfl rfl ?_
  suffices L : ∀ q, q ≤ np → WP Γ MX10_mismatches (3, 67, 0, 0) 9 [some (.ref m), some (.int (setB (fun j => decide (¬ bkd nb rw (nI j) ne = nI (cnt pl (nI j) nb))) q)), some (.int (nI q))] [] h1 Q from L 0 (Nat.zero_le _)
  refine ax_up np (fun q hq ih => ?_)
  refine wp_iload_n (n := 10) dX10_mismatches_9 rfl rfl ?_
  refine wp_aload_n (n := 11) dX10_mismatches_10 rfl rfl ?_
  refine wp_getf (n := 14) dX10_mismatches_11 rfl flX10_9 (by repeat first | assumption | exact ax_set_self _ _ _ | exact ax_newA_self _ _ _ | refine (ax_set_ne _ _ (by omega)).trans ?_ | refine (ax_newA_ne _ _ _ (by omega)).trans ?_) (by rfl) ?_
  refine wp_iconst (n := 15) (v := nI 1) dX10_mismatches_14 rfl (by decide) ?_
  refine wp_iald (n := 16) _ dX10_mismatches_15 rfl (by repeat first | assumption | exact ax_set_self _ _ _ | exact ax_newA_self _ _ _ | refine (ax_set_ne _ _ (by omega)).trans ?_ | refine (ax_newA_ne _ _ _ (by omega)).trans ?_) rfl (by omega) (by decide) ?_
  rw [r1]
  refine wp_icmp_ge (t := 48) (n := 19) dX10_mismatches_16 (by decide) rfl (fun hc => ?_) (fun hc => ?_)
  · rw [nI_le9 (by omega) (by omega)] at hc
    obtain rfl : q = np := by omega
    refine wp_iload_n (n := 49) dX10_mismatches_48 rfl rfl ?_
    exact wp_ireturn dX10_mismatches_49 rfl rfl (k h1 f1 m1)
  · rw [nI_le9 (by omega) (by omega)] at hc
    have hlt : q < np := by omega
    have ih := ih hlt
    refine wp_iload_n (n := 20) dX10_mismatches_19 rfl rfl ?_
    refine wp_aload_n (n := 21) dX10_mismatches_20 rfl rfl ?_
    refine wp_iload_n (n := 22) dX10_mismatches_21 rfl rfl ?_
    refine wp_callV1 (n := 25) (rm' := (2, 46, 0, 0)) rfl dX10_mismatches_22 rfl mlX10_284 (by repeat first | assumption | exact ax_set_self _ _ _ | exact ax_newA_self _ _ _ | refine (ax_set_ne _ _ (by omega)).trans ?_ | refine (ax_newA_ne _ _ _ (by omega)).trans ?_) rfl rfl rfl rfl rfl ?_
    refine s_X10_bookedOf m1 hR1 hr0 s5 ?_
    show WP Γ _ _ _ _ _ _ _
    refine wp_aload_n (n := 26) dX10_mismatches_25 rfl rfl ?_
    refine wp_iload_n (n := 27) dX10_mismatches_26 rfl rfl ?_
    refine wp_callV1 (n := 30) (rm' := (0, 0, 0, 0)) rfl dX10_mismatches_27 rfl mlX10_62 (by repeat first | assumption | exact ax_set_self _ _ _ | exact ax_newA_self _ _ _ | refine (ax_set_ne _ _ (by omega)).trans ?_ | refine (ax_newA_ne _ _ _ (by omega)).trans ?_) rfl rfl rfl rfl rfl ?_
    refine s_X10_balanceOf m1 hR1 r0 rM s4 ?_
    show WP Γ _ _ _ _ _ _ _
    refine wp_icmp_eq (t := 39) (n := 33) dX10_mismatches_30 (by decide) rfl (fun hs => ?_) (fun hs => ?_)
    · simp only [setB, hs, not_true_eq_false, decide_false, Bool.false_eq_true, if_false] at ih
      refine wp_iconst (n := 40) (v := 0) dX10_mismatches_39 rfl (by decide) ?_
      refine wp_ior (n := 41) dX10_mismatches_40 rfl ?_
      rw [Int32.or_zero]
      refine wp_istore_n (n := 42) dX10_mismatches_41 rfl rfl rfl rfl ?_
      refine wp_iinc (n := 45) dX10_mismatches_42 rfl rfl (nI_inc q) rfl rfl rfl ?_
      refine wp_goto (t := 9) dX10_mismatches_45 (by decide) ?_
      exact ih
    · simp only [setB, hs, not_false_eq_true, decide_true, if_true] at ih
      refine wp_iconst (n := 34) (v := nI 1) dX10_mismatches_33 rfl (by decide) ?_
      refine wp_iload_n (n := 35) dX10_mismatches_34 rfl rfl ?_
      refine wp_ishl (n := 36) dX10_mismatches_35 rfl ?_
      refine wp_goto (t := 40) dX10_mismatches_36 (by decide) ?_
      refine wp_ior (n := 41) dX10_mismatches_40 rfl ?_
      refine wp_istore_n (n := 42) dX10_mismatches_41 rfl rfl rfl rfl ?_
      refine wp_iinc (n := 45) dX10_mismatches_42 rfl rfl (nI_inc q) rfl rfl rfl ?_
      refine wp_goto (t := 9) dX10_mismatches_45 (by decide) ?_
      exact ih

end
