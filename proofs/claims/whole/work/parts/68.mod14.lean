/-! ===== the reference: bookedUpTo, bookedOf ===== -/
section
variable {Γ : GE} {h : AH} {Q : PO} {m a np nb ne nh nc y : Nat} {R : FI} {qu ra le ln pl tm rw hw cw pk : FI} {re : Nat → UInt32} {bk : Nat → Int64} {t x z w v th tl at' bg er ea lr cm : Int32}
theorem s_X10_bookedUpTo {n : Nat} (hM : ModC h m a th tl at' bg er ea lr cm) (hR : h.2 a = some (.inl (.int, 5061, .inl R))) (hS : R 0 = nI nb) (rJ : RowJ R ne rw bk) (hne : ne ≤ 300) (hn : n ≤ ne)
    (k : Q (.inl (some (.int (bkd nb rw x n)))) h) : WP Γ MX10_bookedUpTo (1, 22, 0, 0) 0 [some (.ref m), some (.int x), some (.int (nI n)), none, none] [] h Q := by
  have hM0 := hM
  unfold ModC at hM
  have L : ∀ j, j ≤ n → WP Γ MX10_bookedUpTo (1, 22, 0, 0) 18 [some (.ref m), some (.int x), some (.int (nI n)), some (.int (bkd nb rw x j)), some (.int (nI j))] [] h Q := by
    refine ax_up n (fun j hj ih => ?_)
    refine wp_iload (n := 20) dX10_bookedUpTo_18 rfl rfl ?_
    refine wp_iload_n (n := 21) dX10_bookedUpTo_20 rfl rfl ?_
    refine wp_icmp_ge (t := 80) (n := 24) dX10_bookedUpTo_21 (by decide) rfl (fun hc => ?_) (fun hc => ?_)
    · rw [nI_le9 (by omega) (by omega)] at hc
      obtain rfl : j = n := by omega
      refine wp_iload_n (n := 81) dX10_bookedUpTo_80 rfl rfl ?_
      exact wp_ireturn dX10_bookedUpTo_81 rfl rfl (k)
    · rw [nI_le9 (by omega) (by omega)] at hc
      have ih := ih (by omega)
      have rE := (rJ j (by omega)).1
      have e9 : bkd nb rw x (j + 1) = bkd nb rw x j + (if rw (j * 7 + 1) = x then rw (j * 7 + 2) else 0) - (if rw (j * 7 + 0) = x then rw (j * 7 + 2) else 0) := by
        unfold bkd
        simp only [sumI, chgJ]
        rw [Int32.sub_eq_add_neg, Int32.sub_eq_add_neg, Int32.add_assoc, Int32.add_assoc]
      rw [e9] at ih
      have S : ∀ p, p = (if rw (j * 7 + 1) = x then rw (j * 7 + 2) else 0) → WP Γ MX10_bookedUpTo (1, 22, 0, 0) 47 [some (.ref m), some (.int x), some (.int (nI n)), some (.int (bkd nb rw x j)), some (.int (nI j))] [.int p, .int (bkd nb rw x j)] h Q := by
        intro p hp
        subst hp
        refine wp_iadd (n := 48) dX10_bookedUpTo_47 rfl ?_
        refine wp_istore_n (n := 49) dX10_bookedUpTo_48 rfl rfl rfl rfl ?_
        refine wp_iload_n (n := 50) dX10_bookedUpTo_49 rfl rfl ?_
        refine wp_aload_n (n := 51) dX10_bookedUpTo_50 rfl rfl ?_
        refine wp_iload (n := 53) dX10_bookedUpTo_51 rfl rfl ?_
        refine wp_iconst (n := 54) (v := 0) dX10_bookedUpTo_53 rfl (by decide) ?_
        refine wp_callV2 (n := 57) (rm' := (0, 0, 0, 0)) rfl dX10_bookedUpTo_54 rfl mlX10_85 (by repeat first | assumption | exact ax_set_self _ _ _ | exact ax_newA_self _ _ _ | refine (ax_set_ne _ _ (by omega)).trans ?_ | refine (ax_newA_ne _ _ _ (by omega)).trans ?_) rfl rfl rfl rfl rfl ?_
        refine s_X10_entry (q := 0) hM0 hR (by omega) (by omega) ?_
        show WP Γ _ _ _ _ _ _ _
        rw [rE 0 (by omega)]
        refine wp_iload_n (n := 58) dX10_bookedUpTo_57 rfl rfl ?_
        refine wp_icmp_ne (t := 71) (n := 61) dX10_bookedUpTo_58 (by decide) rfl (fun hq => ?_) (fun hq => ?_)
        · refine wp_iconst (n := 72) (v := 0) dX10_bookedUpTo_71 rfl (by decide) ?_
          refine wp_isub (n := 73) dX10_bookedUpTo_72 rfl ?_
          refine wp_istore_n (n := 74) dX10_bookedUpTo_73 rfl rfl rfl rfl ?_
          refine wp_iinc (n := 77) dX10_bookedUpTo_74 rfl rfl (nI_inc j) rfl rfl rfl ?_
          refine wp_goto (t := 18) dX10_bookedUpTo_77 (by decide) ?_
          rw [if_neg hq] at ih
          exact ih
        · refine wp_aload_n (n := 62) dX10_bookedUpTo_61 rfl rfl ?_
          refine wp_iload (n := 64) dX10_bookedUpTo_62 rfl rfl ?_
          refine wp_iconst (n := 65) (v := nI 2) dX10_bookedUpTo_64 rfl (by decide) ?_
          refine wp_callV2 (n := 68) (rm' := (0, 0, 0, 0)) rfl dX10_bookedUpTo_65 rfl mlX10_85 (by repeat first | assumption | exact ax_set_self _ _ _ | exact ax_newA_self _ _ _ | refine (ax_set_ne _ _ (by omega)).trans ?_ | refine (ax_newA_ne _ _ _ (by omega)).trans ?_) rfl rfl rfl rfl rfl ?_
          refine s_X10_entry hM0 hR (by omega) (by omega) ?_
          show WP Γ _ _ _ _ _ _ _
          rw [rE 2 (by omega)]
          refine wp_goto (t := 72) dX10_bookedUpTo_68 (by decide) ?_
          refine wp_isub (n := 73) dX10_bookedUpTo_72 rfl ?_
          refine wp_istore_n (n := 74) dX10_bookedUpTo_73 rfl rfl rfl rfl ?_
          refine wp_iinc (n := 77) dX10_bookedUpTo_74 rfl rfl (nI_inc j) rfl rfl rfl ?_
          refine wp_goto (t := 18) dX10_bookedUpTo_77 (by decide) ?_
          rw [if_pos hq] at ih
          exact ih
      refine wp_iload_n (n := 25) dX10_bookedUpTo_24 rfl rfl ?_
      refine wp_aload_n (n := 26) dX10_bookedUpTo_25 rfl rfl ?_
      refine wp_iload (n := 28) dX10_bookedUpTo_26 rfl rfl ?_
      refine wp_iconst (n := 29) (v := nI 1) dX10_bookedUpTo_28 rfl (by decide) ?_
      refine wp_callV2 (n := 32) (rm' := (0, 0, 0, 0)) rfl dX10_bookedUpTo_29 rfl mlX10_85 (by repeat first | assumption | exact ax_set_self _ _ _ | exact ax_newA_self _ _ _ | refine (ax_set_ne _ _ (by omega)).trans ?_ | refine (ax_newA_ne _ _ _ (by omega)).trans ?_) rfl rfl rfl rfl rfl ?_
      refine s_X10_entry hM0 hR (by omega) (by omega) ?_
      show WP Γ _ _ _ _ _ _ _
      rw [rE 1 (by omega)]
      refine wp_iload_n (n := 33) dX10_bookedUpTo_32 rfl rfl ?_
      refine wp_icmp_ne (t := 46) (n := 36) dX10_bookedUpTo_33 (by decide) rfl (fun hq => ?_) (fun hq => ?_)
      · refine wp_iconst (n := 47) (v := 0) dX10_bookedUpTo_46 rfl (by decide) ?_
        exact S _ (by rw [if_neg hq])
      · refine wp_aload_n (n := 37) dX10_bookedUpTo_36 rfl rfl ?_
        refine wp_iload (n := 39) dX10_bookedUpTo_37 rfl rfl ?_
        refine wp_iconst (n := 40) (v := nI 2) dX10_bookedUpTo_39 rfl (by decide) ?_
        refine wp_callV2 (n := 43) (rm' := (0, 0, 0, 0)) rfl dX10_bookedUpTo_40 rfl mlX10_85 (by repeat first | assumption | exact ax_set_self _ _ _ | exact ax_newA_self _ _ _ | refine (ax_set_ne _ _ (by omega)).trans ?_ | refine (ax_newA_ne _ _ _ (by omega)).trans ?_) rfl rfl rfl rfl rfl ?_
        refine s_X10_entry hM0 hR (by omega) (by omega) ?_
        show WP Γ _ _ _ _ _ _ _
        rw [rE 2 (by omega)]
        refine wp_goto (t := 47) dX10_bookedUpTo_43 (by decide) ?_
        exact S _ (by rw [if_pos hq])
  have e0 : bkd nb rw x 0 = opn nb x := Int32.add_zero _
  have L0 := L 0 (Nat.zero_le _)
  rw [e0] at L0
  unfold opn at L0
  refine wp_iload_n (n := 1) dX10_bookedUpTo_0 rfl rfl ?_
  refine wp_if_ne (t := 13) (n := 4) dX10_bookedUpTo_1 (by decide) rfl (fun hc => ?_) (fun hc => ?_)
  · rw [if_neg hc] at L0
    refine wp_iconst (n := 14) (v := 0) dX10_bookedUpTo_13 rfl (by decide) ?_
    refine wp_istore_n (n := 15) dX10_bookedUpTo_14 rfl rfl rfl rfl ?_
    refine wp_iconst (n := 16) (v := 0) dX10_bookedUpTo_15 rfl (by decide) ?_
    refine wp_istore (n := 18) dX10_bookedUpTo_16 rfl rfl rfl rfl ?_
    exact L0
  · rw [if_pos hc] at L0
    refine wp_aload_n (n := 5) dX10_bookedUpTo_4 rfl rfl ?_
    refine wp_getf (n := 8) dX10_bookedUpTo_5 rfl flX10_9 (by repeat first | assumption | exact ax_set_self _ _ _ | exact ax_newA_self _ _ _ | refine (ax_set_ne _ _ (by omega)).trans ?_ | refine (ax_newA_ne _ _ _ (by omega)).trans ?_) (by rfl) ?_
    refine wp_iconst (n := 9) (v := 0) dX10_bookedUpTo_8 rfl (by decide) ?_
    refine wp_iald (n := 10) 0 dX10_bookedUpTo_9 rfl hR rfl (by omega) (by omega) ?_
    rw [hS]
    refine wp_goto (t := 14) dX10_bookedUpTo_10 (by decide) ?_
    refine wp_istore_n (n := 15) dX10_bookedUpTo_14 rfl rfl rfl rfl ?_
    refine wp_iconst (n := 16) (v := 0) dX10_bookedUpTo_15 rfl (by decide) ?_
    refine wp_istore (n := 18) dX10_bookedUpTo_16 rfl rfl rfl rfl ?_
    exact L0
theorem s_X10_bookedOf (hM : ModC h m a th tl at' bg er ea lr cm) (hR : h.2 a = some (.inl (.int, 5061, .inl R))) (hr : RowR R np qu ra re le ln nb pl tm ne rw bk nh hw nc cw t y) (hne : ne ≤ 300)
    (k : Q (.inl (some (.int (bkd nb rw x ne)))) h) : WP Γ MX10_bookedOf (2, 46, 0, 0) 0 [some (.ref m), some (.int x)] [] h Q := by
  have hM0 := hM
  unfold ModC at hM
  obtain ⟨⟨r0, r1, r2, r3, r4, r5, r6⟩, rM, rP, rJ, rH, rC⟩ := hr
  refine wp_aload_n (n := 1) dX10_bookedOf_0 rfl rfl ?_
  refine wp_iload_n (n := 2) dX10_bookedOf_1 rfl rfl ?_
  refine wp_aload_n (n := 3) dX10_bookedOf_2 rfl rfl ?_
  refine wp_getf (n := 6) dX10_bookedOf_3 rfl flX10_9 (by repeat first | assumption | exact ax_set_self _ _ _ | exact ax_newA_self _ _ _ | refine (ax_set_ne _ _ (by omega)).trans ?_ | refine (ax_newA_ne _ _ _ (by omega)).trans ?_) (by rfl) ?_
  refine wp_iconst (n := 7) (v := nI 4) dX10_bookedOf_6 rfl (by decide) ?_
  refine wp_iald (n := 8) _ dX10_bookedOf_7 rfl (by repeat first | assumption | exact ax_set_self _ _ _ | exact ax_newA_self _ _ _ | refine (ax_set_ne _ _ (by omega)).trans ?_ | refine (ax_newA_ne _ _ _ (by omega)).trans ?_) rfl (by omega) (by decide) ?_
  rw [r4]
  refine wp_callV2 (n := 11) (rm' := (1, 22, 0, 0)) rfl dX10_bookedOf_8 rfl mlX10_281 (by repeat first | assumption | exact ax_set_self _ _ _ | exact ax_newA_self _ _ _ | refine (ax_set_ne _ _ (by omega)).trans ?_ | refine (ax_newA_ne _ _ _ (by omega)).trans ?_) rfl rfl rfl rfl rfl ?_
  refine s_X10_bookedUpTo hM0 hR r0 rJ hne (Nat.le_refl _) ?_
  show WP Γ _ _ _ _ _ _ _
  exact wp_ireturn dX10_bookedOf_11 rfl rfl (k)
end
