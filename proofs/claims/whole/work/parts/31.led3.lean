/-! ===== Ledger: begin, copy, time, marks ===== -/
set_option maxRecDepth 20000 in
theorem imX6_init : Cond.instanceMethod MX6_init.1 ∈ TB := TB_1 105 rfl rfl
set_option maxRecDepth 20000 in
theorem imX1_init : Cond.instanceMethod MX1_init.1 ∈ TB := TB_1 138 rfl rfl
set_option maxRecDepth 20000 in
theorem imX4_init : Cond.instanceMethod MX4_init.1 ∈ TB := TB_1 165 rfl rfl
set_option maxRecDepth 20000 in
theorem imX7_init : Cond.instanceMethod MX7_init.1 ∈ TB := TB_1 185 rfl rfl
set_option maxRecDepth 20000 in
theorem imX2_init : Cond.instanceMethod MX2_init.1 ∈ TB := TB_1 200 rfl rfl
def rntA (ra : FI) (re : Nat → UInt32) (pl : FI) (nb : Nat) (tk : Int32) (j : Nat) : UInt32 := FP.fadd (re j) (FP.fmul (FP.fdiv (FP.i2f (ra j)) 1120403456) (FP.i2f (nI (cnt pl (nI j) nb) * tk)))
section
variable {Γ : GE} {h : AH} {Q : PO} {b np nb ne nh nc y : Nat} {qu ra le ln pl tm rw hw cw pk : FI} {re : Nat → UInt32} {bk : Nat → Int64} {t x : Int32}
theorem s_X5_rentAfter {j k1 r : Nat} (hL : LedP h b np qu ra re le ln nb pl tm ne rw bk nh hw nc cw t y pk) (hn : nb ≤ 200) (hj : j < 8) (hk : k1 ≤ 1000) (hre : PF (re j)) (hra : ra j = nI r) (hr : r ≤ 9999)
    (k : PF (rntA ra re pl nb (nI k1) j) → Q (.inl (some (.float (rntA ra re pl nb (nI k1) j)))) h) : WP Γ MX5_rentAfter (1, 23, 0, 0) 0 [some (.ref b), some (.int (nI j)), some (.int (nI k1))] [] h Q := by
  obtain ⟨hO, hP, hM, hJ, hR, hC, su, hS⟩ := hL
  have hP1 := hP.1
  have hM1 := hM.1
  have hJ1 := hJ.1
  have hR1 := hR.1
  have hC1 := hC.1
  have hP2 := hP.2.1
  have hP3 := hP.2.2.1
  have hP4 := hP.2.2.2.1
  have hM2 := hM.2.1
  have hM3 := hM.2.2.1
  have hM4 := hM.2.2.2
  have hc := cnt_le pl (nI j) nb
  have hm : cnt pl (nI j) nb * k1 ≤ 200000 := Nat.le_trans (Nat.mul_le_mul (Nat.le_trans hc hn) hk) (by omega)
  have f1 : FF (FP.fdiv (FP.i2f (ra j)) 1120403456) := by
    rw [hra]
    refine FF.rate ?_ ?_
    · rw [nI_toInt (by omega)]; omega
    · rw [nI_toInt (by omega)]; omega
  have f2 : FF (FP.i2f (nI (cnt pl (nI j) nb) * nI k1)) := by
    rw [nI_mul]
    refine FF.i2f ?_
    rw [nI_toInt (by omega)]; omega
  have f3 := f1.mul f2
  have f4 := hre.add f3
  refine wp_aload_n (n := 1) dX5_rentAfter_0 rfl rfl ?_
  refine wp_getf (n := 4) dX5_rentAfter_1 rfl flX5_12 (by repeat first | assumption | exact ax_set_self _ _ _ | exact ax_newA_self _ _ _ | refine (ax_set_ne _ _ (by omega)).trans ?_ | refine (ax_newA_ne _ _ _ (by omega)).trans ?_) (by rfl) ?_
  refine wp_getf (n := 7) dX5_rentAfter_4 rfl flX5_185 (by repeat first | assumption | exact ax_set_self _ _ _ | exact ax_newA_self _ _ _ | refine (ax_set_ne _ _ (by omega)).trans ?_ | refine (ax_newA_ne _ _ _ (by omega)).trans ?_) (by rfl) ?_
  refine wp_iload_n (n := 8) dX5_rentAfter_7 rfl rfl ?_
  refine wp_fald (n := 9) _ dX5_rentAfter_8 rfl (by repeat first | assumption | exact ax_set_self _ _ _ | exact ax_newA_self _ _ _ | refine (ax_set_ne _ _ (by omega)).trans ?_ | refine (ax_newA_ne _ _ _ (by omega)).trans ?_) rfl (by omega) (by decide) ?_
  refine wp_aload_n (n := 10) dX5_rentAfter_9 rfl rfl ?_
  refine wp_getf (n := 13) dX5_rentAfter_10 rfl flX5_12 (by repeat first | assumption | exact ax_set_self _ _ _ | exact ax_newA_self _ _ _ | refine (ax_set_ne _ _ (by omega)).trans ?_ | refine (ax_newA_ne _ _ _ (by omega)).trans ?_) (by rfl) ?_
  refine wp_getf (n := 16) dX5_rentAfter_13 rfl flX5_196 (by repeat first | assumption | exact ax_set_self _ _ _ | exact ax_newA_self _ _ _ | refine (ax_set_ne _ _ (by omega)).trans ?_ | refine (ax_newA_ne _ _ _ (by omega)).trans ?_) (by rfl) ?_
  refine wp_iload_n (n := 17) dX5_rentAfter_16 rfl rfl ?_
  refine wp_iald (n := 18) _ dX5_rentAfter_17 rfl (by repeat first | assumption | exact ax_set_self _ _ _ | exact ax_newA_self _ _ _ | refine (ax_set_ne _ _ (by omega)).trans ?_ | refine (ax_newA_ne _ _ _ (by omega)).trans ?_) rfl (by omega) (by decide) ?_
  refine wp_i2f (n := 19) dX5_rentAfter_18 rfl ?_
  refine wp_ldcf (n := 21) dX5_rentAfter_19 rfl kfX5_199 ?_
  refine wp_fdiv (n := 22) dX5_rentAfter_21 rfl (n32_of f1.pf.nn) ?_
  refine wp_aload_n (n := 23) dX5_rentAfter_22 rfl rfl ?_
  refine wp_getf (n := 26) dX5_rentAfter_23 rfl flX5_21 (by repeat first | assumption | exact ax_set_self _ _ _ | exact ax_newA_self _ _ _ | refine (ax_set_ne _ _ (by omega)).trans ?_ | refine (ax_newA_ne _ _ _ (by omega)).trans ?_) (by rfl) ?_
  refine wp_iload_n (n := 27) dX5_rentAfter_26 rfl rfl ?_
  refine wp_callV1 (n := 30) (rm' := (0, 0, 0, 0)) rfl dX5_rentAfter_27 rfl mlX5_83 (by repeat first | assumption | exact ax_set_self _ _ _ | exact ax_newA_self _ _ _ | refine (ax_set_ne _ _ (by omega)).trans ?_ | refine (ax_newA_ne _ _ _ (by omega)).trans ?_) rfl rfl rfl rfl rfl ?_
  refine s_X1_countIn hM hn ?_
  show WP Γ _ _ _ _ _ _ _
  refine wp_iload_n (n := 31) dX5_rentAfter_30 rfl rfl ?_
  refine wp_imul (n := 32) dX5_rentAfter_31 rfl ?_
  refine wp_i2f (n := 33) dX5_rentAfter_32 rfl ?_
  refine wp_fmul (n := 34) dX5_rentAfter_33 rfl (n32_of f3.nn) ?_
  refine wp_fadd (n := 35) dX5_rentAfter_34 rfl (n32_of f4.nn) ?_
  exact wp_freturn dX5_rentAfter_35 rfl (k f4)
theorem s_X5_pass {k1 tn : Nat} (hL : LedP h b np qu ra re le ln nb pl tm ne rw bk nh hw nc cw t y pk) (hA : Γ.2.1 ≤ b) (hn : nb ≤ 200) (hp : np ≤ 8) (hh : nh ≤ 60) (hk : k1 ≤ 1000) (ht : t = nI tn) (htn : tn ≤ 1000000) (hre : ∀ j, j < np → PF (re j)) (hra : ∀ j, j < np → ∃ r, ra j = nI r ∧ r ≤ 9999)
    (k0 : 1000000 < tn + k1 → Q (.inl (some (.int (-2)))) h)
    (kk : tn + k1 ≤ 1000000 → ∀ h' re' hw', ax_fr b (b + 19) h h' → (∀ j, re' j = if j < np then rntA ra re pl nb (nI k1) j else re j) → (∀ j, j < np → PF (re' j)) → (∀ r j, j < 5 → hw' (r * 5 + j) = if j = 4 ∧ r < nh ∧ dueB hw (nI (tn + k1)) r = true then nI 3 else hw (r * 5 + j)) → LedP h' b np qu ra re' le ln nb pl tm ne rw bk nh hw' nc cw (nI (tn + k1)) y pk → Q (.inl (some (.int (nI (cntB (dueB hw (nI (tn + k1))) nh))))) h') : WP Γ MX5_pass (3, 66, 0, 0) 0 [some (.ref b), some (.int (nI k1)), none] [] h Q := by
  subst ht
  have hL0 := hL
  obtain ⟨hO, hP, hM, hJ, hR, hC, su, hS⟩ := hL
  have hP1 := hP.1
  have hM1 := hM.1
  have hJ1 := hJ.1
  have hR1 := hR.1
  have hC1 := hC.1
  have hP2 := hP.2.1
  have hP3 := hP.2.2.1
  have hP4 := hP.2.2.2.1
  have hM2 := hM.2.1
  have hM3 := hM.2.2.1
  have hM4 := hM.2.2.2
  refine wp_aload_n (n := 1) dX5_pass_0 rfl rfl ?_
  refine wp_getf (n := 4) dX5_pass_1 rfl flX5_46 (by repeat first | assumption | exact ax_set_self _ _ _ | exact ax_newA_self _ _ _ | refine (ax_set_ne _ _ (by omega)).trans ?_ | refine (ax_newA_ne _ _ _ (by omega)).trans ?_) (by rfl) ?_
  refine wp_iload_n (n := 5) dX5_pass_4 rfl rfl ?_
  refine wp_iadd (n := 6) dX5_pass_5 rfl ?_
  rw [nI_add]
  refine wp_ldc (n := 8) dX5_pass_6 rfl kcX5_184 ?_
  refine wp_icmp_le (t := 14) (n := 11) dX5_pass_8 (by decide) rfl (fun hc => ?_) (fun hc => ?_)
  · have hc : nI (tn + k1) ≤ nI 1000000 := hc
    have hle : tn + k1 ≤ 1000000 := (nI_le9 (by omega) (by omega)).mp hc
    refine wp_iconst (n := 15) (v := 0) dX5_pass_14 rfl (by decide) ?_
    refine wp_istore_n (n := 16) dX5_pass_15 rfl rfl rfl rfl ?_
    have L : ∀ j, j ≤ np → ∀ h1 re1, ax_fr b (b + 19) h h1 → LedP h1 b np qu ra re1 le ln nb pl tm ne rw bk nh hw nc cw (nI tn) y pk → (∀ i, re1 i = if i < j then rntA ra re pl nb (nI k1) i else re i) → (∀ i, i < j → PF (re1 i)) → WP Γ MX5_pass (3, 66, 0, 0) 16 [some (.ref b), some (.int (nI k1)), some (.int (nI j))] [] h1 Q := by
      refine ax_up np (fun j hj ih => ?_)
      intro h1 re1 hF1 hL1 hz hpf
      have hL0 := hL1
      obtain ⟨hO, hP, hM, hJ, hR, hC, su, hS⟩ := hL1
      have hP1 := hP.1
      have hM1 := hM.1
      have hJ1 := hJ.1
      have hR1 := hR.1
      have hC1 := hC.1
      have hP2 := hP.2.1
      have hP3 := hP.2.2.1
      have hP4 := hP.2.2.2.1
      have hM2 := hM.2.1
      have hM3 := hM.2.2.1
      have hM4 := hM.2.2.2
      refine wp_iload_n (n := 17) dX5_pass_16 rfl rfl ?_
      refine wp_aload_n (n := 18) dX5_pass_17 rfl rfl ?_
      refine wp_getf (n := 21) dX5_pass_18 rfl flX5_12 (by repeat first | assumption | exact ax_set_self _ _ _ | exact ax_newA_self _ _ _ | refine (ax_set_ne _ _ (by omega)).trans ?_ | refine (ax_newA_ne _ _ _ (by omega)).trans ?_) (by rfl) ?_
      refine wp_getf (n := 24) dX5_pass_21 rfl flX5_167 (by repeat first | assumption | exact ax_set_self _ _ _ | exact ax_newA_self _ _ _ | refine (ax_set_ne _ _ (by omega)).trans ?_ | refine (ax_newA_ne _ _ _ (by omega)).trans ?_) (by rfl) ?_
      refine wp_icmp_ge (t := 48) (n := 27) dX5_pass_24 (by decide) rfl (fun hq => ?_) (fun hq => ?_)
      · rw [nI_le9 (by omega) (by omega)] at hq
        obtain rfl : j = np := by omega
        refine wp_aload_n (n := 49) dX5_pass_48 rfl rfl ?_
        refine wp_dup (n := 50) dX5_pass_49 rfl rfl ?_
        refine wp_getf (n := 53) dX5_pass_50 rfl flX5_46 (by repeat first | assumption | exact ax_set_self _ _ _ | exact ax_newA_self _ _ _ | refine (ax_set_ne _ _ (by omega)).trans ?_ | refine (ax_newA_ne _ _ _ (by omega)).trans ?_) (by rfl) ?_
        refine wp_iload_n (n := 54) dX5_pass_53 rfl rfl ?_
        refine wp_iadd (n := 55) dX5_pass_54 rfl ?_
        rw [nI_add]
        refine wp_putf (n := 58) dX5_pass_55 rfl flX5_46 (by repeat first | assumption | exact ax_set_self _ _ _ | exact ax_newA_self _ _ _ | refine (ax_set_ne _ _ (by omega)).trans ?_ | refine (ax_newA_ne _ _ _ (by omega)).trans ?_) (by omega) (by rfl) rfl rfl ?_
        have hL2 := hL0.top (nI (tn + k1)) y
        have hL0 := hL2
        obtain ⟨hO, hP, hM, hJ, hR, hC, su, hS⟩ := hL2
        have hP1 := hP.1
        have hM1 := hM.1
        have hJ1 := hJ.1
        have hR1 := hR.1
        have hC1 := hC.1
        have hP2 := hP.2.1
        have hP3 := hP.2.2.1
        have hP4 := hP.2.2.2.1
        have hM2 := hM.2.1
        have hM3 := hM.2.2.1
        have hM4 := hM.2.2.2
        refine wp_aload_n (n := 59) dX5_pass_58 rfl rfl ?_
        refine wp_getf (n := 62) dX5_pass_59 rfl flX5_35 (by repeat first | assumption | exact ax_set_self _ _ _ | exact ax_newA_self _ _ _ | refine (ax_set_ne _ _ (by omega)).trans ?_ | refine (ax_newA_ne _ _ _ (by omega)).trans ?_) (by rfl) ?_
        refine wp_aload_n (n := 63) dX5_pass_62 rfl rfl ?_
        refine wp_getf (n := 66) dX5_pass_63 rfl flX5_46 (by repeat first | assumption | exact ax_set_self _ _ _ | exact ax_newA_self _ _ _ | refine (ax_set_ne _ _ (by omega)).trans ?_ | refine (ax_newA_ne _ _ _ (by omega)).trans ?_) (by rfl) ?_
        refine wp_callV1 (n := 69) (rm' := (2, 43, 0, 0)) rfl dX5_pass_66 rfl mlX5_193 (by repeat first | assumption | exact ax_set_self _ _ _ | exact ax_newA_self _ _ _ | refine (ax_set_ne _ _ (by omega)).trans ?_ | refine (ax_newA_ne _ _ _ (by omega)).trans ?_) rfl rfl rfl rfl rfl ?_
        refine s_X7_expire hR (by omega) hh (fun h3 hw3 hF3 hR3 hz3 => ?_)
        show WP Γ _ _ _ _ _ _ _
        exact wp_ireturn dX5_pass_69 rfl rfl (kk hle _ re1 hw3 ((hF1.put (by omega)).tr (lo := b) (hi := b + 19) hF3 (by omega) (by omega)) hz hpf hz3 (hL0.res hF3 hR3))
      · rw [nI_le9 (by omega) (by omega)] at hq
        obtain ⟨r, hr1, hr2⟩ := hra j (by omega)
        have hrj : re1 j = re j := by rw [hz j, if_neg (by omega)]
        refine wp_aload_n (n := 28) dX5_pass_27 rfl rfl ?_
        refine wp_getf (n := 31) dX5_pass_28 rfl flX5_12 (by repeat first | assumption | exact ax_set_self _ _ _ | exact ax_newA_self _ _ _ | refine (ax_set_ne _ _ (by omega)).trans ?_ | refine (ax_newA_ne _ _ _ (by omega)).trans ?_) (by rfl) ?_
        refine wp_getf (n := 34) dX5_pass_31 rfl flX5_185 (by repeat first | assumption | exact ax_set_self _ _ _ | exact ax_newA_self _ _ _ | refine (ax_set_ne _ _ (by omega)).trans ?_ | refine (ax_newA_ne _ _ _ (by omega)).trans ?_) (by rfl) ?_
        refine wp_iload_n (n := 35) dX5_pass_34 rfl rfl ?_
        refine wp_aload_n (n := 36) dX5_pass_35 rfl rfl ?_
        refine wp_iload_n (n := 37) dX5_pass_36 rfl rfl ?_
        refine wp_iload_n (n := 38) dX5_pass_37 rfl rfl ?_
        refine wp_callV2 (n := 41) (rm' := (1, 23, 0, 0)) rfl dX5_pass_38 rfl mlX5_189 (by repeat first | assumption | exact ax_set_self _ _ _ | exact ax_newA_self _ _ _ | refine (ax_set_ne _ _ (by omega)).trans ?_ | refine (ax_newA_ne _ _ _ (by omega)).trans ?_) rfl rfl rfl rfl rfl ?_
        refine s_X5_rentAfter hL0 hn (by omega) hk (by rw [hrj]; exact hre j (by omega)) hr1 hr2 (fun hpj => ?_)
        show WP Γ _ _ _ _ _ _ _
        refine wp_fast (n := 42) _ dX5_pass_41 rfl (by repeat first | assumption | exact ax_set_self _ _ _ | exact ax_newA_self _ _ _ | refine (ax_set_ne _ _ (by omega)).trans ?_ | refine (ax_newA_ne _ _ _ (by omega)).trans ?_) (by omega) rfl (by omega) (by decide) ?_
        refine wp_iinc (n := 45) dX5_pass_42 rfl rfl (nI_inc j) rfl rfl rfl ?_
        refine wp_goto (t := 16) dX5_pass_45 (by decide) ?_
        have e : rntA ra re1 pl nb (nI k1) j = rntA ra re pl nb (nI k1) j := by unfold rntA; rw [hrj]
        refine ih (by omega) _ _ (hF1.put (by omega)) (hL0.poo (ax_fr.set (by omega)) (hP.setT _)) (fun i => ?_) (fun i hi => ?_)
        · simp only [vf_upd]
          by_cases q : i = j
          · rw [if_pos q, if_pos (by omega), q, e]
          · rw [if_neg q, hz i]
            have : (i < j) ↔ (i < j + 1) := by omega
            simp only [this]
        · simp only [vf_upd]
          by_cases q : i = j
          · rw [if_pos q]; exact hpj
          · rw [if_neg q]; exact hpf i (by omega)
    exact L 0 (Nat.zero_le _) h re ax_fr.rf hL0 (fun i => by rw [if_neg (by omega)]) (fun i hi => absurd hi (Nat.not_lt_zero _))
  · have hc : ¬ nI (tn + k1) ≤ nI 1000000 := hc
    rw [nI_le9 (by omega) (by omega)] at hc
    refine wp_bipush (n := 13) (v := (-2)) dX5_pass_11 rfl (by decide) ?_
    exact wp_ireturn dX5_pass_13 rfl rfl (k0 (by omega))
theorem s_X5_mark (hL : LedP h b np qu ra re le ln nb pl tm ne rw bk nh hw nc cw t y pk) (hA : Γ.2.1 ≤ b) (hn : nb ≤ 200) (hp : np ≤ 8) (hc9 : nc ≤ 10)
    (k0 : 10 ≤ nc → Q (.inl (some (.int (-2)))) h)
    (k1 : nc < 10 → ∀ h' cw', ax_fr b (b + 19) h h' → (∀ i, i < nc * 9 → cw' i = cw i) → (∀ j, j < np → cw' (nc * 9 + j) = nI (cnt pl (nI j) nb)) → cw' (nc * 9 + 8) = nI ne → LedP h' b np qu ra re le ln nb pl tm ne rw bk nh hw (nc + 1) cw' t y pk → Q (.inl (some (.int (nI nc)))) h') : WP Γ MX5_mark (1, 23, 0, 0) 0 [some (.ref b), none, none] [] h Q := by
  have hL0 := hL
  obtain ⟨hO, hP, hM, hJ, hR, hC, su, hS⟩ := hL
  have hP1 := hP.1
  have hM1 := hM.1
  have hJ1 := hJ.1
  have hR1 := hR.1
  have hC1 := hC.1
  have hP2 := hP.2.1
  have hP3 := hP.2.2.1
  have hP4 := hP.2.2.2.1
  have hM2 := hM.2.1
  have hM3 := hM.2.2.1
  have hM4 := hM.2.2.2
  refine wp_aload_n (n := 1) dX5_mark_0 rfl rfl ?_
  refine wp_getf (n := 4) dX5_mark_1 rfl flX5_42 (by repeat first | assumption | exact ax_set_self _ _ _ | exact ax_newA_self _ _ _ | refine (ax_set_ne _ _ (by omega)).trans ?_ | refine (ax_newA_ne _ _ _ (by omega)).trans ?_) (by rfl) ?_
  refine wp_getf (n := 7) dX5_mark_4 rfl flX5_66 (by repeat first | assumption | exact ax_set_self _ _ _ | exact ax_newA_self _ _ _ | refine (ax_set_ne _ _ (by omega)).trans ?_ | refine (ax_newA_ne _ _ _ (by omega)).trans ?_) (by rfl) ?_
  refine wp_bipush (n := 9) (v := nI 10) dX5_mark_7 rfl (by decide) ?_
  refine wp_icmp_lt (t := 15) (n := 12) dX5_mark_9 (by decide) rfl (fun hc => ?_) (fun hc => ?_)
  · rw [nI_lt9 (by omega) (by omega)] at hc
    refine wp_aload_n (n := 16) dX5_mark_15 rfl rfl ?_
    refine wp_getf (n := 19) dX5_mark_16 rfl flX5_42 (by repeat first | assumption | exact ax_set_self _ _ _ | exact ax_newA_self _ _ _ | refine (ax_set_ne _ _ (by omega)).trans ?_ | refine (ax_newA_ne _ _ _ (by omega)).trans ?_) (by rfl) ?_
    refine wp_aload_n (n := 20) dX5_mark_19 rfl rfl ?_
    refine wp_getf (n := 23) dX5_mark_20 rfl flX5_28 (by repeat first | assumption | exact ax_set_self _ _ _ | exact ax_newA_self _ _ _ | refine (ax_set_ne _ _ (by omega)).trans ?_ | refine (ax_newA_ne _ _ _ (by omega)).trans ?_) (by rfl) ?_
    refine wp_getf (n := 26) dX5_mark_23 rfl flX5_62 (by repeat first | assumption | exact ax_set_self _ _ _ | exact ax_newA_self _ _ _ | refine (ax_set_ne _ _ (by omega)).trans ?_ | refine (ax_newA_ne _ _ _ (by omega)).trans ?_) (by rfl) ?_
    refine wp_callV1 (n := 29) (rm' := (0, 0, 0, 0)) rfl dX5_mark_26 rfl mlX5_211 (by repeat first | assumption | exact ax_set_self _ _ _ | exact ax_newA_self _ _ _ | refine (ax_set_ne _ _ (by omega)).trans ?_ | refine (ax_newA_ne _ _ _ (by omega)).trans ?_) rfl rfl rfl rfl rfl ?_
    refine s_X2_add hC (by omega) (by omega) (fun h1 hF1 hC9 => ?_)
    show WP Γ _ _ _ _ _ _ _
    refine wp_istore_n (n := 30) dX5_mark_29 rfl rfl rfl rfl ?_
    refine wp_iconst (n := 31) (v := 0) dX5_mark_30 rfl (by decide) ?_
    refine wp_istore_n (n := 32) dX5_mark_31 rfl rfl rfl rfl ?_
    have hL1 := hL0.chk hF1 hC9
    have L : ∀ j, j ≤ np → ∀ h1 cw1, ax_fr b (b + 19) h h1 → LedP h1 b np qu ra re le ln nb pl tm ne rw bk nh hw (nc + 1) cw1 t y pk → (∀ i, i < nc * 9 → cw1 i = cw i) → (∀ i, i < j → cw1 (nc * 9 + i) = nI (cnt pl (nI i) nb)) → cw1 (nc * 9 + 8) = nI ne → WP Γ MX5_mark (1, 23, 0, 0) 32 [some (.ref b), some (.int (nI nc)), some (.int (nI j))] [] h1 Q := by
      refine ax_up np (fun j hj ih => ?_)
      intro h1 cw1 hF1 hL1 z1 z2 z3
      have hL0 := hL1
      obtain ⟨hO, hP, hM, hJ, hR, hC, su, hS⟩ := hL1
      have hP1 := hP.1
      have hM1 := hM.1
      have hJ1 := hJ.1
      have hR1 := hR.1
      have hC1 := hC.1
      have hP2 := hP.2.1
      have hP3 := hP.2.2.1
      have hP4 := hP.2.2.2.1
      have hM2 := hM.2.1
      have hM3 := hM.2.2.1
      have hM4 := hM.2.2.2
      refine wp_iload_n (n := 33) dX5_mark_32 rfl rfl ?_
      refine wp_aload_n (n := 34) dX5_mark_33 rfl rfl ?_
      refine wp_getf (n := 37) dX5_mark_34 rfl flX5_12 (by repeat first | assumption | exact ax_set_self _ _ _ | exact ax_newA_self _ _ _ | refine (ax_set_ne _ _ (by omega)).trans ?_ | refine (ax_newA_ne _ _ _ (by omega)).trans ?_) (by rfl) ?_
      refine wp_getf (n := 40) dX5_mark_37 rfl flX5_167 (by repeat first | assumption | exact ax_set_self _ _ _ | exact ax_newA_self _ _ _ | refine (ax_set_ne _ _ (by omega)).trans ?_ | refine (ax_newA_ne _ _ _ (by omega)).trans ?_) (by rfl) ?_
      refine wp_icmp_ge (t := 66) (n := 43) dX5_mark_40 (by decide) rfl (fun hq => ?_) (fun hq => ?_)
      · rw [nI_le9 (by omega) (by omega)] at hq
        obtain rfl : j = np := by omega
        refine wp_iload_n (n := 67) dX5_mark_66 rfl rfl ?_
        exact wp_ireturn dX5_mark_67 rfl rfl (k1 hc _ cw1 hF1 z1 z2 z3 hL0)
      · rw [nI_le9 (by omega) (by omega)] at hq
        refine wp_aload_n (n := 44) dX5_mark_43 rfl rfl ?_
        refine wp_getf (n := 47) dX5_mark_44 rfl flX5_42 (by repeat first | assumption | exact ax_set_self _ _ _ | exact ax_newA_self _ _ _ | refine (ax_set_ne _ _ (by omega)).trans ?_ | refine (ax_newA_ne _ _ _ (by omega)).trans ?_) (by rfl) ?_
        refine wp_iload_n (n := 48) dX5_mark_47 rfl rfl ?_
        refine wp_iload_n (n := 49) dX5_mark_48 rfl rfl ?_
        refine wp_aload_n (n := 50) dX5_mark_49 rfl rfl ?_
        refine wp_getf (n := 53) dX5_mark_50 rfl flX5_21 (by repeat first | assumption | exact ax_set_self _ _ _ | exact ax_newA_self _ _ _ | refine (ax_set_ne _ _ (by omega)).trans ?_ | refine (ax_newA_ne _ _ _ (by omega)).trans ?_) (by rfl) ?_
        refine wp_iload_n (n := 54) dX5_mark_53 rfl rfl ?_
        refine wp_callV1 (n := 57) (rm' := (0, 0, 0, 0)) rfl dX5_mark_54 rfl mlX5_83 (by repeat first | assumption | exact ax_set_self _ _ _ | exact ax_newA_self _ _ _ | refine (ax_set_ne _ _ (by omega)).trans ?_ | refine (ax_newA_ne _ _ _ (by omega)).trans ?_) rfl rfl rfl rfl rfl ?_
        refine s_X1_countIn hM hn ?_
        show WP Γ _ _ _ _ _ _ _
        refine wp_callV3 (n := 60) (rm' := (0, 0, 0, 0)) rfl dX5_mark_57 rfl mlX5_213 (by repeat first | assumption | exact ax_set_self _ _ _ | exact ax_newA_self _ _ _ | refine (ax_set_ne _ _ (by omega)).trans ?_ | refine (ax_newA_ne _ _ _ (by omega)).trans ?_) rfl rfl rfl rfl rfl ?_
        refine s_X2_setBlocks hC (by omega) (by omega) (by omega) (fun h2 hF2 hC2 => ?_)
        show WP Γ _ _ _ _ _ _ _
        refine wp_iinc (n := 63) dX5_mark_60 rfl rfl (nI_inc j) rfl rfl rfl ?_
        refine wp_goto (t := 32) dX5_mark_63 (by decide) ?_
        refine ih (by omega) _ _ (hF1.tr (lo := b) (hi := b + 19) hF2 (by omega) (by omega)) (hL0.chk hF2 hC2) (fun i hi => ?_) (fun i hi => ?_) ?_
        · simp only [upd]; rw [if_neg (by omega)]; exact z1 i hi
        · simp only [upd]
          by_cases q : i = j
          · rw [if_pos (by omega), q]
          · rw [if_neg (by omega)]; exact z2 i (by omega)
        · simp only [upd]; rw [if_neg (by omega)]; exact z3
    exact L 0 (Nat.zero_le _) _ _ (hF1.to (by omega)) hL1 (fun i hi => by simp only [upd]; rw [if_neg (by omega)]) (fun i hi => absurd hi (Nat.not_lt_zero _)) (by simp [upd])
  · rw [nI_lt9 (by omega) (by omega)] at hc
    refine wp_bipush (n := 14) (v := (-2)) dX5_mark_12 rfl (by decide) ?_
    exact wp_ireturn dX5_mark_14 rfl rfl (k0 (by omega))
theorem s_X5_begin {m : Nat} (hL : LedP h b np qu ra re le ln nb pl tm ne rw bk nh hw nc cw t y pk) (hA : Γ.2.1 ≤ b) (hF9 : FreeAt Γ h)
    (k : ∀ h' fn pl' tm', fn 0 = nI 102 → fn 1 = nI 114 → fn 2 = nI 101 → fn 3 = nI 101 → (∀ d, d < 200 → pl' d = 0 ∧ tm' d = 0) → ax_fr b (b + 19) h h' → LedP h' b 1 (upd qu 0 (nI m)) (upd ra 0 0) (vf_upd re 0 FP.fconst0) (opnL le fn 0 0 4) (upd ln 0 (nI 4)) m pl' tm' 0 rw bk 0 hw 0 cw 0 0 pk → Q (.inl none) h') : WP Γ MX5_begin (2, 47, 0, 0) 0 [some (.ref b), some (.int (nI m))] [] h Q := by
  have hL0 := hL
  obtain ⟨hO, hP, hM, hJ, hR, hC, su, hS⟩ := hL
  have hP1 := hP.1
  have hM1 := hM.1
  have hJ1 := hJ.1
  have hR1 := hR.1
  have hC1 := hC.1
  have hP2 := hP.2.1
  have hP3 := hP.2.2.1
  have hP4 := hP.2.2.2.1
  have hM2 := hM.2.1
  have hM3 := hM.2.2.1
  have hM4 := hM.2.2.2
  refine wp_aload_n (n := 1) dX5_begin_0 rfl rfl ?_
  refine wp_getf (n := 4) dX5_begin_1 rfl flX5_12 (by repeat first | assumption | exact ax_set_self _ _ _ | exact ax_newA_self _ _ _ | refine (ax_set_ne _ _ (by omega)).trans ?_ | refine (ax_newA_ne _ _ _ (by omega)).trans ?_) (by rfl) ?_
  refine wp_iload_n (n := 5) dX5_begin_4 rfl rfl ?_
  refine wp_callV1 (n := 8) (rm' := (1, 25, 0, 0)) rfl dX5_begin_5 rfl mlX5_57 (by repeat first | assumption | exact ax_set_self _ _ _ | exact ax_newA_self _ _ _ | refine (ax_set_ne _ _ (by omega)).trans ?_ | refine (ax_newA_ne _ _ _ (by omega)).trans ?_) rfl rfl rfl rfl rfl ?_
  refine s_X6_begin hP (by omega) hF9 (fun h1 fn f0 f1 f2 f3 hF1 hP9 => ?_)
  show WP Γ _ _ _ _ _ _ _
  have hL1 := hL0.poo hF1 hP9
  have hL0 := hL1
  obtain ⟨hO, hP, hM, hJ, hR, hC, su, hS⟩ := hL1
  have hP1 := hP.1
  have hM1 := hM.1
  have hJ1 := hJ.1
  have hR1 := hR.1
  have hC1 := hC.1
  have hP2 := hP.2.1
  have hP3 := hP.2.2.1
  have hP4 := hP.2.2.2.1
  have hM2 := hM.2.1
  have hM3 := hM.2.2.1
  have hM4 := hM.2.2.2
  refine wp_aload_n (n := 9) dX5_begin_8 rfl rfl ?_
  refine wp_getf (n := 12) dX5_begin_9 rfl flX5_21 (by repeat first | assumption | exact ax_set_self _ _ _ | exact ax_newA_self _ _ _ | refine (ax_set_ne _ _ (by omega)).trans ?_ | refine (ax_newA_ne _ _ _ (by omega)).trans ?_) (by rfl) ?_
  refine wp_iload_n (n := 13) dX5_begin_12 rfl rfl ?_
  refine wp_callV1 (n := 16) (rm' := (1, 23, 0, 0)) rfl dX5_begin_13 rfl mlX5_61 (by repeat first | assumption | exact ax_set_self _ _ _ | exact ax_newA_self _ _ _ | refine (ax_set_ne _ _ (by omega)).trans ?_ | refine (ax_newA_ne _ _ _ (by omega)).trans ?_) rfl rfl rfl rfl rfl ?_
  refine s_X1_begin hM (by omega) (fun h2 pl2 tm2 hF2 hM9 hz2 => ?_)
  show WP Γ _ _ _ _ _ _ _
  have hL2 := hL0.map hF2 hM9
  have hL0 := hL2
  obtain ⟨hO, hP, hM, hJ, hR, hC, su, hS⟩ := hL2
  have hP1 := hP.1
  have hM1 := hM.1
  have hJ1 := hJ.1
  have hR1 := hR.1
  have hC1 := hC.1
  have hP2 := hP.2.1
  have hP3 := hP.2.2.1
  have hP4 := hP.2.2.2.1
  have hM2 := hM.2.1
  have hM3 := hM.2.2.1
  have hM4 := hM.2.2.2
  refine wp_aload_n (n := 17) dX5_begin_16 rfl rfl ?_
  refine wp_getf (n := 20) dX5_begin_17 rfl flX5_28 (by repeat first | assumption | exact ax_set_self _ _ _ | exact ax_newA_self _ _ _ | refine (ax_set_ne _ _ (by omega)).trans ?_ | refine (ax_newA_ne _ _ _ (by omega)).trans ?_) (by rfl) ?_
  refine wp_iconst (n := 21) (v := 0) dX5_begin_20 rfl (by decide) ?_
  refine wp_putf (n := 24) dX5_begin_21 rfl flX5_62 (by repeat first | assumption | exact ax_set_self _ _ _ | exact ax_newA_self _ _ _ | refine (ax_set_ne _ _ (by omega)).trans ?_ | refine (ax_newA_ne _ _ _ (by omega)).trans ?_) (by omega) (by rfl) rfl rfl ?_
  have hL3 := hL0.jrn (ax_fr.set (by omega)) (hJ.setN 0)
  have hL0 := hL3
  obtain ⟨hO, hP, hM, hJ, hR, hC, su, hS⟩ := hL3
  have hP1 := hP.1
  have hM1 := hM.1
  have hJ1 := hJ.1
  have hR1 := hR.1
  have hC1 := hC.1
  have hP2 := hP.2.1
  have hP3 := hP.2.2.1
  have hP4 := hP.2.2.2.1
  have hM2 := hM.2.1
  have hM3 := hM.2.2.1
  have hM4 := hM.2.2.2
  refine wp_aload_n (n := 25) dX5_begin_24 rfl rfl ?_
  refine wp_getf (n := 28) dX5_begin_25 rfl flX5_35 (by repeat first | assumption | exact ax_set_self _ _ _ | exact ax_newA_self _ _ _ | refine (ax_set_ne _ _ (by omega)).trans ?_ | refine (ax_newA_ne _ _ _ (by omega)).trans ?_) (by rfl) ?_
  refine wp_iconst (n := 29) (v := 0) dX5_begin_28 rfl (by decide) ?_
  refine wp_putf (n := 32) dX5_begin_29 rfl flX5_65 (by repeat first | assumption | exact ax_set_self _ _ _ | exact ax_newA_self _ _ _ | refine (ax_set_ne _ _ (by omega)).trans ?_ | refine (ax_newA_ne _ _ _ (by omega)).trans ?_) (by omega) (by rfl) rfl rfl ?_
  have hL4 := hL0.res (ax_fr.set (by omega)) (hR.setN 0)
  have hL0 := hL4
  obtain ⟨hO, hP, hM, hJ, hR, hC, su, hS⟩ := hL4
  have hP1 := hP.1
  have hM1 := hM.1
  have hJ1 := hJ.1
  have hR1 := hR.1
  have hC1 := hC.1
  have hP2 := hP.2.1
  have hP3 := hP.2.2.1
  have hP4 := hP.2.2.2.1
  have hM2 := hM.2.1
  have hM3 := hM.2.2.1
  have hM4 := hM.2.2.2
  refine wp_aload_n (n := 33) dX5_begin_32 rfl rfl ?_
  refine wp_getf (n := 36) dX5_begin_33 rfl flX5_42 (by repeat first | assumption | exact ax_set_self _ _ _ | exact ax_newA_self _ _ _ | refine (ax_set_ne _ _ (by omega)).trans ?_ | refine (ax_newA_ne _ _ _ (by omega)).trans ?_) (by rfl) ?_
  refine wp_iconst (n := 37) (v := 0) dX5_begin_36 rfl (by decide) ?_
  refine wp_putf (n := 40) dX5_begin_37 rfl flX5_66 (by repeat first | assumption | exact ax_set_self _ _ _ | exact ax_newA_self _ _ _ | refine (ax_set_ne _ _ (by omega)).trans ?_ | refine (ax_newA_ne _ _ _ (by omega)).trans ?_) (by omega) (by rfl) rfl rfl ?_
  have hL5 := hL0.chk (ax_fr.set (by omega)) (hC.setN 0)
  have hL0 := hL5
  obtain ⟨hO, hP, hM, hJ, hR, hC, su, hS⟩ := hL5
  have hP1 := hP.1
  have hM1 := hM.1
  have hJ1 := hJ.1
  have hR1 := hR.1
  have hC1 := hC.1
  have hP2 := hP.2.1
  have hP3 := hP.2.2.1
  have hP4 := hP.2.2.2.1
  have hM2 := hM.2.1
  have hM3 := hM.2.2.1
  have hM4 := hM.2.2.2
  refine wp_aload_n (n := 41) dX5_begin_40 rfl rfl ?_
  refine wp_iconst (n := 42) (v := 0) dX5_begin_41 rfl (by decide) ?_
  refine wp_putf (n := 45) dX5_begin_42 rfl flX5_46 (by repeat first | assumption | exact ax_set_self _ _ _ | exact ax_newA_self _ _ _ | refine (ax_set_ne _ _ (by omega)).trans ?_ | refine (ax_newA_ne _ _ _ (by omega)).trans ?_) (by omega) (by rfl) rfl rfl ?_
  have hL6 := hL0.top 0 y
  have hL0 := hL6
  obtain ⟨hO, hP, hM, hJ, hR, hC, su, hS⟩ := hL6
  have hP1 := hP.1
  have hM1 := hM.1
  have hJ1 := hJ.1
  have hR1 := hR.1
  have hC1 := hC.1
  have hP2 := hP.2.1
  have hP3 := hP.2.2.1
  have hP4 := hP.2.2.2.1
  have hM2 := hM.2.1
  have hM3 := hM.2.2.1
  have hM4 := hM.2.2.2
  refine wp_aload_n (n := 46) dX5_begin_45 rfl rfl ?_
  refine wp_iconst (n := 47) (v := 0) dX5_begin_46 rfl (by decide) ?_
  refine wp_putf (n := 50) dX5_begin_47 rfl flX5_50 (by repeat first | assumption | exact ax_set_self _ _ _ | exact ax_newA_self _ _ _ | refine (ax_set_ne _ _ (by omega)).trans ?_ | refine (ax_newA_ne _ _ _ (by omega)).trans ?_) (by omega) (by rfl) rfl rfl ?_
  exact wp_return dX5_begin_50 rfl (k _ fn _ _ f0 f1 f2 f3 hz2 (((((((hF1.to (lo := b) (hi := b + 19) (by omega)).tr (lo := b) (hi := b + 19) hF2 (by omega) (by omega)).put (by omega)).put (by omega)).put (by omega)).put (by omega)).put (by omega)) (hL0.top 0 0))
theorem s_X5_copyFrom {b2 np2 nb2 ne2 nh2 nc2 y2 : Nat} {qu2 ra2 le2 ln2 pl2 tm2 rw2 hw2 cw2 pk2 : FI} {re2 : Nat → UInt32} {bk2 : Nat → Int64} {t2 : Int32} (hL : LedP h b np qu ra re le ln nb pl tm ne rw bk nh hw nc cw t y pk) (hL2 : LedP h b2 np2 qu2 ra2 re2 le2 ln2 nb2 pl2 tm2 ne2 rw2 bk2 nh2 hw2 nc2 cw2 t2 y2 pk2) (hA : Γ.2.1 ≤ b) (hd : b2 + 19 ≤ b ∨ b + 19 ≤ b2)
    (k : ∀ h', ax_fr b (b + 19) h h' → LedP h' b np2 qu2 ra2 re2 le2 ln2 nb2 pl2 tm2 ne2 rw2 bk2 nh2 hw2 nc2 cw2 t2 y2 pk → Q (.inl none) h') : WP Γ MX5_copyFrom (2, 81, 0, 0) 0 [some (.ref b), some (.ref b2)] [] h Q := by
  have hL0 := hL
  have hL9 := hL2
  obtain ⟨hO', hP', hM', hJ', hR', hC', su', hS'⟩ := hL2
  obtain ⟨hO, hP, hM, hJ, hR, hC, su, hS⟩ := hL
  have hP1 := hP.1
  have hM1 := hM.1
  have hJ1 := hJ.1
  have hR1 := hR.1
  have hC1 := hC.1
  have hP2 := hP.2.1
  have hP3 := hP.2.2.1
  have hP4 := hP.2.2.2.1
  have hM2 := hM.2.1
  have hM3 := hM.2.2.1
  have hM4 := hM.2.2.2
  refine wp_aload_n (n := 1) dX5_copyFrom_0 rfl rfl ?_
  refine wp_getf (n := 4) dX5_copyFrom_1 rfl flX5_12 (by repeat first | assumption | exact ax_set_self _ _ _ | exact ax_newA_self _ _ _ | refine (ax_set_ne _ _ (by omega)).trans ?_ | refine (ax_newA_ne _ _ _ (by omega)).trans ?_) (by rfl) ?_
  refine wp_aload_n (n := 5) dX5_copyFrom_4 rfl rfl ?_
  refine wp_getf (n := 8) dX5_copyFrom_5 rfl flX5_12 (by repeat first | assumption | exact ax_set_self _ _ _ | exact ax_newA_self _ _ _ | refine (ax_set_ne _ _ (by omega)).trans ?_ | refine (ax_newA_ne _ _ _ (by omega)).trans ?_) (by rfl) ?_
  refine wp_callV1 (n := 11) (rm' := (1, 60, 0, 0)) rfl dX5_copyFrom_8 rfl mlX5_67 (by repeat first | assumption | exact ax_set_self _ _ _ | exact ax_newA_self _ _ _ | refine (ax_set_ne _ _ (by omega)).trans ?_ | refine (ax_newA_ne _ _ _ (by omega)).trans ?_) rfl rfl rfl rfl rfl ?_
  refine s_X6_copyFrom hP hP' (by omega) (by omega) (fun h1 hF1 hP9 => ?_)
  show WP Γ _ _ _ _ _ _ _
  have hL1 := hL0.poo hF1 hP9
  have hL0 := hL1
  have hL9 := hL9.fr hF1 (by omega)
  have hX := hL9
  obtain ⟨hO', hP', hM', hJ', hR', hC', su', hS'⟩ := hX
  obtain ⟨hO, hP, hM, hJ, hR, hC, su, hS⟩ := hL1
  have hP1 := hP.1
  have hM1 := hM.1
  have hJ1 := hJ.1
  have hR1 := hR.1
  have hC1 := hC.1
  have hP2 := hP.2.1
  have hP3 := hP.2.2.1
  have hP4 := hP.2.2.2.1
  have hM2 := hM.2.1
  have hM3 := hM.2.2.1
  have hM4 := hM.2.2.2
  refine wp_aload_n (n := 12) dX5_copyFrom_11 rfl rfl ?_
  refine wp_getf (n := 15) dX5_copyFrom_12 rfl flX5_21 (by repeat first | assumption | exact ax_set_self _ _ _ | exact ax_newA_self _ _ _ | refine (ax_set_ne _ _ (by omega)).trans ?_ | refine (ax_newA_ne _ _ _ (by omega)).trans ?_) (by rfl) ?_
  refine wp_aload_n (n := 16) dX5_copyFrom_15 rfl rfl ?_
  refine wp_getf (n := 19) dX5_copyFrom_16 rfl flX5_21 (by repeat first | assumption | exact ax_set_self _ _ _ | exact ax_newA_self _ _ _ | refine (ax_set_ne _ _ (by omega)).trans ?_ | refine (ax_newA_ne _ _ _ (by omega)).trans ?_) (by rfl) ?_
  refine wp_callV1 (n := 22) (rm' := (1, 60, 0, 0)) rfl dX5_copyFrom_19 rfl mlX5_71 (by repeat first | assumption | exact ax_set_self _ _ _ | exact ax_newA_self _ _ _ | refine (ax_set_ne _ _ (by omega)).trans ?_ | refine (ax_newA_ne _ _ _ (by omega)).trans ?_) rfl rfl rfl rfl rfl ?_
  refine s_X1_copyFrom hM hM' (by omega) (by omega) (fun h2 hF2 hM9 => ?_)
  show WP Γ _ _ _ _ _ _ _
  have hL2 := hL0.map hF2 hM9
  have hL0 := hL2
  have hL9 := hL9.fr hF2 (by omega)
  have hX := hL9
  obtain ⟨hO', hP', hM', hJ', hR', hC', su', hS'⟩ := hX
  obtain ⟨hO, hP, hM, hJ, hR, hC, su, hS⟩ := hL2
  have hP1 := hP.1
  have hM1 := hM.1
  have hJ1 := hJ.1
  have hR1 := hR.1
  have hC1 := hC.1
  have hP2 := hP.2.1
  have hP3 := hP.2.2.1
  have hP4 := hP.2.2.2.1
  have hM2 := hM.2.1
  have hM3 := hM.2.2.1
  have hM4 := hM.2.2.2
  refine wp_aload_n (n := 23) dX5_copyFrom_22 rfl rfl ?_
  refine wp_getf (n := 26) dX5_copyFrom_23 rfl flX5_28 (by repeat first | assumption | exact ax_set_self _ _ _ | exact ax_newA_self _ _ _ | refine (ax_set_ne _ _ (by omega)).trans ?_ | refine (ax_newA_ne _ _ _ (by omega)).trans ?_) (by rfl) ?_
  refine wp_aload_n (n := 27) dX5_copyFrom_26 rfl rfl ?_
  refine wp_getf (n := 30) dX5_copyFrom_27 rfl flX5_28 (by repeat first | assumption | exact ax_set_self _ _ _ | exact ax_newA_self _ _ _ | refine (ax_set_ne _ _ (by omega)).trans ?_ | refine (ax_newA_ne _ _ _ (by omega)).trans ?_) (by rfl) ?_
  refine wp_callV1 (n := 33) (rm' := (1, 60, 0, 0)) rfl dX5_copyFrom_30 rfl mlX5_74 (by repeat first | assumption | exact ax_set_self _ _ _ | exact ax_newA_self _ _ _ | refine (ax_set_ne _ _ (by omega)).trans ?_ | refine (ax_newA_ne _ _ _ (by omega)).trans ?_) rfl rfl rfl rfl rfl ?_
  refine s_X4_copyFrom hJ hJ' (by omega) (by omega) (fun h3 hF3 hJ9 => ?_)
  show WP Γ _ _ _ _ _ _ _
  have hL3 := hL0.jrn hF3 hJ9
  have hL0 := hL3
  have hL9 := hL9.fr hF3 (by omega)
  have hX := hL9
  obtain ⟨hO', hP', hM', hJ', hR', hC', su', hS'⟩ := hX
  obtain ⟨hO, hP, hM, hJ, hR, hC, su, hS⟩ := hL3
  have hP1 := hP.1
  have hM1 := hM.1
  have hJ1 := hJ.1
  have hR1 := hR.1
  have hC1 := hC.1
  have hP2 := hP.2.1
  have hP3 := hP.2.2.1
  have hP4 := hP.2.2.2.1
  have hM2 := hM.2.1
  have hM3 := hM.2.2.1
  have hM4 := hM.2.2.2
  refine wp_aload_n (n := 34) dX5_copyFrom_33 rfl rfl ?_
  refine wp_getf (n := 37) dX5_copyFrom_34 rfl flX5_35 (by repeat first | assumption | exact ax_set_self _ _ _ | exact ax_newA_self _ _ _ | refine (ax_set_ne _ _ (by omega)).trans ?_ | refine (ax_newA_ne _ _ _ (by omega)).trans ?_) (by rfl) ?_
  refine wp_aload_n (n := 38) dX5_copyFrom_37 rfl rfl ?_
  refine wp_getf (n := 41) dX5_copyFrom_38 rfl flX5_35 (by repeat first | assumption | exact ax_set_self _ _ _ | exact ax_newA_self _ _ _ | refine (ax_set_ne _ _ (by omega)).trans ?_ | refine (ax_newA_ne _ _ _ (by omega)).trans ?_) (by rfl) ?_
  refine wp_callV1 (n := 44) (rm' := (1, 60, 0, 0)) rfl dX5_copyFrom_41 rfl mlX5_77 (by repeat first | assumption | exact ax_set_self _ _ _ | exact ax_newA_self _ _ _ | refine (ax_set_ne _ _ (by omega)).trans ?_ | refine (ax_newA_ne _ _ _ (by omega)).trans ?_) rfl rfl rfl rfl rfl ?_
  refine s_X7_copyFrom hR hR' (by omega) (by omega) (fun h4 hF4 hR9 => ?_)
  show WP Γ _ _ _ _ _ _ _
  have hL4 := hL0.res hF4 hR9
  have hL0 := hL4
  have hL9 := hL9.fr hF4 (by omega)
  have hX := hL9
  obtain ⟨hO', hP', hM', hJ', hR', hC', su', hS'⟩ := hX
  obtain ⟨hO, hP, hM, hJ, hR, hC, su, hS⟩ := hL4
  have hP1 := hP.1
  have hM1 := hM.1
  have hJ1 := hJ.1
  have hR1 := hR.1
  have hC1 := hC.1
  have hP2 := hP.2.1
  have hP3 := hP.2.2.1
  have hP4 := hP.2.2.2.1
  have hM2 := hM.2.1
  have hM3 := hM.2.2.1
  have hM4 := hM.2.2.2
  refine wp_aload_n (n := 45) dX5_copyFrom_44 rfl rfl ?_
  refine wp_getf (n := 48) dX5_copyFrom_45 rfl flX5_42 (by repeat first | assumption | exact ax_set_self _ _ _ | exact ax_newA_self _ _ _ | refine (ax_set_ne _ _ (by omega)).trans ?_ | refine (ax_newA_ne _ _ _ (by omega)).trans ?_) (by rfl) ?_
  refine wp_aload_n (n := 49) dX5_copyFrom_48 rfl rfl ?_
  refine wp_getf (n := 52) dX5_copyFrom_49 rfl flX5_42 (by repeat first | assumption | exact ax_set_self _ _ _ | exact ax_newA_self _ _ _ | refine (ax_set_ne _ _ (by omega)).trans ?_ | refine (ax_newA_ne _ _ _ (by omega)).trans ?_) (by rfl) ?_
  refine wp_callV1 (n := 55) (rm' := (1, 60, 0, 0)) rfl dX5_copyFrom_52 rfl mlX5_80 (by repeat first | assumption | exact ax_set_self _ _ _ | exact ax_newA_self _ _ _ | refine (ax_set_ne _ _ (by omega)).trans ?_ | refine (ax_newA_ne _ _ _ (by omega)).trans ?_) rfl rfl rfl rfl rfl ?_
  refine s_X2_copyFrom hC hC' (by omega) (by omega) (fun h5 hF5 hC9 => ?_)
  show WP Γ _ _ _ _ _ _ _
  have hL5 := hL0.chk hF5 hC9
  have hL0 := hL5
  have hL9 := hL9.fr hF5 (by omega)
  have hX := hL9
  obtain ⟨hO', hP', hM', hJ', hR', hC', su', hS'⟩ := hX
  obtain ⟨hO, hP, hM, hJ, hR, hC, su, hS⟩ := hL5
  have hP1 := hP.1
  have hM1 := hM.1
  have hJ1 := hJ.1
  have hR1 := hR.1
  have hC1 := hC.1
  have hP2 := hP.2.1
  have hP3 := hP.2.2.1
  have hP4 := hP.2.2.2.1
  have hM2 := hM.2.1
  have hM3 := hM.2.2.1
  have hM4 := hM.2.2.2
  refine wp_aload_n (n := 56) dX5_copyFrom_55 rfl rfl ?_
  refine wp_aload_n (n := 57) dX5_copyFrom_56 rfl rfl ?_
  refine wp_getf (n := 60) dX5_copyFrom_57 rfl flX5_46 (by repeat first | assumption | exact ax_set_self _ _ _ | exact ax_newA_self _ _ _ | refine (ax_set_ne _ _ (by omega)).trans ?_ | refine (ax_newA_ne _ _ _ (by omega)).trans ?_) (by rfl) ?_
  refine wp_putf (n := 63) dX5_copyFrom_60 rfl flX5_46 (by repeat first | assumption | exact ax_set_self _ _ _ | exact ax_newA_self _ _ _ | refine (ax_set_ne _ _ (by omega)).trans ?_ | refine (ax_newA_ne _ _ _ (by omega)).trans ?_) (by omega) (by rfl) rfl rfl ?_
  have hL6 := hL0.top t2 y
  have hL0 := hL6
  have hO' := (ax_fr.set (lo := b) (hi := b + 1) (by omega)).get (h1 := ax_set h5 b (.inr (5, [.ref (b + 1), .ref (b + 7), .ref (b + 11), .ref (b + 14), .ref (b + 16), .int t2, .int (nI y), .ref (b + 18)]))) hO' (by omega)
  obtain ⟨hO, hP, hM, hJ, hR, hC, su, hS⟩ := hL6
  have hP1 := hP.1
  have hM1 := hM.1
  have hJ1 := hJ.1
  have hR1 := hR.1
  have hC1 := hC.1
  have hP2 := hP.2.1
  have hP3 := hP.2.2.1
  have hP4 := hP.2.2.2.1
  have hM2 := hM.2.1
  have hM3 := hM.2.2.1
  have hM4 := hM.2.2.2
  refine wp_aload_n (n := 64) dX5_copyFrom_63 rfl rfl ?_
  refine wp_aload_n (n := 65) dX5_copyFrom_64 rfl rfl ?_
  refine wp_getf (n := 68) dX5_copyFrom_65 rfl flX5_50 (by repeat first | assumption | exact ax_set_self _ _ _ | exact ax_newA_self _ _ _ | refine (ax_set_ne _ _ (by omega)).trans ?_ | refine (ax_newA_ne _ _ _ (by omega)).trans ?_) (by rfl) ?_
  refine wp_putf (n := 71) dX5_copyFrom_68 rfl flX5_50 (by repeat first | assumption | exact ax_set_self _ _ _ | exact ax_newA_self _ _ _ | refine (ax_set_ne _ _ (by omega)).trans ?_ | refine (ax_newA_ne _ _ _ (by omega)).trans ?_) (by omega) (by rfl) rfl rfl ?_
  exact wp_return dX5_copyFrom_71 rfl (k _ (((((((hF1.to (lo := b) (hi := b + 19) (by omega)).tr (lo := b) (hi := b + 19) hF2 (by omega) (by omega)).tr (lo := b) (hi := b + 19) hF3 (by omega) (by omega)).tr (lo := b) (hi := b + 19) hF4 (by omega) (by omega)).tr (lo := b) (hi := b + 19) hF5 (by omega) (by omega)).put (by omega)).put (by omega)) (hL0.top t2 y2))
theorem s_X5_init (hO : h.2 b = some (.inr (5, [.null, .null, .null, .null, .null, .int 0, .int 0, .null]))) (hz : h.1 = b + 1) (hA : Γ.2.1 ≤ b)
    (k : ∀ h', h'.1 = b + 19 → (∀ a, a < b → h'.2 a = h.2 a) → LedP h' b 0 (fun _ => 0) (fun _ => 0) (fun _ => 0) (fun _ => 0) (fun _ => 0) 0 (fun _ => 0) (fun _ => 0) 0 (fun _ => 0) (fun _ => 0) 0 (fun _ => 0) 0 (fun _ => 0) 0 0 (fun _ => 0) → Q (.inl none) h') : WP Γ MX5_init (2, 80, 18, 4395) 0 [some (.ref b)] [] h Q := by
  refine wp_aload_n (n := 1) dX5_init_0 rfl rfl ?_
  refine wp_objInit (n := 4) dX5_init_1 rfl olX5_3 ax_oi ax_oc rfl rfl ?_
  refine wp_aload_n (n := 5) dX5_init_4 rfl rfl ?_
  refine wp_newA (n := 8) (b + 1) dX5_init_5 rfl hz nlX5_9 rfl rfl ?_
  refine wp_dup (n := 9) dX5_init_8 rfl rfl ?_
  refine wp_callIN (n := 12) (rm' := (1, 60, 5, 80)) dX5_init_9 rfl mbX6_init (host := "StorageLedger") (by decide) rfl imX6_init [] rfl rfl rfl rfl rfl (Nat.le_of_ble_eq_true rfl) rfl ?_
  refine s_X6_init (ax_newA_self _ _ _) rfl (by omega) (fun h1 z1 f1 hP => ?_)
  show WP Γ _ _ _ _ _ _ _
  have hO1 := (f1 b (by omega)).trans ((ax_newA_ne _ _ _ (by omega)).trans hO)
  refine wp_putF (n := 15) dX5_init_12 rfl flX5_12 rfl rfl (by repeat first | assumption | exact ax_set_self _ _ _ | exact ax_newA_self _ _ _ | refine (ax_set_ne _ _ (by omega)).trans ?_ | refine (ax_newA_ne _ _ _ (by omega)).trans ?_) (by omega) (by rfl) rfl rfl ?_
  refine wp_aload_n (n := 16) dX5_init_15 rfl rfl ?_
  refine wp_newA (n := 19) (b + 7) dX5_init_16 rfl z1 nlX5_18 rfl rfl ?_
  refine wp_dup (n := 20) dX5_init_19 rfl rfl ?_
  refine wp_callIN (n := 23) (rm' := (1, 60, 3, 600)) dX5_init_20 rfl mbX1_init (host := "StorageLedger") (by decide) rfl imX1_init [] rfl rfl rfl rfl rfl (Nat.le_of_ble_eq_true rfl) rfl ?_
  refine s_X1_init (ax_newA_self _ _ _) rfl (by omega) (fun h2 z2 f2 hM => ?_)
  show WP Γ _ _ _ _ _ _ _
  have hO2 := (f2 b (by omega)).trans ((ax_newA_ne _ _ _ (by omega)).trans (ax_set_self _ _ _))
  refine wp_putF (n := 26) dX5_init_23 rfl flX5_21 rfl rfl (by repeat first | assumption | exact ax_set_self _ _ _ | exact ax_newA_self _ _ _ | refine (ax_set_ne _ _ (by omega)).trans ?_ | refine (ax_newA_ne _ _ _ (by omega)).trans ?_) (by omega) (by rfl) rfl rfl ?_
  refine wp_aload_n (n := 27) dX5_init_26 rfl rfl ?_
  refine wp_newA (n := 30) (b + 11) dX5_init_27 rfl z2 nlX5_25 rfl rfl ?_
  refine wp_dup (n := 31) dX5_init_30 rfl rfl ?_
  refine wp_callIN (n := 34) (rm' := (1, 60, 2, 3300)) dX5_init_31 rfl mbX4_init (host := "StorageLedger") (by decide) rfl imX4_init [] rfl rfl rfl rfl rfl (Nat.le_of_ble_eq_true rfl) rfl ?_
  refine s_X4_init (ax_newA_self _ _ _) rfl (by omega) (fun h3 z3 f3 hJ => ?_)
  show WP Γ _ _ _ _ _ _ _
  have hO3 := (f3 b (by omega)).trans ((ax_newA_ne _ _ _ (by omega)).trans (ax_set_self _ _ _))
  refine wp_putF (n := 37) dX5_init_34 rfl flX5_28 rfl rfl (by repeat first | assumption | exact ax_set_self _ _ _ | exact ax_newA_self _ _ _ | refine (ax_set_ne _ _ (by omega)).trans ?_ | refine (ax_newA_ne _ _ _ (by omega)).trans ?_) (by omega) (by rfl) rfl rfl ?_
  refine wp_aload_n (n := 38) dX5_init_37 rfl rfl ?_
  refine wp_newA (n := 41) (b + 14) dX5_init_38 rfl z3 nlX5_32 rfl rfl ?_
  refine wp_dup (n := 42) dX5_init_41 rfl rfl ?_
  refine wp_callIN (n := 45) (rm' := (1, 60, 1, 300)) dX5_init_42 rfl mbX7_init (host := "StorageLedger") (by decide) rfl imX7_init [] rfl rfl rfl rfl rfl (Nat.le_of_ble_eq_true rfl) rfl ?_
  refine s_X7_init (ax_newA_self _ _ _) rfl (by omega) (fun h4 z4 f4 hR => ?_)
  show WP Γ _ _ _ _ _ _ _
  have hO4 := (f4 b (by omega)).trans ((ax_newA_ne _ _ _ (by omega)).trans (ax_set_self _ _ _))
  refine wp_putF (n := 48) dX5_init_45 rfl flX5_35 rfl rfl (by repeat first | assumption | exact ax_set_self _ _ _ | exact ax_newA_self _ _ _ | refine (ax_set_ne _ _ (by omega)).trans ?_ | refine (ax_newA_ne _ _ _ (by omega)).trans ?_) (by omega) (by rfl) rfl rfl ?_
  refine wp_aload_n (n := 49) dX5_init_48 rfl rfl ?_
  refine wp_newA (n := 52) (b + 16) dX5_init_49 rfl z4 nlX5_39 rfl rfl ?_
  refine wp_dup (n := 53) dX5_init_52 rfl rfl ?_
  refine wp_callIN (n := 56) (rm' := (1, 60, 1, 90)) dX5_init_53 rfl mbX2_init (host := "StorageLedger") (by decide) rfl imX2_init [] rfl rfl rfl rfl rfl (Nat.le_of_ble_eq_true rfl) rfl ?_
  refine s_X2_init (ax_newA_self _ _ _) rfl (by omega) (fun h5 z5 f5 hC => ?_)
  show WP Γ _ _ _ _ _ _ _
  have hO5 := (f5 b (by omega)).trans ((ax_newA_ne _ _ _ (by omega)).trans (ax_set_self _ _ _))
  refine wp_putF (n := 59) dX5_init_56 rfl flX5_42 rfl rfl (by repeat first | assumption | exact ax_set_self _ _ _ | exact ax_newA_self _ _ _ | refine (ax_set_ne _ _ (by omega)).trans ?_ | refine (ax_newA_ne _ _ _ (by omega)).trans ?_) (by omega) (by rfl) rfl rfl ?_
  refine wp_aload_n (n := 60) dX5_init_59 rfl rfl ?_
  refine wp_iconst (n := 61) (v := 0) dX5_init_60 rfl (by decide) ?_
  refine wp_putf (n := 64) dX5_init_61 rfl flX5_46 (by repeat first | assumption | exact ax_set_self _ _ _ | exact ax_newA_self _ _ _ | refine (ax_set_ne _ _ (by omega)).trans ?_ | refine (ax_newA_ne _ _ _ (by omega)).trans ?_) (by omega) (by rfl) rfl rfl ?_
  refine wp_aload_n (n := 65) dX5_init_64 rfl rfl ?_
  refine wp_iconst (n := 66) (v := 0) dX5_init_65 rfl (by decide) ?_
  refine wp_putf (n := 69) dX5_init_66 rfl flX5_50 (by repeat first | assumption | exact ax_set_self _ _ _ | exact ax_newA_self _ _ _ | refine (ax_set_ne _ _ (by omega)).trans ?_ | refine (ax_newA_ne _ _ _ (by omega)).trans ?_) (by omega) (by rfl) rfl rfl ?_
  refine wp_aload_n (n := 70) dX5_init_69 rfl rfl ?_
  refine wp_bipush (n := 72) (v := nI 8) dX5_init_70 rfl (by decide) ?_
  refine wp_newaA (n := 74) (b + 18) 8 (ty := .int) (8, .inl (fun _ => 0)) dX5_init_72 rfl z5 rfl ac_int rfl (by decide) rfl (fun _ => rfl) (fun _ q => by cases q) (by decide) rfl rfl ?_
  refine wp_putF (n := 77) dX5_init_74 rfl flX5_53 rfl rfl (by repeat first | assumption | exact ax_set_self _ _ _ | exact ax_newA_self _ _ _ | refine (ax_set_ne _ _ (by omega)).trans ?_ | refine (ax_newA_ne _ _ _ (by omega)).trans ?_) (by omega) (by rfl) rfl rfl ?_
  have g5 : ∀ a, a < b + 16 → ¬ a = b → h5.2 a = h4.2 a := fun a h1 h2 => (f5 a h1).trans ((ax_newA_ne _ _ _ (by omega)).trans (ax_set_ne _ _ (by omega)))
  have g4 : ∀ a, a < b + 14 → ¬ a = b → h4.2 a = h3.2 a := fun a h1 h2 => (f4 a h1).trans ((ax_newA_ne _ _ _ (by omega)).trans (ax_set_ne _ _ (by omega)))
  have g3 : ∀ a, a < b + 11 → ¬ a = b → h3.2 a = h2.2 a := fun a h1 h2 => (f3 a h1).trans ((ax_newA_ne _ _ _ (by omega)).trans (ax_set_ne _ _ (by omega)))
  have g2 : ∀ a, a < b + 7 → ¬ a = b → h2.2 a = h1.2 a := fun a h1 h2 => (f2 a h1).trans ((ax_newA_ne _ _ _ (by omega)).trans (ax_set_ne _ _ (by omega)))
  have g1 : ∀ a, a < b → h1.2 a = h.2 a := fun a h1 => (f1 a (by omega)).trans (ax_newA_ne _ _ _ (by omega))
  have gF : ∀ a, a < b + 18 → ¬ a = b → ∀ e1 e2 e3 e4 e5 : AE, (ax_set (ax_newA (ax_set (ax_set (ax_set h5 b e1) b e2) b e3) (b + 18) e4) b e5).2 a = h5.2 a := fun a h1 h2 e1 e2 e3 e4 e5 => (ax_set_ne _ _ (by omega)).trans ((ax_newA_ne _ _ _ (by omega)).trans ((ax_set_ne _ _ (by omega)).trans ((ax_set_ne _ _ (by omega)).trans (ax_set_ne _ _ (by omega)))))
  refine wp_return dX5_init_77 rfl (k _ rfl (fun a ha => ?_) ⟨ax_set_self _ _ _, ⟨?_, ?_, ?_, ?_, ?_, ?_⟩, ⟨?_, ?_, ?_, ?_⟩, ⟨?_, ?_, ?_⟩, ⟨?_, ?_⟩, ⟨?_, ?_⟩, ⟨fun _ => 0, ?_⟩⟩)
  · exact (gF a (by omega) (by omega) _ _ _ _ _).trans ((g5 a (by omega) (by omega)).trans ((g4 a (by omega) (by omega)).trans ((g3 a (by omega) (by omega)).trans ((g2 a (by omega) (by omega)).trans (g1 a ha)))))
  · exact (gF _ (by omega) (by omega) _ _ _ _ _).trans ((g5 _ (by omega) (by omega)).trans ((g4 _ (by omega) (by omega)).trans ((g3 _ (by omega) (by omega)).trans ((g2 _ (by omega) (by omega)).trans hP.1))))
  · exact (gF _ (by omega) (by omega) _ _ _ _ _).trans ((g5 _ (by omega) (by omega)).trans ((g4 _ (by omega) (by omega)).trans ((g3 _ (by omega) (by omega)).trans ((g2 _ (by omega) (by omega)).trans hP.2.1))))
  · exact (gF _ (by omega) (by omega) _ _ _ _ _).trans ((g5 _ (by omega) (by omega)).trans ((g4 _ (by omega) (by omega)).trans ((g3 _ (by omega) (by omega)).trans ((g2 _ (by omega) (by omega)).trans hP.2.2.1))))
  · exact (gF _ (by omega) (by omega) _ _ _ _ _).trans ((g5 _ (by omega) (by omega)).trans ((g4 _ (by omega) (by omega)).trans ((g3 _ (by omega) (by omega)).trans ((g2 _ (by omega) (by omega)).trans hP.2.2.2.1))))
  · exact (gF _ (by omega) (by omega) _ _ _ _ _).trans ((g5 _ (by omega) (by omega)).trans ((g4 _ (by omega) (by omega)).trans ((g3 _ (by omega) (by omega)).trans ((g2 _ (by omega) (by omega)).trans hP.2.2.2.2.1))))
  · exact (gF _ (by omega) (by omega) _ _ _ _ _).trans ((g5 _ (by omega) (by omega)).trans ((g4 _ (by omega) (by omega)).trans ((g3 _ (by omega) (by omega)).trans ((g2 _ (by omega) (by omega)).trans hP.2.2.2.2.2))))
  · exact (gF _ (by omega) (by omega) _ _ _ _ _).trans ((g5 _ (by omega) (by omega)).trans ((g4 _ (by omega) (by omega)).trans ((g3 _ (by omega) (by omega)).trans hM.1)))
  · exact (gF _ (by omega) (by omega) _ _ _ _ _).trans ((g5 _ (by omega) (by omega)).trans ((g4 _ (by omega) (by omega)).trans ((g3 _ (by omega) (by omega)).trans hM.2.1)))
  · exact (gF _ (by omega) (by omega) _ _ _ _ _).trans ((g5 _ (by omega) (by omega)).trans ((g4 _ (by omega) (by omega)).trans ((g3 _ (by omega) (by omega)).trans hM.2.2.1)))
  · exact (gF _ (by omega) (by omega) _ _ _ _ _).trans ((g5 _ (by omega) (by omega)).trans ((g4 _ (by omega) (by omega)).trans ((g3 _ (by omega) (by omega)).trans hM.2.2.2)))
  · exact (gF _ (by omega) (by omega) _ _ _ _ _).trans ((g5 _ (by omega) (by omega)).trans ((g4 _ (by omega) (by omega)).trans hJ.1))
  · exact (gF _ (by omega) (by omega) _ _ _ _ _).trans ((g5 _ (by omega) (by omega)).trans ((g4 _ (by omega) (by omega)).trans hJ.2.1))
  · exact (gF _ (by omega) (by omega) _ _ _ _ _).trans ((g5 _ (by omega) (by omega)).trans ((g4 _ (by omega) (by omega)).trans hJ.2.2))
  · exact (gF _ (by omega) (by omega) _ _ _ _ _).trans ((g5 _ (by omega) (by omega)).trans hR.1)
  · exact (gF _ (by omega) (by omega) _ _ _ _ _).trans ((g5 _ (by omega) (by omega)).trans hR.2)
  · exact (gF _ (by omega) (by omega) _ _ _ _ _).trans hC.1
  · exact (gF _ (by omega) (by omega) _ _ _ _ _).trans hC.2
  · exact (ax_set_ne _ _ (by omega)).trans (ax_newA_self _ _ _)
end
