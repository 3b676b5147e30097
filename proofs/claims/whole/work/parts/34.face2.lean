/-! ===== the face: methods ===== -/
section
variable {Γ : GE} {h : AH} {Q : PO} {p D b np nb ne nh nc y : Nat} {qu ra le ln pl tm rw hw cw pk : FI} {re : Nat → UInt32} {bk : Nat → Int64} {t x z w v er : Int32}
def frgF (pl : FI) (x : Int32) (nb : Nat) : UInt32 := if cnt pl x nb = 0 then FP.fconst0 else FP.fsub FP.fconst1 (FP.fdiv (FP.i2f (nI (longR pl x nb))) (FP.i2f (nI (cnt pl x nb))))
theorem inN_of {i n : Nat} (hi : i < n) (hn : n < 2147483648) : inN (nI i) n = true := decide_eq_true ⟨(nI_le9 (a := 0) (by omega) (by omega)).mpr (by omega), (nI_lt9 (by omega) (by omega)).mpr hi⟩
theorem inI_of {i a b : Nat} (ha : a ≤ i) (hi : i ≤ b) (hb : b < 2147483648) : inI (nI i) a b = true := decide_eq_true ⟨(nI_le9 (by omega) (by omega)).mpr ha, (nI_le9 (by omega) (by omega)).mpr hi⟩
theorem s_X9_blockCount (hF : FacC h p b D er) (hL : LedP h b np qu ra re le ln nb pl tm ne rw bk nh hw nc cw t y pk) 
    (k : Q (.inl (some (.int (nI nb)))) h) : WP Γ MX9_blockCount (0, 0, 0, 0) 0 [some (.ref p)] [] h Q := by
  have hF0 := hF
  unfold FacC at hF
  have hL0 := hL
  obtain ⟨hO, hP, hM, hJ, hR, hC, su, hS⟩ := hL
  have hP1 := hP.1
  have hM1 := hM.1
  have hJ1 := hJ.1
  have hR1 := hR.1
  have hC1 := hC.1
  have hP2 := hP.2.1
  have hP3 := hP.2.2.1
  have hP4 := hP.2.2.2.1
  have hM2 := hM.2.1
  have hM3 := hM.2.2.1
  have hM4 := hM.2.2.2
  refine wp_aload_n (n := 1) dX9_blockCount_0 rfl rfl ?_
  refine wp_getf (n := 4) dX9_blockCount_1 rfl flX9_39 (by repeat first | assumption | exact ax_set_self _ _ _ | exact ax_newA_self _ _ _ | refine (ax_set_ne _ _ (by omega)).trans ?_ | refine (ax_newA_ne _ _ _ (by omega)).trans ?_) (by rfl) ?_
  refine wp_getf (n := 7) dX9_blockCount_4 rfl flX9_118 (by repeat first | assumption | exact ax_set_self _ _ _ | exact ax_newA_self _ _ _ | refine (ax_set_ne _ _ (by omega)).trans ?_ | refine (ax_newA_ne _ _ _ (by omega)).trans ?_) (by rfl) ?_
  refine wp_getf (n := 10) dX9_blockCount_7 rfl flX9_122 (by repeat first | assumption | exact ax_set_self _ _ _ | exact ax_newA_self _ _ _ | refine (ax_set_ne _ _ (by omega)).trans ?_ | refine (ax_newA_ne _ _ _ (by omega)).trans ?_) (by rfl) ?_
  exact wp_ireturn dX9_blockCount_10 rfl rfl (k)
theorem s_X9_poolCount (hF : FacC h p b D er) (hL : LedP h b np qu ra re le ln nb pl tm ne rw bk nh hw nc cw t y pk) 
    (k : Q (.inl (some (.int (nI np)))) h) : WP Γ MX9_poolCount (0, 0, 0, 0) 0 [some (.ref p)] [] h Q := by
  have hF0 := hF
  unfold FacC at hF
  have hL0 := hL
  obtain ⟨hO, hP, hM, hJ, hR, hC, su, hS⟩ := hL
  have hP1 := hP.1
  have hM1 := hM.1
  have hJ1 := hJ.1
  have hR1 := hR.1
  have hC1 := hC.1
  have hP2 := hP.2.1
  have hP3 := hP.2.2.1
  have hP4 := hP.2.2.2.1
  have hM2 := hM.2.1
  have hM3 := hM.2.2.1
  have hM4 := hM.2.2.2
  refine wp_aload_n (n := 1) dX9_poolCount_0 rfl rfl ?_
  refine wp_getf (n := 4) dX9_poolCount_1 rfl flX9_39 (by repeat first | assumption | exact ax_set_self _ _ _ | exact ax_newA_self _ _ _ | refine (ax_set_ne _ _ (by omega)).trans ?_ | refine (ax_newA_ne _ _ _ (by omega)).trans ?_) (by rfl) ?_
  refine wp_getf (n := 7) dX9_poolCount_4 rfl flX9_76 (by repeat first | assumption | exact ax_set_self _ _ _ | exact ax_newA_self _ _ _ | refine (ax_set_ne _ _ (by omega)).trans ?_ | refine (ax_newA_ne _ _ _ (by omega)).trans ?_) (by rfl) ?_
  refine wp_getf (n := 10) dX9_poolCount_7 rfl flX9_80 (by repeat first | assumption | exact ax_set_self _ _ _ | exact ax_newA_self _ _ _ | refine (ax_set_ne _ _ (by omega)).trans ?_ | refine (ax_newA_ne _ _ _ (by omega)).trans ?_) (by rfl) ?_
  exact wp_ireturn dX9_poolCount_10 rfl rfl (k)
theorem s_X9_now (hF : FacC h p b D er) (hL : LedP h b np qu ra re le ln nb pl tm ne rw bk nh hw nc cw t y pk) 
    (k : Q (.inl (some (.int (t)))) h) : WP Γ MX9_now (0, 0, 0, 0) 0 [some (.ref p)] [] h Q := by
  have hF0 := hF
  unfold FacC at hF
  have hL0 := hL
  obtain ⟨hO, hP, hM, hJ, hR, hC, su, hS⟩ := hL
  have hP1 := hP.1
  have hM1 := hM.1
  have hJ1 := hJ.1
  have hR1 := hR.1
  have hC1 := hC.1
  have hP2 := hP.2.1
  have hP3 := hP.2.2.1
  have hP4 := hP.2.2.2.1
  have hM2 := hM.2.1
  have hM3 := hM.2.2.1
  have hM4 := hM.2.2.2
  refine wp_aload_n (n := 1) dX9_now_0 rfl rfl ?_
  refine wp_getf (n := 4) dX9_now_1 rfl flX9_39 (by repeat first | assumption | exact ax_set_self _ _ _ | exact ax_newA_self _ _ _ | refine (ax_set_ne _ _ (by omega)).trans ?_ | refine (ax_newA_ne _ _ _ (by omega)).trans ?_) (by rfl) ?_
  refine wp_getf (n := 7) dX9_now_4 rfl flX9_137 (by repeat first | assumption | exact ax_set_self _ _ _ | exact ax_newA_self _ _ _ | refine (ax_set_ne _ _ (by omega)).trans ?_ | refine (ax_newA_ne _ _ _ (by omega)).trans ?_) (by rfl) ?_
  exact wp_ireturn dX9_now_7 rfl rfl (k)
theorem s_X9_entryCount (hF : FacC h p b D er) (hL : LedP h b np qu ra re le ln nb pl tm ne rw bk nh hw nc cw t y pk) 
    (k : Q (.inl (some (.int (nI ne)))) h) : WP Γ MX9_entryCount (0, 0, 0, 0) 0 [some (.ref p)] [] h Q := by
  have hF0 := hF
  unfold FacC at hF
  have hL0 := hL
  obtain ⟨hO, hP, hM, hJ, hR, hC, su, hS⟩ := hL
  have hP1 := hP.1
  have hM1 := hM.1
  have hJ1 := hJ.1
  have hR1 := hR.1
  have hC1 := hC.1
  have hP2 := hP.2.1
  have hP3 := hP.2.2.1
  have hP4 := hP.2.2.2.1
  have hM2 := hM.2.1
  have hM3 := hM.2.2.1
  have hM4 := hM.2.2.2
  refine wp_aload_n (n := 1) dX9_entryCount_0 rfl rfl ?_
  refine wp_getf (n := 4) dX9_entryCount_1 rfl flX9_39 (by repeat first | assumption | exact ax_set_self _ _ _ | exact ax_newA_self _ _ _ | refine (ax_set_ne _ _ (by omega)).trans ?_ | refine (ax_newA_ne _ _ _ (by omega)).trans ?_) (by rfl) ?_
  refine wp_getf (n := 7) dX9_entryCount_4 rfl flX9_264 (by repeat first | assumption | exact ax_set_self _ _ _ | exact ax_newA_self _ _ _ | refine (ax_set_ne _ _ (by omega)).trans ?_ | refine (ax_newA_ne _ _ _ (by omega)).trans ?_) (by rfl) ?_
  refine wp_getf (n := 10) dX9_entryCount_7 rfl flX9_268 (by repeat first | assumption | exact ax_set_self _ _ _ | exact ax_newA_self _ _ _ | refine (ax_set_ne _ _ (by omega)).trans ?_ | refine (ax_newA_ne _ _ _ (by omega)).trans ?_) (by rfl) ?_
  exact wp_ireturn dX9_entryCount_10 rfl rfl (k)
theorem s_X9_reservationCount (hF : FacC h p b D er) (hL : LedP h b np qu ra re le ln nb pl tm ne rw bk nh hw nc cw t y pk) 
    (k : Q (.inl (some (.int (nI nh)))) h) : WP Γ MX9_reservationCount (0, 0, 0, 0) 0 [some (.ref p)] [] h Q := by
  have hF0 := hF
  unfold FacC at hF
  have hL0 := hL
  obtain ⟨hO, hP, hM, hJ, hR, hC, su, hS⟩ := hL
  have hP1 := hP.1
  have hM1 := hM.1
  have hJ1 := hJ.1
  have hR1 := hR.1
  have hC1 := hC.1
  have hP2 := hP.2.1
  have hP3 := hP.2.2.1
  have hP4 := hP.2.2.2.1
  have hM2 := hM.2.1
  have hM3 := hM.2.2.1
  have hM4 := hM.2.2.2
  refine wp_aload_n (n := 1) dX9_reservationCount_0 rfl rfl ?_
  refine wp_getf (n := 4) dX9_reservationCount_1 rfl flX9_39 (by repeat first | assumption | exact ax_set_self _ _ _ | exact ax_newA_self _ _ _ | refine (ax_set_ne _ _ (by omega)).trans ?_ | refine (ax_newA_ne _ _ _ (by omega)).trans ?_) (by rfl) ?_
  refine wp_getf (n := 7) dX9_reservationCount_4 rfl flX9_196 (by repeat first | assumption | exact ax_set_self _ _ _ | exact ax_newA_self _ _ _ | refine (ax_set_ne _ _ (by omega)).trans ?_ | refine (ax_newA_ne _ _ _ (by omega)).trans ?_) (by rfl) ?_
  refine wp_getf (n := 10) dX9_reservationCount_7 rfl flX9_208 (by repeat first | assumption | exact ax_set_self _ _ _ | exact ax_newA_self _ _ _ | refine (ax_set_ne _ _ (by omega)).trans ?_ | refine (ax_newA_ne _ _ _ (by omega)).trans ?_) (by rfl) ?_
  exact wp_ireturn dX9_reservationCount_10 rfl rfl (k)
theorem s_X9_textError (hF : FacC h p b D er) (hL : LedP h b np qu ra re le ln nb pl tm ne rw bk nh hw nc cw t y pk) 
    (k : Q (.inl (some (.int (er)))) h) : WP Γ MX9_textError (0, 0, 0, 0) 0 [some (.ref p)] [] h Q := by
  have hF0 := hF
  unfold FacC at hF
  have hL0 := hL
  obtain ⟨hO, hP, hM, hJ, hR, hC, su, hS⟩ := hL
  have hP1 := hP.1
  have hM1 := hM.1
  have hJ1 := hJ.1
  have hR1 := hR.1
  have hC1 := hC.1
  have hP2 := hP.2.1
  have hP3 := hP.2.2.1
  have hP4 := hP.2.2.2.1
  have hM2 := hM.2.1
  have hM3 := hM.2.2.1
  have hM4 := hM.2.2.2
  refine wp_aload_n (n := 1) dX9_textError_0 rfl rfl ?_
  refine wp_getf (n := 4) dX9_textError_1 rfl flX9_46 (by repeat first | assumption | exact ax_set_self _ _ _ | exact ax_newA_self _ _ _ | refine (ax_set_ne _ _ (by omega)).trans ?_ | refine (ax_newA_ne _ _ _ (by omega)).trans ?_) (by rfl) ?_
  exact wp_ireturn dX9_textError_4 rfl rfl (k)
theorem s_X9_nextExpiry (hF : FacC h p b D er) (hL : LedP h b np qu ra re le ln nb pl tm ne rw bk nh hw nc cw t y pk) (hh : nh ≤ 60)
    (k : Q (.inl (some (.int (oI (fteO hw nh))))) h) : WP Γ MX9_nextExpiry (3, 66, 0, 0) 0 [some (.ref p)] [] h Q := by
  have hF0 := hF
  unfold FacC at hF
  have hL0 := hL
  obtain ⟨hO, hP, hM, hJ, hR, hC, su, hS⟩ := hL
  have hP1 := hP.1
  have hM1 := hM.1
  have hJ1 := hJ.1
  have hR1 := hR.1
  have hC1 := hC.1
  have hP2 := hP.2.1
  have hP3 := hP.2.2.1
  have hP4 := hP.2.2.2.1
  have hM2 := hM.2.1
  have hM3 := hM.2.2.1
  have hM4 := hM.2.2.2
  refine wp_aload_n (n := 1) dX9_nextExpiry_0 rfl rfl ?_
  refine wp_getf (n := 4) dX9_nextExpiry_1 rfl flX9_39 (by repeat first | assumption | exact ax_set_self _ _ _ | exact ax_newA_self _ _ _ | refine (ax_set_ne _ _ (by omega)).trans ?_ | refine (ax_newA_ne _ _ _ (by omega)).trans ?_) (by rfl) ?_
  refine wp_getf (n := 7) dX9_nextExpiry_4 rfl flX9_196 (by repeat first | assumption | exact ax_set_self _ _ _ | exact ax_newA_self _ _ _ | refine (ax_set_ne _ _ (by omega)).trans ?_ | refine (ax_newA_ne _ _ _ (by omega)).trans ?_) (by rfl) ?_
  refine wp_callV0 (n := 10) (rm' := (2, 43, 0, 0)) rfl dX9_nextExpiry_7 rfl mlX9_217 (by repeat first | assumption | exact ax_set_self _ _ _ | exact ax_newA_self _ _ _ | refine (ax_set_ne _ _ (by omega)).trans ?_ | refine (ax_newA_ne _ _ _ (by omega)).trans ?_) rfl rfl rfl rfl rfl ?_
  refine s_X7_firstToExpire hR hh ?_
  show WP Γ _ _ _ _ _ _ _
  exact wp_ireturn dX9_nextExpiry_10 rfl rfl (k)
theorem s_X9_totalRent (hF : FacC h p b D er) (hL : LedP h b np qu ra re le ln nb pl tm ne rw bk nh hw nc cw t y pk) (hn : np ≤ 8) (hRe : ∀ j, j < np → PF (re j))
    (k : PF (rntS re np) → Q (.inl (some (.float (rntS re np)))) h) : WP Γ MX9_totalRent (1, 22, 0, 0) 0 [some (.ref p)] [] h Q := by
  have hF0 := hF
  unfold FacC at hF
  have hL0 := hL
  obtain ⟨hO, hP, hM, hJ, hR, hC, su, hS⟩ := hL
  have hP1 := hP.1
  have hM1 := hM.1
  have hJ1 := hJ.1
  have hR1 := hR.1
  have hC1 := hC.1
  have hP2 := hP.2.1
  have hP3 := hP.2.2.1
  have hP4 := hP.2.2.2.1
  have hM2 := hM.2.1
  have hM3 := hM.2.2.1
  have hM4 := hM.2.2.2
  refine wp_aload_n (n := 1) dX9_totalRent_0 rfl rfl ?_
  refine wp_getf (n := 4) dX9_totalRent_1 rfl flX9_39 (by repeat first | assumption | exact ax_set_self _ _ _ | exact ax_newA_self _ _ _ | refine (ax_set_ne _ _ (by omega)).trans ?_ | refine (ax_newA_ne _ _ _ (by omega)).trans ?_) (by rfl) ?_
  refine wp_getf (n := 7) dX9_totalRent_4 rfl flX9_76 (by repeat first | assumption | exact ax_set_self _ _ _ | exact ax_newA_self _ _ _ | refine (ax_set_ne _ _ (by omega)).trans ?_ | refine (ax_newA_ne _ _ _ (by omega)).trans ?_) (by rfl) ?_
  refine wp_callV0 (n := 10) (rm' := (0, 0, 0, 0)) rfl dX9_totalRent_7 rfl mlX9_307 (by repeat first | assumption | exact ax_set_self _ _ _ | exact ax_newA_self _ _ _ | refine (ax_set_ne _ _ (by omega)).trans ?_ | refine (ax_newA_ne _ _ _ (by omega)).trans ?_) rfl rfl rfl rfl rfl ?_
  refine s_X6_sumOfRents hP hn hRe (fun hp => ?_)
  show WP Γ _ _ _ _ _ _ _
  exact wp_freturn dX9_totalRent_10 rfl (k hp)
theorem s_X9_mismatches (hF : FacC h p b D er) (hL : LedP h b np qu ra re le ln nb pl tm ne rw bk nh hw nc cw t y pk) (hn : np ≤ 8) (he : ne ≤ 300) (hb : nb ≤ 200)
    (k : Q (.inl (some (.int (setB (fun j => decide (¬ bkd nb rw (nI j) ne = nI (cnt pl (nI j) nb))) np)))) h) : WP Γ MX9_mismatches (5, 113, 0, 0) 0 [some (.ref p)] [] h Q := by
  have hF0 := hF
  unfold FacC at hF
  have hL0 := hL
  obtain ⟨hO, hP, hM, hJ, hR, hC, su, hS⟩ := hL
  have hP1 := hP.1
  have hM1 := hM.1
  have hJ1 := hJ.1
  have hR1 := hR.1
  have hC1 := hC.1
  have hP2 := hP.2.1
  have hP3 := hP.2.2.1
  have hP4 := hP.2.2.2.1
  have hM2 := hM.2.1
  have hM3 := hM.2.2.1
  have hM4 := hM.2.2.2
  refine wp_aload_n (n := 1) dX9_mismatches_0 rfl rfl ?_
  refine wp_getf (n := 4) dX9_mismatches_1 rfl flX9_39 (by repeat first | assumption | exact ax_set_self _ _ _ | exact ax_newA_self _ _ _ | refine (ax_set_ne _ _ (by omega)).trans ?_ | refine (ax_newA_ne _ _ _ (by omega)).trans ?_) (by rfl) ?_
  refine wp_callV0 (n := 7) (rm' := (4, 91, 0, 0)) rfl dX9_mismatches_4 rfl mlX9_315 (by repeat first | assumption | exact ax_set_self _ _ _ | exact ax_newA_self _ _ _ | refine (ax_set_ne _ _ (by omega)).trans ?_ | refine (ax_newA_ne _ _ _ (by omega)).trans ?_) rfl rfl rfl rfl rfl ?_
  refine s_X5_unequalPools hL0 hn he hb ?_
  show WP Γ _ _ _ _ _ _ _
  exact wp_ireturn dX9_mismatches_7 rfl rfl (k)
theorem s_X9_reconcile (hF : FacC h p b D er) (hL : LedP h b np qu ra re le ln nb pl tm ne rw bk nh hw nc cw t y pk) (hA : Γ.2.1 ≤ b) (hn : nb ≤ 200) (hp : np ≤ 8) (he : ne ≤ 300)
    (k : ∀ h' bk', ax_fr b (b + 19) h h' → (∀ e d, e < (adjG nb pl np t 8 rw ne).2.1 → d < 200 → blk bk' e d = (decide (e < ne) && blk bk e d)) → LedP h' b np qu ra re le ln nb pl tm (if (adjG nb pl np t 8 rw ne).2.2 = true then ne else (adjG nb pl np t 8 rw ne).2.1) ((adjG nb pl np t 8 rw ne).1) bk' nh hw nc cw t y pk → Q (.inl (some (.int (if (adjG nb pl np t 8 rw ne).2.2 = true then -2 else nI (adjG nb pl np t 8 rw ne).2.1 - nI ne)))) h') : WP Γ MX9_reconcile (5, 116, 0, 0) 0 [some (.ref p)] [] h Q := by
  have hF0 := hF
  unfold FacC at hF
  have hL0 := hL
  obtain ⟨hO, hP, hM, hJ, hR, hC, su, hS⟩ := hL
  have hP1 := hP.1
  have hM1 := hM.1
  have hJ1 := hJ.1
  have hR1 := hR.1
  have hC1 := hC.1
  have hP2 := hP.2.1
  have hP3 := hP.2.2.1
  have hP4 := hP.2.2.2.1
  have hM2 := hM.2.1
  have hM3 := hM.2.2.1
  have hM4 := hM.2.2.2
  refine wp_aload_n (n := 1) dX9_reconcile_0 rfl rfl ?_
  refine wp_getf (n := 4) dX9_reconcile_1 rfl flX9_39 (by repeat first | assumption | exact ax_set_self _ _ _ | exact ax_newA_self _ _ _ | refine (ax_set_ne _ _ (by omega)).trans ?_ | refine (ax_newA_ne _ _ _ (by omega)).trans ?_) (by rfl) ?_
  refine wp_callV0 (n := 7) (rm' := (4, 91, 0, 0)) rfl dX9_reconcile_4 rfl mlX9_318 (by repeat first | assumption | exact ax_set_self _ _ _ | exact ax_newA_self _ _ _ | refine (ax_set_ne _ _ (by omega)).trans ?_ | refine (ax_newA_ne _ _ _ (by omega)).trans ?_) rfl rfl rfl rfl rfl ?_
  refine s_X5_adjust hL0 hA hn hp he (fun h2 bk2 hF2 hz2 hL2 => ?_)
  show WP Γ _ _ _ _ _ _ _
  exact wp_ireturn dX9_reconcile_7 rfl rfl (k h2 bk2 hF2 hz2 hL2)
theorem s_X9_checkpoint (hF : FacC h p b D er) (hL : LedP h b np qu ra re le ln nb pl tm ne rw bk nh hw nc cw t y pk) (hA : Γ.2.1 ≤ b) (hn : nb ≤ 200) (hp : np ≤ 8) (hc9 : nc ≤ 10)
    (k0 : 10 ≤ nc → Q (.inl (some (.int (-2)))) h) (k1 : nc < 10 → ∀ h' cw', ax_fr b (b + 19) h h' → (∀ i, i < nc * 9 → cw' i = cw i) → (∀ j, j < np → cw' (nc * 9 + j) = nI (cnt pl (nI j) nb)) → cw' (nc * 9 + 8) = nI ne → LedP h' b np qu ra re le ln nb pl tm ne rw bk nh hw (nc + 1) cw' t y pk → Q (.inl (some (.int (nI nc)))) h') : WP Γ MX9_checkpoint (2, 45, 0, 0) 0 [some (.ref p)] [] h Q := by
  have hF0 := hF
  unfold FacC at hF
  have hL0 := hL
  obtain ⟨hO, hP, hM, hJ, hR, hC, su, hS⟩ := hL
  have hP1 := hP.1
  have hM1 := hM.1
  have hJ1 := hJ.1
  have hR1 := hR.1
  have hC1 := hC.1
  have hP2 := hP.2.1
  have hP3 := hP.2.2.1
  have hP4 := hP.2.2.2.1
  have hM2 := hM.2.1
  have hM3 := hM.2.2.1
  have hM4 := hM.2.2.2
  refine wp_aload_n (n := 1) dX9_checkpoint_0 rfl rfl ?_
  refine wp_getf (n := 4) dX9_checkpoint_1 rfl flX9_39 (by repeat first | assumption | exact ax_set_self _ _ _ | exact ax_newA_self _ _ _ | refine (ax_set_ne _ _ (by omega)).trans ?_ | refine (ax_newA_ne _ _ _ (by omega)).trans ?_) (by rfl) ?_
  refine wp_callV0 (n := 7) (rm' := (1, 23, 0, 0)) rfl dX9_checkpoint_4 rfl mlX9_321 (by repeat first | assumption | exact ax_set_self _ _ _ | exact ax_newA_self _ _ _ | refine (ax_set_ne _ _ (by omega)).trans ?_ | refine (ax_newA_ne _ _ _ (by omega)).trans ?_) rfl rfl rfl rfl rfl ?_
  refine s_X5_mark hL0 hA hn hp hc9 (fun q => ?_) (fun q h2 cw2 f2 z1 z2 z3 hL2 => ?_)
  · show WP Γ _ _ _ _ _ _ _
    exact wp_ireturn dX9_checkpoint_7 rfl rfl (k0 q)
  · show WP Γ _ _ _ _ _ _ _
    exact wp_ireturn dX9_checkpoint_7 rfl rfl (k1 q h2 cw2 f2 z1 z2 z3 hL2)
theorem s_X9_balance (hF : FacC h p b D er) (hL : LedP h b np qu ra re le ln nb pl tm ne rw bk nh hw nc cw t y pk) (hn : np ≤ 8) (hb : nb ≤ 200)
    (k1 : inN x np = false → ∀ n', h.1 ≤ n' → Q (.inr IOB) (n', h.2)) (k : ∀ j, j < np → x = nI j → Q (.inl (some (.int (nI (cnt pl (nI j) nb))))) h) : WP Γ MX9_balance (7, 116, 1, 6) 0 [some (.ref p), some (.int x)] [] h Q := by
  have hF0 := hF
  unfold FacC at hF
  have hL0 := hL
  obtain ⟨hO, hP, hM, hJ, hR, hC, su, hS⟩ := hL
  have hP1 := hP.1
  have hM1 := hM.1
  have hJ1 := hJ.1
  have hR1 := hR.1
  have hC1 := hC.1
  have hP2 := hP.2.1
  have hP3 := hP.2.2.1
  have hP4 := hP.2.2.2.1
  have hM2 := hM.2.1
  have hM3 := hM.2.2.1
  have hM4 := hM.2.2.2
  refine wp_aload_n (n := 1) dX9_balance_0 rfl rfl ?_
  refine wp_iload_n (n := 2) dX9_balance_1 rfl rfl ?_
  refine wp_callV1 (n := 5) (rm' := (6, 95, 1, 6)) rfl dX9_balance_2 rfl mlX9_125 (by repeat first | assumption | exact ax_set_self _ _ _ | exact ax_newA_self _ _ _ | refine (ax_set_ne _ _ (by omega)).trans ?_ | refine (ax_newA_ne _ _ _ (by omega)).trans ?_) rfl rfl rfl rfl rfl ?_
  refine s_X9_needPool hF0 hL0 hn k1 (fun j hj e => ?_)
  show WP Γ _ _ _ _ _ _ _
  subst e
  refine wp_aload_n (n := 6) dX9_balance_5 rfl rfl ?_
  refine wp_getf (n := 9) dX9_balance_6 rfl flX9_39 (by repeat first | assumption | exact ax_set_self _ _ _ | exact ax_newA_self _ _ _ | refine (ax_set_ne _ _ (by omega)).trans ?_ | refine (ax_newA_ne _ _ _ (by omega)).trans ?_) (by rfl) ?_
  refine wp_getf (n := 12) dX9_balance_9 rfl flX9_118 (by repeat first | assumption | exact ax_set_self _ _ _ | exact ax_newA_self _ _ _ | refine (ax_set_ne _ _ (by omega)).trans ?_ | refine (ax_newA_ne _ _ _ (by omega)).trans ?_) (by rfl) ?_
  refine wp_iload_n (n := 13) dX9_balance_12 rfl rfl ?_
  refine wp_callV1 (n := 16) (rm' := (0, 0, 0, 0)) rfl dX9_balance_13 rfl mlX9_225 (by repeat first | assumption | exact ax_set_self _ _ _ | exact ax_newA_self _ _ _ | refine (ax_set_ne _ _ (by omega)).trans ?_ | refine (ax_newA_ne _ _ _ (by omega)).trans ?_) rfl rfl rfl rfl rfl ?_
  refine s_X1_countIn hM hb ?_
  show WP Γ _ _ _ _ _ _ _
  exact wp_ireturn dX9_balance_16 rfl rfl (k j hj rfl)
theorem s_X9_booked (hF : FacC h p b D er) (hL : LedP h b np qu ra re le ln nb pl tm ne rw bk nh hw nc cw t y pk) (hn : np ≤ 8) (he : ne ≤ 300)
    (k1 : inN x np = false → ∀ n', h.1 ≤ n' → Q (.inr IOB) (n', h.2)) (k : ∀ j, j < np → x = nI j → Q (.inl (some (.int (bkd nb rw (nI j) ne)))) h) : WP Γ MX9_booked (7, 116, 1, 6) 0 [some (.ref p), some (.int x)] [] h Q := by
  have hF0 := hF
  unfold FacC at hF
  have hL0 := hL
  obtain ⟨hO, hP, hM, hJ, hR, hC, su, hS⟩ := hL
  have hP1 := hP.1
  have hM1 := hM.1
  have hJ1 := hJ.1
  have hR1 := hR.1
  have hC1 := hC.1
  have hP2 := hP.2.1
  have hP3 := hP.2.2.1
  have hP4 := hP.2.2.2.1
  have hM2 := hM.2.1
  have hM3 := hM.2.2.1
  have hM4 := hM.2.2.2
  refine wp_aload_n (n := 1) dX9_booked_0 rfl rfl ?_
  refine wp_iload_n (n := 2) dX9_booked_1 rfl rfl ?_
  refine wp_callV1 (n := 5) (rm' := (6, 95, 1, 6)) rfl dX9_booked_2 rfl mlX9_125 (by repeat first | assumption | exact ax_set_self _ _ _ | exact ax_newA_self _ _ _ | refine (ax_set_ne _ _ (by omega)).trans ?_ | refine (ax_newA_ne _ _ _ (by omega)).trans ?_) rfl rfl rfl rfl rfl ?_
  refine s_X9_needPool hF0 hL0 hn k1 (fun j hj e => ?_)
  show WP Γ _ _ _ _ _ _ _
  subst e
  refine wp_aload_n (n := 6) dX9_booked_5 rfl rfl ?_
  refine wp_getf (n := 9) dX9_booked_6 rfl flX9_39 (by repeat first | assumption | exact ax_set_self _ _ _ | exact ax_newA_self _ _ _ | refine (ax_set_ne _ _ (by omega)).trans ?_ | refine (ax_newA_ne _ _ _ (by omega)).trans ?_) (by rfl) ?_
  refine wp_iload_n (n := 10) dX9_booked_9 rfl rfl ?_
  refine wp_callV1 (n := 13) (rm' := (3, 70, 0, 0)) rfl dX9_booked_10 rfl mlX9_228 (by repeat first | assumption | exact ax_set_self _ _ _ | exact ax_newA_self _ _ _ | refine (ax_set_ne _ _ (by omega)).trans ?_ | refine (ax_newA_ne _ _ _ (by omega)).trans ?_) rfl rfl rfl rfl rfl ?_
  refine s_X5_bookedIn hL0 he ?_
  show WP Γ _ _ _ _ _ _ _
  exact wp_ireturn dX9_booked_13 rfl rfl (k j hj rfl)
theorem s_X9_available (hF : FacC h p b D er) (hL : LedP h b np qu ra re le ln nb pl tm ne rw bk nh hw nc cw t y pk) (hn : np ≤ 8) (hb : nb ≤ 200)(hh : nh ≤ 60)
    (k1 : inN x np = false → ∀ n', h.1 ≤ n' → Q (.inr IOB) (n', h.2)) (k : ∀ j, j < np → x = nI j → Q (.inl (some (.int (avl pl nb hw nh (nI j))))) h) : WP Γ MX9_available (7, 116, 1, 6) 0 [some (.ref p), some (.int x)] [] h Q := by
  have hF0 := hF
  unfold FacC at hF
  have hL0 := hL
  obtain ⟨hO, hP, hM, hJ, hR, hC, su, hS⟩ := hL
  have hP1 := hP.1
  have hM1 := hM.1
  have hJ1 := hJ.1
  have hR1 := hR.1
  have hC1 := hC.1
  have hP2 := hP.2.1
  have hP3 := hP.2.2.1
  have hP4 := hP.2.2.2.1
  have hM2 := hM.2.1
  have hM3 := hM.2.2.1
  have hM4 := hM.2.2.2
  refine wp_aload_n (n := 1) dX9_available_0 rfl rfl ?_
  refine wp_iload_n (n := 2) dX9_available_1 rfl rfl ?_
  refine wp_callV1 (n := 5) (rm' := (6, 95, 1, 6)) rfl dX9_available_2 rfl mlX9_125 (by repeat first | assumption | exact ax_set_self _ _ _ | exact ax_newA_self _ _ _ | refine (ax_set_ne _ _ (by omega)).trans ?_ | refine (ax_newA_ne _ _ _ (by omega)).trans ?_) rfl rfl rfl rfl rfl ?_
  refine s_X9_needPool hF0 hL0 hn k1 (fun j hj e => ?_)
  show WP Γ _ _ _ _ _ _ _
  subst e
  refine wp_aload_n (n := 6) dX9_available_5 rfl rfl ?_
  refine wp_getf (n := 9) dX9_available_6 rfl flX9_39 (by repeat first | assumption | exact ax_set_self _ _ _ | exact ax_newA_self _ _ _ | refine (ax_set_ne _ _ (by omega)).trans ?_ | refine (ax_newA_ne _ _ _ (by omega)).trans ?_) (by rfl) ?_
  refine wp_iload_n (n := 10) dX9_available_9 rfl rfl ?_
  refine wp_callV1 (n := 13) (rm' := (1, 25, 0, 0)) rfl dX9_available_10 rfl mlX9_173 (by repeat first | assumption | exact ax_set_self _ _ _ | exact ax_newA_self _ _ _ | refine (ax_set_ne _ _ (by omega)).trans ?_ | refine (ax_newA_ne _ _ _ (by omega)).trans ?_) rfl rfl rfl rfl rfl ?_
  refine s_X5_availableIn hL0 hb hh ?_
  show WP Γ _ _ _ _ _ _ _
  exact wp_ireturn dX9_available_13 rfl rfl (k j hj rfl)
theorem s_X9_room (hF : FacC h p b D er) (hL : LedP h b np qu ra re le ln nb pl tm ne rw bk nh hw nc cw t y pk) (hn : np ≤ 8) (hb : nb ≤ 200)(hh : nh ≤ 60)
    (k1 : inN x np = false → ∀ n', h.1 ≤ n' → Q (.inr IOB) (n', h.2)) (k : ∀ j, j < np → x = nI j → Q (.inl (some (.int (roo qu pl nb hw nh j)))) h) : WP Γ MX9_room (7, 116, 1, 6) 0 [some (.ref p), some (.int x)] [] h Q := by
  have hF0 := hF
  unfold FacC at hF
  have hL0 := hL
  obtain ⟨hO, hP, hM, hJ, hR, hC, su, hS⟩ := hL
  have hP1 := hP.1
  have hM1 := hM.1
  have hJ1 := hJ.1
  have hR1 := hR.1
  have hC1 := hC.1
  have hP2 := hP.2.1
  have hP3 := hP.2.2.1
  have hP4 := hP.2.2.2.1
  have hM2 := hM.2.1
  have hM3 := hM.2.2.1
  have hM4 := hM.2.2.2
  refine wp_aload_n (n := 1) dX9_room_0 rfl rfl ?_
  refine wp_iload_n (n := 2) dX9_room_1 rfl rfl ?_
  refine wp_callV1 (n := 5) (rm' := (6, 95, 1, 6)) rfl dX9_room_2 rfl mlX9_125 (by repeat first | assumption | exact ax_set_self _ _ _ | exact ax_newA_self _ _ _ | refine (ax_set_ne _ _ (by omega)).trans ?_ | refine (ax_newA_ne _ _ _ (by omega)).trans ?_) rfl rfl rfl rfl rfl ?_
  refine s_X9_needPool hF0 hL0 hn k1 (fun j hj e => ?_)
  show WP Γ _ _ _ _ _ _ _
  subst e
  refine wp_aload_n (n := 6) dX9_room_5 rfl rfl ?_
  refine wp_getf (n := 9) dX9_room_6 rfl flX9_39 (by repeat first | assumption | exact ax_set_self _ _ _ | exact ax_newA_self _ _ _ | refine (ax_set_ne _ _ (by omega)).trans ?_ | refine (ax_newA_ne _ _ _ (by omega)).trans ?_) (by rfl) ?_
  refine wp_iload_n (n := 10) dX9_room_9 rfl rfl ?_
  refine wp_callV1 (n := 13) (rm' := (1, 25, 0, 0)) rfl dX9_room_10 rfl mlX9_176 (by repeat first | assumption | exact ax_set_self _ _ _ | exact ax_newA_self _ _ _ | refine (ax_set_ne _ _ (by omega)).trans ?_ | refine (ax_newA_ne _ _ _ (by omega)).trans ?_) rfl rfl rfl rfl rfl ?_
  refine s_X5_roomIn hL0 hb hh (by omega) ?_
  show WP Γ _ _ _ _ _ _ _
  exact wp_ireturn dX9_room_13 rfl rfl (k j hj rfl)
theorem s_X9_runCount (hF : FacC h p b D er) (hL : LedP h b np qu ra re le ln nb pl tm ne rw bk nh hw nc cw t y pk) (hn : np ≤ 8) (hb : nb ≤ 200)
    (k1 : inN x np = false → ∀ n', h.1 ≤ n' → Q (.inr IOB) (n', h.2)) (k : ∀ j, j < np → x = nI j → Q (.inl (some (.int (nI (cntB (endsR pl nb (nI j)) nb))))) h) : WP Γ MX9_runCount (7, 116, 1, 6) 0 [some (.ref p), some (.int x)] [] h Q := by
  have hF0 := hF
  unfold FacC at hF
  have hL0 := hL
  obtain ⟨hO, hP, hM, hJ, hR, hC, su, hS⟩ := hL
  have hP1 := hP.1
  have hM1 := hM.1
  have hJ1 := hJ.1
  have hR1 := hR.1
  have hC1 := hC.1
  have hP2 := hP.2.1
  have hP3 := hP.2.2.1
  have hP4 := hP.2.2.2.1
  have hM2 := hM.2.1
  have hM3 := hM.2.2.1
  have hM4 := hM.2.2.2
  refine wp_aload_n (n := 1) dX9_runCount_0 rfl rfl ?_
  refine wp_iload_n (n := 2) dX9_runCount_1 rfl rfl ?_
  refine wp_callV1 (n := 5) (rm' := (6, 95, 1, 6)) rfl dX9_runCount_2 rfl mlX9_125 (by repeat first | assumption | exact ax_set_self _ _ _ | exact ax_newA_self _ _ _ | refine (ax_set_ne _ _ (by omega)).trans ?_ | refine (ax_newA_ne _ _ _ (by omega)).trans ?_) rfl rfl rfl rfl rfl ?_
  refine s_X9_needPool hF0 hL0 hn k1 (fun j hj e => ?_)
  show WP Γ _ _ _ _ _ _ _
  subst e
  refine wp_aload_n (n := 6) dX9_runCount_5 rfl rfl ?_
  refine wp_getf (n := 9) dX9_runCount_6 rfl flX9_39 (by repeat first | assumption | exact ax_set_self _ _ _ | exact ax_newA_self _ _ _ | refine (ax_set_ne _ _ (by omega)).trans ?_ | refine (ax_newA_ne _ _ _ (by omega)).trans ?_) (by rfl) ?_
  refine wp_getf (n := 12) dX9_runCount_9 rfl flX9_118 (by repeat first | assumption | exact ax_set_self _ _ _ | exact ax_newA_self _ _ _ | refine (ax_set_ne _ _ (by omega)).trans ?_ | refine (ax_newA_ne _ _ _ (by omega)).trans ?_) (by rfl) ?_
  refine wp_iload_n (n := 13) dX9_runCount_12 rfl rfl ?_
  refine wp_callV1 (n := 16) (rm' := (1, 22, 0, 0)) rfl dX9_runCount_13 rfl mlX9_246 (by repeat first | assumption | exact ax_set_self _ _ _ | exact ax_newA_self _ _ _ | refine (ax_set_ne _ _ (by omega)).trans ?_ | refine (ax_newA_ne _ _ _ (by omega)).trans ?_) rfl rfl rfl rfl rfl ?_
  refine s_X1_runsOf hM hb ?_
  show WP Γ _ _ _ _ _ _ _
  exact wp_ireturn dX9_runCount_16 rfl rfl (k j hj rfl)
theorem s_X9_longestRun (hF : FacC h p b D er) (hL : LedP h b np qu ra re le ln nb pl tm ne rw bk nh hw nc cw t y pk) (hn : np ≤ 8) (hb : nb ≤ 200)
    (k1 : inN x np = false → ∀ n', h.1 ≤ n' → Q (.inr IOB) (n', h.2)) (k : ∀ j, j < np → x = nI j → Q (.inl (some (.int (nI (longR pl (nI j) nb))))) h) : WP Γ MX9_longestRun (7, 116, 1, 6) 0 [some (.ref p), some (.int x)] [] h Q := by
  have hF0 := hF
  unfold FacC at hF
  have hL0 := hL
  obtain ⟨hO, hP, hM, hJ, hR, hC, su, hS⟩ := hL
  have hP1 := hP.1
  have hM1 := hM.1
  have hJ1 := hJ.1
  have hR1 := hR.1
  have hC1 := hC.1
  have hP2 := hP.2.1
  have hP3 := hP.2.2.1
  have hP4 := hP.2.2.2.1
  have hM2 := hM.2.1
  have hM3 := hM.2.2.1
  have hM4 := hM.2.2.2
  refine wp_aload_n (n := 1) dX9_longestRun_0 rfl rfl ?_
  refine wp_iload_n (n := 2) dX9_longestRun_1 rfl rfl ?_
  refine wp_callV1 (n := 5) (rm' := (6, 95, 1, 6)) rfl dX9_longestRun_2 rfl mlX9_125 (by repeat first | assumption | exact ax_set_self _ _ _ | exact ax_newA_self _ _ _ | refine (ax_set_ne _ _ (by omega)).trans ?_ | refine (ax_newA_ne _ _ _ (by omega)).trans ?_) rfl rfl rfl rfl rfl ?_
  refine s_X9_needPool hF0 hL0 hn k1 (fun j hj e => ?_)
  show WP Γ _ _ _ _ _ _ _
  subst e
  refine wp_aload_n (n := 6) dX9_longestRun_5 rfl rfl ?_
  refine wp_getf (n := 9) dX9_longestRun_6 rfl flX9_39 (by repeat first | assumption | exact ax_set_self _ _ _ | exact ax_newA_self _ _ _ | refine (ax_set_ne _ _ (by omega)).trans ?_ | refine (ax_newA_ne _ _ _ (by omega)).trans ?_) (by rfl) ?_
  refine wp_getf (n := 12) dX9_longestRun_9 rfl flX9_118 (by repeat first | assumption | exact ax_set_self _ _ _ | exact ax_newA_self _ _ _ | refine (ax_set_ne _ _ (by omega)).trans ?_ | refine (ax_newA_ne _ _ _ (by omega)).trans ?_) (by rfl) ?_
  refine wp_iload_n (n := 13) dX9_longestRun_12 rfl rfl ?_
  refine wp_callV1 (n := 16) (rm' := (1, 60, 0, 0)) rfl dX9_longestRun_13 rfl mlX9_249 (by repeat first | assumption | exact ax_set_self _ _ _ | exact ax_newA_self _ _ _ | refine (ax_set_ne _ _ (by omega)).trans ?_ | refine (ax_newA_ne _ _ _ (by omega)).trans ?_) rfl rfl rfl rfl rfl ?_
  refine s_X1_longestOf hM hb ?_
  show WP Γ _ _ _ _ _ _ _
  exact wp_ireturn dX9_longestRun_16 rfl rfl (k j hj rfl)
theorem s_X9_bestSwap (hF : FacC h p b D er) (hL : LedP h b np qu ra re le ln nb pl tm ne rw bk nh hw nc cw t y pk) (hn : np ≤ 8) (hb : nb ≤ 200)
    (k1 : inN x np = false → ∀ n', h.1 ≤ n' → Q (.inr IOB) (n', h.2)) (k : ∀ j, j < np → x = nI j → Q (.inl (some (.int ((boutS (joinL pl nb (nI j)) pl nb (nI j) nb).1)))) h) : WP Γ MX9_bestSwap (7, 116, 1, 6) 0 [some (.ref p), some (.int x)] [] h Q := by
  have hF0 := hF
  unfold FacC at hF
  have hL0 := hL
  obtain ⟨hO, hP, hM, hJ, hR, hC, su, hS⟩ := hL
  have hP1 := hP.1
  have hM1 := hM.1
  have hJ1 := hJ.1
  have hR1 := hR.1
  have hC1 := hC.1
  have hP2 := hP.2.1
  have hP3 := hP.2.2.1
  have hP4 := hP.2.2.2.1
  have hM2 := hM.2.1
  have hM3 := hM.2.2.1
  have hM4 := hM.2.2.2
  refine wp_aload_n (n := 1) dX9_bestSwap_0 rfl rfl ?_
  refine wp_iload_n (n := 2) dX9_bestSwap_1 rfl rfl ?_
  refine wp_callV1 (n := 5) (rm' := (6, 95, 1, 6)) rfl dX9_bestSwap_2 rfl mlX9_125 (by repeat first | assumption | exact ax_set_self _ _ _ | exact ax_newA_self _ _ _ | refine (ax_set_ne _ _ (by omega)).trans ?_ | refine (ax_newA_ne _ _ _ (by omega)).trans ?_) rfl rfl rfl rfl rfl ?_
  refine s_X9_needPool hF0 hL0 hn k1 (fun j hj e => ?_)
  show WP Γ _ _ _ _ _ _ _
  subst e
  refine wp_aload_n (n := 6) dX9_bestSwap_5 rfl rfl ?_
  refine wp_getf (n := 9) dX9_bestSwap_6 rfl flX9_39 (by repeat first | assumption | exact ax_set_self _ _ _ | exact ax_newA_self _ _ _ | refine (ax_set_ne _ _ (by omega)).trans ?_ | refine (ax_newA_ne _ _ _ (by omega)).trans ?_) (by rfl) ?_
  refine wp_getf (n := 12) dX9_bestSwap_9 rfl flX9_118 (by repeat first | assumption | exact ax_set_self _ _ _ | exact ax_newA_self _ _ _ | refine (ax_set_ne _ _ (by omega)).trans ?_ | refine (ax_newA_ne _ _ _ (by omega)).trans ?_) (by rfl) ?_
  refine wp_iload_n (n := 13) dX9_bestSwap_12 rfl rfl ?_
  refine wp_callV1 (n := 16) (rm' := (2, 84, 0, 0)) rfl dX9_bestSwap_13 rfl mlX9_258 (by repeat first | assumption | exact ax_set_self _ _ _ | exact ax_newA_self _ _ _ | refine (ax_set_ne _ _ (by omega)).trans ?_ | refine (ax_newA_ne _ _ _ (by omega)).trans ?_) rfl rfl rfl rfl rfl ?_
  refine s_X1_bestExchange hM hb ?_
  show WP Γ _ _ _ _ _ _ _
  exact wp_ireturn dX9_bestSwap_16 rfl rfl (k j hj rfl)
theorem s_X9_reservedFrom (hF : FacC h p b D er) (hL : LedP h b np qu ra re le ln nb pl tm ne rw bk nh hw nc cw t y pk) (hn : np ≤ 8) (hh : nh ≤ 60)
    (k1 : inN x np = false → ∀ n', h.1 ≤ n' → Q (.inr IOB) (n', h.2)) (k : ∀ j, j < np → x = nI j → Q (.inl (some (.int (pSum hw 0 (nI j) nh)))) h) : WP Γ MX9_reservedFrom (7, 116, 1, 6) 0 [some (.ref p), some (.int x)] [] h Q := by
  have hF0 := hF
  unfold FacC at hF
  have hL0 := hL
  obtain ⟨hO, hP, hM, hJ, hR, hC, su, hS⟩ := hL
  have hP1 := hP.1
  have hM1 := hM.1
  have hJ1 := hJ.1
  have hR1 := hR.1
  have hC1 := hC.1
  have hP2 := hP.2.1
  have hP3 := hP.2.2.1
  have hP4 := hP.2.2.2.1
  have hM2 := hM.2.1
  have hM3 := hM.2.2.1
  have hM4 := hM.2.2.2
  refine wp_aload_n (n := 1) dX9_reservedFrom_0 rfl rfl ?_
  refine wp_iload_n (n := 2) dX9_reservedFrom_1 rfl rfl ?_
  refine wp_callV1 (n := 5) (rm' := (6, 95, 1, 6)) rfl dX9_reservedFrom_2 rfl mlX9_125 (by repeat first | assumption | exact ax_set_self _ _ _ | exact ax_newA_self _ _ _ | refine (ax_set_ne _ _ (by omega)).trans ?_ | refine (ax_newA_ne _ _ _ (by omega)).trans ?_) rfl rfl rfl rfl rfl ?_
  refine s_X9_needPool hF0 hL0 hn k1 (fun j hj e => ?_)
  show WP Γ _ _ _ _ _ _ _
  subst e
  refine wp_aload_n (n := 6) dX9_reservedFrom_5 rfl rfl ?_
  refine wp_getf (n := 9) dX9_reservedFrom_6 rfl flX9_39 (by repeat first | assumption | exact ax_set_self _ _ _ | exact ax_newA_self _ _ _ | refine (ax_set_ne _ _ (by omega)).trans ?_ | refine (ax_newA_ne _ _ _ (by omega)).trans ?_) (by rfl) ?_
  refine wp_getf (n := 12) dX9_reservedFrom_9 rfl flX9_196 (by repeat first | assumption | exact ax_set_self _ _ _ | exact ax_newA_self _ _ _ | refine (ax_set_ne _ _ (by omega)).trans ?_ | refine (ax_newA_ne _ _ _ (by omega)).trans ?_) (by rfl) ?_
  refine wp_iconst (n := 13) (v := 0) dX9_reservedFrom_12 rfl (by decide) ?_
  refine wp_iload_n (n := 14) dX9_reservedFrom_13 rfl rfl ?_
  refine wp_callV2 (n := 17) (rm' := (0, 0, 0, 0)) rfl dX9_reservedFrom_14 rfl mlX9_214 (by repeat first | assumption | exact ax_set_self _ _ _ | exact ax_newA_self _ _ _ | refine (ax_set_ne _ _ (by omega)).trans ?_ | refine (ax_newA_ne _ _ _ (by omega)).trans ?_) rfl rfl rfl rfl rfl ?_
  refine s_X7_pendingSum (s := 0) hR hh (by omega) ?_
  show WP Γ _ _ _ _ _ _ _
  exact wp_ireturn dX9_reservedFrom_17 rfl rfl (k j hj rfl)
theorem s_X9_rent (hF : FacC h p b D er) (hL : LedP h b np qu ra re le ln nb pl tm ne rw bk nh hw nc cw t y pk) (hn : np ≤ 8) 
    (k1 : inN x np = false → ∀ n', h.1 ≤ n' → Q (.inr IOB) (n', h.2)) (k : ∀ j, j < np → x = nI j → Q (.inl (some (.float (re j)))) h) : WP Γ MX9_rent (7, 116, 1, 6) 0 [some (.ref p), some (.int x)] [] h Q := by
  have hF0 := hF
  unfold FacC at hF
  have hL0 := hL
  obtain ⟨hO, hP, hM, hJ, hR, hC, su, hS⟩ := hL
  have hP1 := hP.1
  have hM1 := hM.1
  have hJ1 := hJ.1
  have hR1 := hR.1
  have hC1 := hC.1
  have hP2 := hP.2.1
  have hP3 := hP.2.2.1
  have hP4 := hP.2.2.2.1
  have hM2 := hM.2.1
  have hM3 := hM.2.2.1
  have hM4 := hM.2.2.2
  refine wp_aload_n (n := 1) dX9_rent_0 rfl rfl ?_
  refine wp_iload_n (n := 2) dX9_rent_1 rfl rfl ?_
  refine wp_callV1 (n := 5) (rm' := (6, 95, 1, 6)) rfl dX9_rent_2 rfl mlX9_125 (by repeat first | assumption | exact ax_set_self _ _ _ | exact ax_newA_self _ _ _ | refine (ax_set_ne _ _ (by omega)).trans ?_ | refine (ax_newA_ne _ _ _ (by omega)).trans ?_) rfl rfl rfl rfl rfl ?_
  refine s_X9_needPool hF0 hL0 hn k1 (fun j hj e => ?_)
  show WP Γ _ _ _ _ _ _ _
  subst e
  refine wp_aload_n (n := 6) dX9_rent_5 rfl rfl ?_
  refine wp_getf (n := 9) dX9_rent_6 rfl flX9_39 (by repeat first | assumption | exact ax_set_self _ _ _ | exact ax_newA_self _ _ _ | refine (ax_set_ne _ _ (by omega)).trans ?_ | refine (ax_newA_ne _ _ _ (by omega)).trans ?_) (by rfl) ?_
  refine wp_getf (n := 12) dX9_rent_9 rfl flX9_76 (by repeat first | assumption | exact ax_set_self _ _ _ | exact ax_newA_self _ _ _ | refine (ax_set_ne _ _ (by omega)).trans ?_ | refine (ax_newA_ne _ _ _ (by omega)).trans ?_) (by rfl) ?_
  refine wp_getf (n := 15) dX9_rent_12 rfl flX9_303 (by repeat first | assumption | exact ax_set_self _ _ _ | exact ax_newA_self _ _ _ | refine (ax_set_ne _ _ (by omega)).trans ?_ | refine (ax_newA_ne _ _ _ (by omega)).trans ?_) (by rfl) ?_
  refine wp_iload_n (n := 16) dX9_rent_15 rfl rfl ?_
  refine wp_fald (n := 17) (j) dX9_rent_16 rfl (by repeat first | assumption | exact ax_set_self _ _ _ | exact ax_newA_self _ _ _ | refine (ax_set_ne _ _ (by omega)).trans ?_ | refine (ax_newA_ne _ _ _ (by omega)).trans ?_) (by simp only [nI_zero, nI_mul, nI_add]) (by omega) (by omega) ?_
  exact wp_freturn dX9_rent_17 rfl (k j hj rfl)
theorem s_X9_blockAt (hF : FacC h p b D er) (hL : LedP h b np qu ra re le ln nb pl tm ne rw bk nh hw nc cw t y pk) (hn : np ≤ 8) (hb : nb ≤ 200)
    (k1 : inN x np = false → ∀ n', h.1 ≤ n' → Q (.inr IOB) (n', h.2)) (k : ∀ j, j < np → x = nI j → Q (.inl (some (.int (nthR (fun d => decide (pl d = nI j)) z nb 0 0)))) h) : WP Γ MX9_blockAt (7, 116, 1, 6) 0 [some (.ref p), some (.int x), some (.int z)] [] h Q := by
  have hF0 := hF
  unfold FacC at hF
  have hL0 := hL
  obtain ⟨hO, hP, hM, hJ, hR, hC, su, hS⟩ := hL
  have hP1 := hP.1
  have hM1 := hM.1
  have hJ1 := hJ.1
  have hR1 := hR.1
  have hC1 := hC.1
  have hP2 := hP.2.1
  have hP3 := hP.2.2.1
  have hP4 := hP.2.2.2.1
  have hM2 := hM.2.1
  have hM3 := hM.2.2.1
  have hM4 := hM.2.2.2
  refine wp_aload_n (n := 1) dX9_blockAt_0 rfl rfl ?_
  refine wp_iload_n (n := 2) dX9_blockAt_1 rfl rfl ?_
  refine wp_callV1 (n := 5) (rm' := (6, 95, 1, 6)) rfl dX9_blockAt_2 rfl mlX9_125 (by repeat first | assumption | exact ax_set_self _ _ _ | exact ax_newA_self _ _ _ | refine (ax_set_ne _ _ (by omega)).trans ?_ | refine (ax_newA_ne _ _ _ (by omega)).trans ?_) rfl rfl rfl rfl rfl ?_
  refine s_X9_needPool hF0 hL0 hn k1 (fun j hj e => ?_)
  show WP Γ _ _ _ _ _ _ _
  subst e
  refine wp_aload_n (n := 6) dX9_blockAt_5 rfl rfl ?_
  refine wp_getf (n := 9) dX9_blockAt_6 rfl flX9_39 (by repeat first | assumption | exact ax_set_self _ _ _ | exact ax_newA_self _ _ _ | refine (ax_set_ne _ _ (by omega)).trans ?_ | refine (ax_newA_ne _ _ _ (by omega)).trans ?_) (by rfl) ?_
  refine wp_getf (n := 12) dX9_blockAt_9 rfl flX9_118 (by repeat first | assumption | exact ax_set_self _ _ _ | exact ax_newA_self _ _ _ | refine (ax_set_ne _ _ (by omega)).trans ?_ | refine (ax_newA_ne _ _ _ (by omega)).trans ?_) (by rfl) ?_
  refine wp_iload_n (n := 13) dX9_blockAt_12 rfl rfl ?_
  refine wp_iload_n (n := 14) dX9_blockAt_13 rfl rfl ?_
  refine wp_callV2 (n := 17) (rm' := (0, 0, 0, 0)) rfl dX9_blockAt_14 rfl mlX9_236 (by repeat first | assumption | exact ax_set_self _ _ _ | exact ax_newA_self _ _ _ | refine (ax_set_ne _ _ (by omega)).trans ?_ | refine (ax_newA_ne _ _ _ (by omega)).trans ?_) rfl rfl rfl rfl rfl ?_
  refine s_X1_memberAt hM hb ?_
  show WP Γ _ _ _ _ _ _ _
  exact wp_ireturn dX9_blockAt_17 rfl rfl (k j hj rfl)
theorem s_X9_nameByte (hF : FacC h p b D er) (hL : LedP h b np qu ra re le ln nb pl tm ne rw bk nh hw nc cw t y pk) (hn : np ≤ 8) (hln : ∀ j, j < np → ∃ m, ln j = nI m ∧ m ≤ 6)
    (k1 : inN x np = false → ∀ n', h.1 ≤ n' → Q (.inr IOB) (n', h.2)) (k : ∀ j m, j < np → x = nI j → ln j = nI m → m ≤ 6 → Q (.inl (some (.int (if 0 ≤ z ∧ z < nI m then le (j * 6 + z.toInt.toNat) else -1)))) h) : WP Γ MX9_nameByte (7, 116, 1, 6) 0 [some (.ref p), some (.int x), some (.int z)] [] h Q := by
  have hF0 := hF
  unfold FacC at hF
  have hL0 := hL
  obtain ⟨hO, hP, hM, hJ, hR, hC, su, hS⟩ := hL
  have hP1 := hP.1
  have hM1 := hM.1
  have hJ1 := hJ.1
  have hR1 := hR.1
  have hC1 := hC.1
  have hP2 := hP.2.1
  have hP3 := hP.2.2.1
  have hP4 := hP.2.2.2.1
  have hM2 := hM.2.1
  have hM3 := hM.2.2.1
  have hM4 := hM.2.2.2
  refine wp_aload_n (n := 1) dX9_nameByte_0 rfl rfl ?_
  refine wp_iload_n (n := 2) dX9_nameByte_1 rfl rfl ?_
  refine wp_callV1 (n := 5) (rm' := (6, 95, 1, 6)) rfl dX9_nameByte_2 rfl mlX9_125 (by repeat first | assumption | exact ax_set_self _ _ _ | exact ax_newA_self _ _ _ | refine (ax_set_ne _ _ (by omega)).trans ?_ | refine (ax_newA_ne _ _ _ (by omega)).trans ?_) rfl rfl rfl rfl rfl ?_
  refine s_X9_needPool hF0 hL0 hn k1 (fun j hj e => ?_)
  show WP Γ _ _ _ _ _ _ _
  subst e
  obtain ⟨m, e1, e2⟩ := hln j hj
  refine wp_aload_n (n := 6) dX9_nameByte_5 rfl rfl ?_
  refine wp_getf (n := 9) dX9_nameByte_6 rfl flX9_39 (by repeat first | assumption | exact ax_set_self _ _ _ | exact ax_newA_self _ _ _ | refine (ax_set_ne _ _ (by omega)).trans ?_ | refine (ax_newA_ne _ _ _ (by omega)).trans ?_) (by rfl) ?_
  refine wp_getf (n := 12) dX9_nameByte_9 rfl flX9_76 (by repeat first | assumption | exact ax_set_self _ _ _ | exact ax_newA_self _ _ _ | refine (ax_set_ne _ _ (by omega)).trans ?_ | refine (ax_newA_ne _ _ _ (by omega)).trans ?_) (by rfl) ?_
  refine wp_iload_n (n := 13) dX9_nameByte_12 rfl rfl ?_
  refine wp_iload_n (n := 14) dX9_nameByte_13 rfl rfl ?_
  refine wp_callV2 (n := 17) (rm' := (0, 0, 0, 0)) rfl dX9_nameByte_14 rfl mlX9_128 (by repeat first | assumption | exact ax_set_self _ _ _ | exact ax_newA_self _ _ _ | refine (ax_set_ne _ _ (by omega)).trans ?_ | refine (ax_newA_ne _ _ _ (by omega)).trans ?_) rfl rfl rfl rfl rfl ?_
  refine s_X6_letter hP (by omega) e1 e2 ?_
  show WP Γ _ _ _ _ _ _ _
  exact wp_ireturn dX9_nameByte_17 rfl rfl (k j m hj rfl e1 e2)
theorem s_X9_fragmentation (hF : FacC h p b D er) (hL : LedP h b np qu ra re le ln nb pl tm ne rw bk nh hw nc cw t y pk) (hn : np ≤ 8) (hb : nb ≤ 200)
    (k1 : inN x np = false → ∀ n', h.1 ≤ n' → Q (.inr IOB) (n', h.2)) (k : ∀ j, j < np → x = nI j → FP.Core.val32 (frgF pl (nI j) nb) ≠ .nan → Q (.inl (some (.float (frgF pl (nI j) nb)))) h) : WP Γ MX9_fragmentation (7, 116, 1, 6) 0 [some (.ref p), some (.int x), none] [] h Q := by
  have hF0 := hF
  unfold FacC at hF
  have hL0 := hL
  obtain ⟨hO, hP, hM, hJ, hR, hC, su, hS⟩ := hL
  have hP1 := hP.1
  have hM1 := hM.1
  have hJ1 := hJ.1
  have hR1 := hR.1
  have hC1 := hC.1
  have hP2 := hP.2.1
  have hP3 := hP.2.2.1
  have hP4 := hP.2.2.2.1
  have hM2 := hM.2.1
  have hM3 := hM.2.2.1
  have hM4 := hM.2.2.2
  refine wp_aload_n (n := 1) dX9_fragmentation_0 rfl rfl ?_
  refine wp_iload_n (n := 2) dX9_fragmentation_1 rfl rfl ?_
  refine wp_callV1 (n := 5) (rm' := (6, 95, 1, 6)) rfl dX9_fragmentation_2 rfl mlX9_125 (by repeat first | assumption | exact ax_set_self _ _ _ | exact ax_newA_self _ _ _ | refine (ax_set_ne _ _ (by omega)).trans ?_ | refine (ax_newA_ne _ _ _ (by omega)).trans ?_) rfl rfl rfl rfl rfl ?_
  refine s_X9_needPool hF0 hL0 hn k1 (fun j hj e => ?_)
  show WP Γ _ _ _ _ _ _ _
  subst e
  have k := k j hj rfl
  unfold frgF at k
  have c1 := cnt_le pl (nI j) nb
  have c2 := longR_le pl (nI j) nb
  refine wp_aload_n (n := 6) dX9_fragmentation_5 rfl rfl ?_
  refine wp_getf (n := 9) dX9_fragmentation_6 rfl flX9_39 (by repeat first | assumption | exact ax_set_self _ _ _ | exact ax_newA_self _ _ _ | refine (ax_set_ne _ _ (by omega)).trans ?_ | refine (ax_newA_ne _ _ _ (by omega)).trans ?_) (by rfl) ?_
  refine wp_getf (n := 12) dX9_fragmentation_9 rfl flX9_118 (by repeat first | assumption | exact ax_set_self _ _ _ | exact ax_newA_self _ _ _ | refine (ax_set_ne _ _ (by omega)).trans ?_ | refine (ax_newA_ne _ _ _ (by omega)).trans ?_) (by rfl) ?_
  refine wp_iload_n (n := 13) dX9_fragmentation_12 rfl rfl ?_
  refine wp_callV1 (n := 16) (rm' := (0, 0, 0, 0)) rfl dX9_fragmentation_13 rfl mlX9_225 (by repeat first | assumption | exact ax_set_self _ _ _ | exact ax_newA_self _ _ _ | refine (ax_set_ne _ _ (by omega)).trans ?_ | refine (ax_newA_ne _ _ _ (by omega)).trans ?_) rfl rfl rfl rfl rfl ?_
  refine s_X1_countIn hM hb ?_
  show WP Γ _ _ _ _ _ _ _
  refine wp_istore_n (n := 17) dX9_fragmentation_16 rfl rfl rfl rfl ?_
  refine wp_iload_n (n := 18) dX9_fragmentation_17 rfl rfl ?_
  refine wp_if_ne (t := 23) (n := 21) dX9_fragmentation_18 (by decide) rfl (fun hc => ?_) (fun hc => ?_)
  · have hc0 : ¬ cnt pl (nI j) nb = 0 := fun q => hc (by rw [q]; rfl)
    rw [if_neg hc0] at k
    have f1 := nn_div (a := nI (longR pl (nI j) nb)) (b := nI (cnt pl (nI j) nb)) (by rw [nI_toInt (by omega)]; omega) (by rw [nI_toInt (by omega)]; omega)
    have f2 := nn_sub f1
    refine wp_fconst1 (n := 24) dX9_fragmentation_23 rfl ?_
    refine wp_aload_n (n := 25) dX9_fragmentation_24 rfl rfl ?_
    refine wp_getf (n := 28) dX9_fragmentation_25 rfl flX9_39 (by repeat first | assumption | exact ax_set_self _ _ _ | exact ax_newA_self _ _ _ | refine (ax_set_ne _ _ (by omega)).trans ?_ | refine (ax_newA_ne _ _ _ (by omega)).trans ?_) (by rfl) ?_
    refine wp_getf (n := 31) dX9_fragmentation_28 rfl flX9_118 (by repeat first | assumption | exact ax_set_self _ _ _ | exact ax_newA_self _ _ _ | refine (ax_set_ne _ _ (by omega)).trans ?_ | refine (ax_newA_ne _ _ _ (by omega)).trans ?_) (by rfl) ?_
    refine wp_iload_n (n := 32) dX9_fragmentation_31 rfl rfl ?_
    refine wp_callV1 (n := 35) (rm' := (1, 60, 0, 0)) rfl dX9_fragmentation_32 rfl mlX9_249 (by repeat first | assumption | exact ax_set_self _ _ _ | exact ax_newA_self _ _ _ | refine (ax_set_ne _ _ (by omega)).trans ?_ | refine (ax_newA_ne _ _ _ (by omega)).trans ?_) rfl rfl rfl rfl rfl ?_
    refine s_X1_longestOf hM hb ?_
    show WP Γ _ _ _ _ _ _ _
    refine wp_i2f (n := 36) dX9_fragmentation_35 rfl ?_
    refine wp_iload_n (n := 37) dX9_fragmentation_36 rfl rfl ?_
    refine wp_i2f (n := 38) dX9_fragmentation_37 rfl ?_
    refine wp_fdiv (n := 39) dX9_fragmentation_38 rfl (n32_of f1) ?_
    refine wp_fsub (n := 40) dX9_fragmentation_39 rfl (n32_of f2) ?_
    exact wp_freturn dX9_fragmentation_40 rfl (k f2)
  · have hc0 : cnt pl (nI j) nb = 0 := (nI_eq9 (b := 0) (by omega) (by omega)).mp hc
    rw [if_pos hc0] at k
    refine wp_fconst0 (n := 22) dX9_fragmentation_21 rfl ?_
    exact wp_freturn dX9_fragmentation_22 rfl (k ff_zero.pf.nn)
theorem s_X9_whenAvailable (hF : FacC h p b D er) (hL : LedP h b np qu ra re le ln nb pl tm ne rw bk nh hw nc cw t y pk) (hn : np ≤ 8) (hb : nb ≤ 200) (hh : nh ≤ 60)
    (k1 : inN x np = false → ∀ n', h.1 ≤ n' → Q (.inr IOB) (n', h.2)) (k2 : inN x np = true → inI z 0 200 = false → ∀ n', h.1 ≤ n' → Q (.inr IAE) (n', h.2)) (k : ∀ j, j < np → x = nI j → inI z 0 200 = true → Q (.inl (some (.int (if avl pl nb hw nh (nI j) < z then tos hw (nI j) (nI (cnt pl (nI j) nb) - z) nh nh else t)))) h) : WP Γ MX9_whenAvailable (7, 116, 2, 12) 0 [some (.ref p), some (.int x), some (.int z)] [] h Q := by
  have hF0 := hF
  unfold FacC at hF
  have hL0 := hL
  obtain ⟨hO, hP, hM, hJ, hR, hC, su, hS⟩ := hL
  have hP1 := hP.1
  have hM1 := hM.1
  have hJ1 := hJ.1
  have hR1 := hR.1
  have hC1 := hC.1
  have hP2 := hP.2.1
  have hP3 := hP.2.2.1
  have hP4 := hP.2.2.2.1
  have hM2 := hM.2.1
  have hM3 := hM.2.2.1
  have hM4 := hM.2.2.2
  refine wp_aload_n (n := 1) dX9_whenAvailable_0 rfl rfl ?_
  refine wp_iload_n (n := 2) dX9_whenAvailable_1 rfl rfl ?_
  refine wp_callV1 (n := 5) (rm' := (6, 95, 1, 6)) rfl dX9_whenAvailable_2 rfl mlX9_125 (by repeat first | assumption | exact ax_set_self _ _ _ | exact ax_newA_self _ _ _ | refine (ax_set_ne _ _ (by omega)).trans ?_ | refine (ax_newA_ne _ _ _ (by omega)).trans ?_) rfl rfl rfl rfl rfl ?_
  refine s_X9_needPool hF0 hL0 hn k1 (fun j hj e => ?_)
  show WP Γ _ _ _ _ _ _ _
  subst e
  have k2 := k2 (inN_of hj (by omega))
  refine wp_iload_n (n := 6) dX9_whenAvailable_5 rfl rfl ?_
  refine wp_if_lt (t := 16) (n := 9) dX9_whenAvailable_6 (by decide) rfl (fun hc => ?_) (fun hc => ?_)
  · exact wp_throwS 18 rfl dX9_whenAvailable_16 dX9_whenAvailable_19 dX9_whenAvailable_20 dX9_whenAvailable_22 dX9_whenAvailable_25 rfl (by decide) (by decide) clX9_54 ax_iaei atX9_58 agX9_58 ax_nw rfl rfl (by decide) (by decide) (k2 (decide_eq_false (fun q => absurd hc (Int32.not_lt.mpr q.1))))
  · refine wp_iload_n (n := 10) dX9_whenAvailable_9 rfl rfl ?_
    refine wp_sipush (n := 13) (v := nI 200) dX9_whenAvailable_10 rfl (by decide) ?_
    refine wp_icmp_le (t := 26) (n := 16) dX9_whenAvailable_13 (by decide) rfl (fun hq => ?_) (fun hq => ?_)
    · refine wp_aload_n (n := 27) dX9_whenAvailable_26 rfl rfl ?_
      refine wp_getf (n := 30) dX9_whenAvailable_27 rfl flX9_39 (by repeat first | assumption | exact ax_set_self _ _ _ | exact ax_newA_self _ _ _ | refine (ax_set_ne _ _ (by omega)).trans ?_ | refine (ax_newA_ne _ _ _ (by omega)).trans ?_) (by rfl) ?_
      refine wp_iload_n (n := 31) dX9_whenAvailable_30 rfl rfl ?_
      refine wp_iload_n (n := 32) dX9_whenAvailable_31 rfl rfl ?_
      refine wp_callV2 (n := 35) (rm' := (4, 94, 0, 0)) rfl dX9_whenAvailable_32 rfl mlX9_222 (by repeat first | assumption | exact ax_set_self _ _ _ | exact ax_newA_self _ _ _ | refine (ax_set_ne _ _ (by omega)).trans ?_ | refine (ax_newA_ne _ _ _ (by omega)).trans ?_) rfl rfl rfl rfl rfl ?_
      refine s_X5_timeOfAvailable hL0 hb hh ?_
      show WP Γ _ _ _ _ _ _ _
      exact wp_ireturn dX9_whenAvailable_35 rfl rfl (k j hj rfl (decide_eq_true ⟨i32_not_lt hc, hq⟩))
    · exact wp_throwS 18 rfl dX9_whenAvailable_16 dX9_whenAvailable_19 dX9_whenAvailable_20 dX9_whenAvailable_22 dX9_whenAvailable_25 rfl (by decide) (by decide) clX9_54 ax_iaei atX9_58 agX9_58 ax_nw rfl rfl (by decide) (by decide) (k2 (decide_eq_false (fun q => hq q.2)))
theorem s_X9_rentAhead (hF : FacC h p b D er) (hL : LedP h b np qu ra re le ln nb pl tm ne rw bk nh hw nc cw t y pk) (hn : np ≤ 8) (hb : nb ≤ 200) (hre : ∀ j, j < np → PF (re j)) (hra : ∀ j, j < np → ∃ r, ra j = nI r ∧ r ≤ 9999)
    (k1 : inN x np = false → ∀ n', h.1 ≤ n' → Q (.inr IOB) (n', h.2)) (k2 : inN x np = true → inI z 1 1000 = false → ∀ n', h.1 ≤ n' → Q (.inr IAE) (n', h.2)) (k : ∀ j m, j < np → x = nI j → z = nI m → 1 ≤ m → m ≤ 1000 → PF (rntA ra re pl nb (nI m) j) → Q (.inl (some (.float (rntA ra re pl nb (nI m) j)))) h) : WP Γ MX9_rentAhead (7, 116, 2, 12) 0 [some (.ref p), some (.int x), some (.int z)] [] h Q := by
  have hF0 := hF
  unfold FacC at hF
  have hL0 := hL
  obtain ⟨hO, hP, hM, hJ, hR, hC, su, hS⟩ := hL
  have hP1 := hP.1
  have hM1 := hM.1
  have hJ1 := hJ.1
  have hR1 := hR.1
  have hC1 := hC.1
  have hP2 := hP.2.1
  have hP3 := hP.2.2.1
  have hP4 := hP.2.2.2.1
  have hM2 := hM.2.1
  have hM3 := hM.2.2.1
  have hM4 := hM.2.2.2
  refine wp_aload_n (n := 1) dX9_rentAhead_0 rfl rfl ?_
  refine wp_iload_n (n := 2) dX9_rentAhead_1 rfl rfl ?_
  refine wp_callV1 (n := 5) (rm' := (6, 95, 1, 6)) rfl dX9_rentAhead_2 rfl mlX9_125 (by repeat first | assumption | exact ax_set_self _ _ _ | exact ax_newA_self _ _ _ | refine (ax_set_ne _ _ (by omega)).trans ?_ | refine (ax_newA_ne _ _ _ (by omega)).trans ?_) rfl rfl rfl rfl rfl ?_
  refine s_X9_needPool hF0 hL0 hn k1 (fun j hj e => ?_)
  show WP Γ _ _ _ _ _ _ _
  subst e
  refine wp_iload_n (n := 6) dX9_rentAhead_5 rfl rfl ?_
  refine wp_callS1 (n := 9) (rm' := (6, 95, 1, 6)) rfl dX9_rentAhead_6 rfl mlX9_140 rfl rfl rfl rfl ?_
  refine s_X9_needTicks (k2 (inN_of hj (by omega))) (fun m h1 h2 e2 => ?_)
  show WP Γ _ _ _ _ _ _ _
  subst e2
  obtain ⟨r, hr1, hr2⟩ := hra j hj
  refine wp_aload_n (n := 10) dX9_rentAhead_9 rfl rfl ?_
  refine wp_getf (n := 13) dX9_rentAhead_10 rfl flX9_39 (by repeat first | assumption | exact ax_set_self _ _ _ | exact ax_newA_self _ _ _ | refine (ax_set_ne _ _ (by omega)).trans ?_ | refine (ax_newA_ne _ _ _ (by omega)).trans ?_) (by rfl) ?_
  refine wp_iload_n (n := 14) dX9_rentAhead_13 rfl rfl ?_
  refine wp_iload_n (n := 15) dX9_rentAhead_14 rfl rfl ?_
  refine wp_callV2 (n := 18) (rm' := (1, 23, 0, 0)) rfl dX9_rentAhead_15 rfl mlX9_311 (by repeat first | assumption | exact ax_set_self _ _ _ | exact ax_newA_self _ _ _ | refine (ax_set_ne _ _ (by omega)).trans ?_ | refine (ax_newA_ne _ _ _ (by omega)).trans ?_) rfl rfl rfl rfl rfl ?_
  refine s_X5_rentAfter hL0 hb (by omega) h2 (hre j hj) hr1 hr2 (fun hp9 => ?_)
  show WP Γ _ _ _ _ _ _ _
  exact wp_freturn dX9_rentAhead_18 rfl (k j m hj rfl rfl h1 h2 hp9)
theorem s_X9_bookedAt (hF : FacC h p b D er) (hL : LedP h b np qu ra re le ln nb pl tm ne rw bk nh hw nc cw t y pk) (hn : np ≤ 8) (he : ne ≤ 300)
    (k1 : inN x np = false → ∀ n', h.1 ≤ n' → Q (.inr IOB) (n', h.2)) (k2 : inN x np = true → z < 0 → ∀ n', h.1 ≤ n' → Q (.inr IAE) (n', h.2)) (k : ∀ j, j < np → x = nI j → 0 ≤ z → Q (.inl (some (.int (opn nb (nI j) + netU rw (nI j) z ne)))) h) : WP Γ MX9_bookedAt (7, 116, 2, 12) 0 [some (.ref p), some (.int x), some (.int z)] [] h Q := by
  have hF0 := hF
  unfold FacC at hF
  have hL0 := hL
  obtain ⟨hO, hP, hM, hJ, hR, hC, su, hS⟩ := hL
  have hP1 := hP.1
  have hM1 := hM.1
  have hJ1 := hJ.1
  have hR1 := hR.1
  have hC1 := hC.1
  have hP2 := hP.2.1
  have hP3 := hP.2.2.1
  have hP4 := hP.2.2.2.1
  have hM2 := hM.2.1
  have hM3 := hM.2.2.1
  have hM4 := hM.2.2.2
  refine wp_aload_n (n := 1) dX9_bookedAt_0 rfl rfl ?_
  refine wp_iload_n (n := 2) dX9_bookedAt_1 rfl rfl ?_
  refine wp_callV1 (n := 5) (rm' := (6, 95, 1, 6)) rfl dX9_bookedAt_2 rfl mlX9_125 (by repeat first | assumption | exact ax_set_self _ _ _ | exact ax_newA_self _ _ _ | refine (ax_set_ne _ _ (by omega)).trans ?_ | refine (ax_newA_ne _ _ _ (by omega)).trans ?_) rfl rfl rfl rfl rfl ?_
  refine s_X9_needPool hF0 hL0 hn k1 (fun j hj e => ?_)
  show WP Γ _ _ _ _ _ _ _
  subst e
  have k2 := k2 (inN_of hj (by omega))
  refine wp_iload_n (n := 6) dX9_bookedAt_5 rfl rfl ?_
  refine wp_if_ge (t := 20) (n := 9) dX9_bookedAt_6 (by decide) rfl (fun hc => ?_) (fun hc => ?_)
  · refine wp_aload_n (n := 21) dX9_bookedAt_20 rfl rfl ?_
    refine wp_getf (n := 24) dX9_bookedAt_21 rfl flX9_39 (by repeat first | assumption | exact ax_set_self _ _ _ | exact ax_newA_self _ _ _ | refine (ax_set_ne _ _ (by omega)).trans ?_ | refine (ax_newA_ne _ _ _ (by omega)).trans ?_) (by rfl) ?_
    refine wp_iload_n (n := 25) dX9_bookedAt_24 rfl rfl ?_
    refine wp_callV1 (n := 28) (rm' := (0, 0, 0, 0)) rfl dX9_bookedAt_25 rfl mlX9_282 (by repeat first | assumption | exact ax_set_self _ _ _ | exact ax_newA_self _ _ _ | refine (ax_set_ne _ _ (by omega)).trans ?_ | refine (ax_newA_ne _ _ _ (by omega)).trans ?_) rfl rfl rfl rfl rfl ?_
    refine s_X5_opening hL0 ?_
    show WP Γ _ _ _ _ _ _ _
    refine wp_aload_n (n := 29) dX9_bookedAt_28 rfl rfl ?_
    refine wp_getf (n := 32) dX9_bookedAt_29 rfl flX9_39 (by repeat first | assumption | exact ax_set_self _ _ _ | exact ax_newA_self _ _ _ | refine (ax_set_ne _ _ (by omega)).trans ?_ | refine (ax_newA_ne _ _ _ (by omega)).trans ?_) (by rfl) ?_
    refine wp_getf (n := 35) dX9_bookedAt_32 rfl flX9_264 (by repeat first | assumption | exact ax_set_self _ _ _ | exact ax_newA_self _ _ _ | refine (ax_set_ne _ _ (by omega)).trans ?_ | refine (ax_newA_ne _ _ _ (by omega)).trans ?_) (by rfl) ?_
    refine wp_iload_n (n := 36) dX9_bookedAt_35 rfl rfl ?_
    refine wp_iload_n (n := 37) dX9_bookedAt_36 rfl rfl ?_
    refine wp_callV2 (n := 40) (rm' := (2, 45, 0, 0)) rfl dX9_bookedAt_37 rfl mlX9_285 (by repeat first | assumption | exact ax_set_self _ _ _ | exact ax_newA_self _ _ _ | refine (ax_set_ne _ _ (by omega)).trans ?_ | refine (ax_newA_ne _ _ _ (by omega)).trans ?_) rfl rfl rfl rfl rfl ?_
    refine s_X4_netUntil hJ he ?_
    show WP Γ _ _ _ _ _ _ _
    refine wp_iadd (n := 41) dX9_bookedAt_40 rfl ?_
    exact wp_ireturn dX9_bookedAt_41 rfl rfl (k j hj rfl hc)
  · exact wp_throwSW 25 rfl dX9_bookedAt_9 dX9_bookedAt_12 dX9_bookedAt_13 dX9_bookedAt_16 dX9_bookedAt_19 rfl (by decide) (by decide) clX9_54 ax_iaei atX9_58 agX9_58 ax_nw rfl rfl (by decide) (by decide) (k2 (i32_not_le hc))
theorem s_X9_peak (hF : FacC h p b D er) (hL : LedP h b np qu ra re le ln nb pl tm ne rw bk nh hw nc cw t y pk) (hn : np ≤ 8) (he : ne ≤ 300)
    (k1 : inN x np = false → ∀ n', h.1 ≤ n' → Q (.inr IOB) (n', h.2)) (k2 : inN x np = true → ¬ (0 ≤ z ∧ z ≤ w) → ∀ n', h.1 ≤ n' → Q (.inr IAE) (n', h.2)) (k : ∀ j, j < np → x = nI j → 0 ≤ z → z ≤ w → Q (.inl (some (.int (grtJ rw (nI j) z w ne 0 (opn nb (nI j)) (opn nb (nI j)))))) h) : WP Γ MX9_peak (7, 116, 2, 12) 0 [some (.ref p), some (.int x), some (.int z), some (.int w)] [] h Q := by
  have hF0 := hF
  unfold FacC at hF
  have hL0 := hL
  obtain ⟨hO, hP, hM, hJ, hR, hC, su, hS⟩ := hL
  have hP1 := hP.1
  have hM1 := hM.1
  have hJ1 := hJ.1
  have hR1 := hR.1
  have hC1 := hC.1
  have hP2 := hP.2.1
  have hP3 := hP.2.2.1
  have hP4 := hP.2.2.2.1
  have hM2 := hM.2.1
  have hM3 := hM.2.2.1
  have hM4 := hM.2.2.2
  refine wp_aload_n (n := 1) dX9_peak_0 rfl rfl ?_
  refine wp_iload_n (n := 2) dX9_peak_1 rfl rfl ?_
  refine wp_callV1 (n := 5) (rm' := (6, 95, 1, 6)) rfl dX9_peak_2 rfl mlX9_125 (by repeat first | assumption | exact ax_set_self _ _ _ | exact ax_newA_self _ _ _ | refine (ax_set_ne _ _ (by omega)).trans ?_ | refine (ax_newA_ne _ _ _ (by omega)).trans ?_) rfl rfl rfl rfl rfl ?_
  refine s_X9_needPool hF0 hL0 hn k1 (fun j hj e => ?_)
  show WP Γ _ _ _ _ _ _ _
  subst e
  have k2 := k2 (inN_of hj (by omega))
  refine wp_iload_n (n := 6) dX9_peak_5 rfl rfl ?_
  refine wp_iload_n (n := 7) dX9_peak_6 rfl rfl ?_
  refine wp_callS2 (n := 10) (rm' := (6, 95, 1, 6)) rfl dX9_peak_7 rfl mlX9_288 rfl rfl rfl rfl ?_
  refine s_X9_needInterval k2 (fun i1 i2 => ?_)
  show WP Γ _ _ _ _ _ _ _
  refine wp_aload_n (n := 11) dX9_peak_10 rfl rfl ?_
  refine wp_getf (n := 14) dX9_peak_11 rfl flX9_39 (by repeat first | assumption | exact ax_set_self _ _ _ | exact ax_newA_self _ _ _ | refine (ax_set_ne _ _ (by omega)).trans ?_ | refine (ax_newA_ne _ _ _ (by omega)).trans ?_) (by rfl) ?_
  refine wp_getf (n := 17) dX9_peak_14 rfl flX9_264 (by repeat first | assumption | exact ax_set_self _ _ _ | exact ax_newA_self _ _ _ | refine (ax_set_ne _ _ (by omega)).trans ?_ | refine (ax_newA_ne _ _ _ (by omega)).trans ?_) (by rfl) ?_
  refine wp_iload_n (n := 18) dX9_peak_17 rfl rfl ?_
  refine wp_aload_n (n := 19) dX9_peak_18 rfl rfl ?_
  refine wp_getf (n := 22) dX9_peak_19 rfl flX9_39 (by repeat first | assumption | exact ax_set_self _ _ _ | exact ax_newA_self _ _ _ | refine (ax_set_ne _ _ (by omega)).trans ?_ | refine (ax_newA_ne _ _ _ (by omega)).trans ?_) (by rfl) ?_
  refine wp_iload_n (n := 23) dX9_peak_22 rfl rfl ?_
  refine wp_callV1 (n := 26) (rm' := (0, 0, 0, 0)) rfl dX9_peak_23 rfl mlX9_282 (by repeat first | assumption | exact ax_set_self _ _ _ | exact ax_newA_self _ _ _ | refine (ax_set_ne _ _ (by omega)).trans ?_ | refine (ax_newA_ne _ _ _ (by omega)).trans ?_) rfl rfl rfl rfl rfl ?_
  refine s_X5_opening hL0 ?_
  show WP Γ _ _ _ _ _ _ _
  refine wp_iload_n (n := 27) dX9_peak_26 rfl rfl ?_
  refine wp_iload_n (n := 28) dX9_peak_27 rfl rfl ?_
  refine wp_callV4 (n := 31) (rm' := (2, 60, 0, 0)) rfl dX9_peak_28 rfl mlX9_291 (by repeat first | assumption | exact ax_set_self _ _ _ | exact ax_newA_self _ _ _ | refine (ax_set_ne _ _ (by omega)).trans ?_ | refine (ax_newA_ne _ _ _ (by omega)).trans ?_) rfl rfl rfl rfl rfl ?_
  refine s_X4_greatest hJ he ?_
  show WP Γ _ _ _ _ _ _ _
  exact wp_ireturn dX9_peak_31 rfl rfl (k j hj rfl i1 i2)
theorem s_X9_flow (hF : FacC h p b D er) (hL : LedP h b np qu ra re le ln nb pl tm ne rw bk nh hw nc cw t y pk) (hn : np ≤ 8) (he : ne ≤ 300)
    (k1 : (inN x np && inN z np) = false → ∀ n', h.1 ≤ n' → Q (.inr IOB) (n', h.2)) (k2 : (inN x np && inN z np) = true → ¬ (0 ≤ w ∧ w ≤ v) → ∀ n', h.1 ≤ n' → Q (.inr IAE) (n', h.2)) (k : ∀ i j, i < np → j < np → x = nI i → z = nI j → 0 ≤ w → w ≤ v → Q (.inl (some (.int (btwS rw (nI i) (nI j) w v ne)))) h) : WP Γ MX9_flow (7, 116, 3, 18) 0 [some (.ref p), some (.int x), some (.int z), some (.int w), some (.int v)] [] h Q := by
  have hF0 := hF
  unfold FacC at hF
  have hL0 := hL
  obtain ⟨hO, hP, hM, hJ, hR, hC, su, hS⟩ := hL
  have hP1 := hP.1
  have hM1 := hM.1
  have hJ1 := hJ.1
  have hR1 := hR.1
  have hC1 := hC.1
  have hP2 := hP.2.1
  have hP3 := hP.2.2.1
  have hP4 := hP.2.2.2.1
  have hM2 := hM.2.1
  have hM3 := hM.2.2.1
  have hM4 := hM.2.2.2
  refine wp_aload_n (n := 1) dX9_flow_0 rfl rfl ?_
  refine wp_iload_n (n := 2) dX9_flow_1 rfl rfl ?_
  refine wp_callV1 (n := 5) (rm' := (6, 95, 1, 6)) rfl dX9_flow_2 rfl mlX9_125 (by repeat first | assumption | exact ax_set_self _ _ _ | exact ax_newA_self _ _ _ | refine (ax_set_ne _ _ (by omega)).trans ?_ | refine (ax_newA_ne _ _ _ (by omega)).trans ?_) rfl rfl rfl rfl rfl ?_
  refine s_X9_needPool hF0 hL0 hn (fun q => k1 (by rw [q, Bool.false_and])) (fun i hi e => ?_)
  show WP Γ _ _ _ _ _ _ _
  refine wp_aload_n (n := 6) dX9_flow_5 rfl rfl ?_
  refine wp_iload_n (n := 7) dX9_flow_6 rfl rfl ?_
  refine wp_callV1 (n := 10) (rm' := (6, 95, 1, 6)) rfl dX9_flow_7 rfl mlX9_125 (by repeat first | assumption | exact ax_set_self _ _ _ | exact ax_newA_self _ _ _ | refine (ax_set_ne _ _ (by omega)).trans ?_ | refine (ax_newA_ne _ _ _ (by omega)).trans ?_) rfl rfl rfl rfl rfl ?_
  refine s_X9_needPool hF0 hL0 hn (fun q => k1 (by rw [q, Bool.and_false])) (fun j hj e2 => ?_)
  show WP Γ _ _ _ _ _ _ _
  subst e
  subst e2
  have k2 := k2 (by rw [inN_of hi (by omega), inN_of hj (by omega)]; rfl)
  refine wp_iload_n (n := 11) dX9_flow_10 rfl rfl ?_
  refine wp_iload (n := 13) dX9_flow_11 rfl rfl ?_
  refine wp_callS2 (n := 16) (rm' := (6, 95, 1, 6)) rfl dX9_flow_13 rfl mlX9_288 rfl rfl rfl rfl ?_
  refine s_X9_needInterval k2 (fun i1 i2 => ?_)
  show WP Γ _ _ _ _ _ _ _
  refine wp_aload_n (n := 17) dX9_flow_16 rfl rfl ?_
  refine wp_getf (n := 20) dX9_flow_17 rfl flX9_39 (by repeat first | assumption | exact ax_set_self _ _ _ | exact ax_newA_self _ _ _ | refine (ax_set_ne _ _ (by omega)).trans ?_ | refine (ax_newA_ne _ _ _ (by omega)).trans ?_) (by rfl) ?_
  refine wp_getf (n := 23) dX9_flow_20 rfl flX9_264 (by repeat first | assumption | exact ax_set_self _ _ _ | exact ax_newA_self _ _ _ | refine (ax_set_ne _ _ (by omega)).trans ?_ | refine (ax_newA_ne _ _ _ (by omega)).trans ?_) (by rfl) ?_
  refine wp_iload_n (n := 24) dX9_flow_23 rfl rfl ?_
  refine wp_iload_n (n := 25) dX9_flow_24 rfl rfl ?_
  refine wp_iload_n (n := 26) dX9_flow_25 rfl rfl ?_
  refine wp_iload (n := 28) dX9_flow_26 rfl rfl ?_
  refine wp_callV4 (n := 31) (rm' := (2, 46, 0, 0)) rfl dX9_flow_28 rfl mlX9_294 (by repeat first | assumption | exact ax_set_self _ _ _ | exact ax_newA_self _ _ _ | refine (ax_set_ne _ _ (by omega)).trans ?_ | refine (ax_newA_ne _ _ _ (by omega)).trans ?_) rfl rfl rfl rfl rfl ?_
  refine s_X4_sumBetween hJ he ?_
  show WP Γ _ _ _ _ _ _ _
  exact wp_ireturn dX9_flow_31 rfl rfl (k i j hi hj rfl rfl i1 i2)
theorem s_X9_reasonTotal (hF : FacC h p b D er) (hL : LedP h b np qu ra re le ln nb pl tm ne rw bk nh hw nc cw t y pk) (he : ne ≤ 300)
    (k1 : (inI x 0 9 && decide (0 ≤ z ∧ z ≤ w)) = false → ∀ n', h.1 ≤ n' → Q (.inr IAE) (n', h.2)) (k : (inI x 0 9 && decide (0 ≤ z ∧ z ≤ w)) = true → Q (.inl (some (.int (rsnS rw x z w ne)))) h) : WP Γ MX9_reasonTotal (7, 116, 2, 12) 0 [some (.ref p), some (.int x), some (.int z), some (.int w)] [] h Q := by
  have hF0 := hF
  unfold FacC at hF
  have hL0 := hL
  obtain ⟨hO, hP, hM, hJ, hR, hC, su, hS⟩ := hL
  have hP1 := hP.1
  have hM1 := hM.1
  have hJ1 := hJ.1
  have hR1 := hR.1
  have hC1 := hC.1
  have hP2 := hP.2.1
  have hP3 := hP.2.2.1
  have hP4 := hP.2.2.2.1
  have hM2 := hM.2.1
  have hM3 := hM.2.2.1
  have hM4 := hM.2.2.2
  refine wp_iload_n (n := 1) dX9_reasonTotal_0 rfl rfl ?_
  refine wp_callS1 (n := 4) (rm' := (6, 95, 1, 6)) rfl dX9_reasonTotal_1 rfl mlX9_153 rfl rfl rfl rfl ?_
  refine s_X9_needReason (fun q => k1 (by rw [q, Bool.false_and])) (fun q1 => ?_)
  show WP Γ _ _ _ _ _ _ _
  refine wp_iload_n (n := 5) dX9_reasonTotal_4 rfl rfl ?_
  refine wp_iload_n (n := 6) dX9_reasonTotal_5 rfl rfl ?_
  refine wp_callS2 (n := 9) (rm' := (6, 95, 1, 6)) rfl dX9_reasonTotal_6 rfl mlX9_288 rfl rfl rfl rfl ?_
  refine s_X9_needInterval (fun q => k1 (by rw [decide_eq_false q, Bool.and_false])) (fun i1 i2 => ?_)
  show WP Γ _ _ _ _ _ _ _
  refine wp_aload_n (n := 10) dX9_reasonTotal_9 rfl rfl ?_
  refine wp_getf (n := 13) dX9_reasonTotal_10 rfl flX9_39 (by repeat first | assumption | exact ax_set_self _ _ _ | exact ax_newA_self _ _ _ | refine (ax_set_ne _ _ (by omega)).trans ?_ | refine (ax_newA_ne _ _ _ (by omega)).trans ?_) (by rfl) ?_
  refine wp_getf (n := 16) dX9_reasonTotal_13 rfl flX9_264 (by repeat first | assumption | exact ax_set_self _ _ _ | exact ax_newA_self _ _ _ | refine (ax_set_ne _ _ (by omega)).trans ?_ | refine (ax_newA_ne _ _ _ (by omega)).trans ?_) (by rfl) ?_
  refine wp_iload_n (n := 17) dX9_reasonTotal_16 rfl rfl ?_
  refine wp_iload_n (n := 18) dX9_reasonTotal_17 rfl rfl ?_
  refine wp_iload_n (n := 19) dX9_reasonTotal_18 rfl rfl ?_
  refine wp_callV3 (n := 22) (rm' := (2, 46, 0, 0)) rfl dX9_reasonTotal_19 rfl mlX9_297 (by repeat first | assumption | exact ax_set_self _ _ _ | exact ax_newA_self _ _ _ | refine (ax_set_ne _ _ (by omega)).trans ?_ | refine (ax_newA_ne _ _ _ (by omega)).trans ?_) rfl rfl rfl rfl rfl ?_
  refine s_X4_sumOfReason hJ he ?_
  show WP Γ _ _ _ _ _ _ _
  exact wp_ireturn dX9_reasonTotal_22 rfl rfl (k (by rw [q1, decide_eq_true (And.intro i1 i2)]; rfl))
theorem s_X9_busiest (hF : FacC h p b D er) (hL : LedP h b np qu ra re le ln nb pl tm ne rw bk nh hw nc cw t y pk) (hn : np ≤ 8) (he : ne ≤ 300)
    (k1 : ¬ (0 ≤ x ∧ x ≤ z) → ∀ n', h.1 ≤ n' → Q (.inr IAE) (n', h.2)) (k : 0 ≤ x → x ≤ z → Q (.inl (some (.int (mstB rw x z ne np).2))) h) : WP Γ MX9_busiest (7, 116, 1, 6) 0 [some (.ref p), some (.int x), some (.int z)] [] h Q := by
  have hF0 := hF
  unfold FacC at hF
  have hL0 := hL
  obtain ⟨hO, hP, hM, hJ, hR, hC, su, hS⟩ := hL
  have hP1 := hP.1
  have hM1 := hM.1
  have hJ1 := hJ.1
  have hR1 := hR.1
  have hC1 := hC.1
  have hP2 := hP.2.1
  have hP3 := hP.2.2.1
  have hP4 := hP.2.2.2.1
  have hM2 := hM.2.1
  have hM3 := hM.2.2.1
  have hM4 := hM.2.2.2
  refine wp_iload_n (n := 1) dX9_busiest_0 rfl rfl ?_
  refine wp_iload_n (n := 2) dX9_busiest_1 rfl rfl ?_
  refine wp_callS2 (n := 5) (rm' := (6, 95, 1, 6)) rfl dX9_busiest_2 rfl mlX9_288 rfl rfl rfl rfl ?_
  refine s_X9_needInterval k1 (fun i1 i2 => ?_)
  show WP Γ _ _ _ _ _ _ _
  refine wp_aload_n (n := 6) dX9_busiest_5 rfl rfl ?_
  refine wp_getf (n := 9) dX9_busiest_6 rfl flX9_39 (by repeat first | assumption | exact ax_set_self _ _ _ | exact ax_newA_self _ _ _ | refine (ax_set_ne _ _ (by omega)).trans ?_ | refine (ax_newA_ne _ _ _ (by omega)).trans ?_) (by rfl) ?_
  refine wp_iload_n (n := 10) dX9_busiest_9 rfl rfl ?_
  refine wp_iload_n (n := 11) dX9_busiest_10 rfl rfl ?_
  refine wp_callV2 (n := 14) (rm' := (3, 72, 0, 0)) rfl dX9_busiest_11 rfl mlX9_300 (by repeat first | assumption | exact ax_set_self _ _ _ | exact ax_newA_self _ _ _ | refine (ax_set_ne _ _ (by omega)).trans ?_ | refine (ax_newA_ne _ _ _ (by omega)).trans ?_) rfl rfl rfl rfl rfl ?_
  refine s_X5_mostMoved hL0 hn he ?_
  show WP Γ _ _ _ _ _ _ _
  exact wp_ireturn dX9_busiest_14 rfl rfl (k i1 i2)
theorem s_X9_poolOf (hF : FacC h p b D er) (hL : LedP h b np qu ra re le ln nb pl tm ne rw bk nh hw nc cw t y pk) (hb : nb ≤ 200)
    (k1 : inN x nb = false → ∀ n', h.1 ≤ n' → Q (.inr IOB) (n', h.2)) (k : ∀ j, j < nb → x = nI j → Q (.inl (some (.int (pl j)))) h) : WP Γ MX9_poolOf (7, 116, 1, 6) 0 [some (.ref p), some (.int x)] [] h Q := by
  have hF0 := hF
  unfold FacC at hF
  have hL0 := hL
  obtain ⟨hO, hP, hM, hJ, hR, hC, su, hS⟩ := hL
  have hP1 := hP.1
  have hM1 := hM.1
  have hJ1 := hJ.1
  have hR1 := hR.1
  have hC1 := hC.1
  have hP2 := hP.2.1
  have hP3 := hP.2.2.1
  have hP4 := hP.2.2.2.1
  have hM2 := hM.2.1
  have hM3 := hM.2.2.1
  have hM4 := hM.2.2.2
  refine wp_aload_n (n := 1) dX9_poolOf_0 rfl rfl ?_
  refine wp_iload_n (n := 2) dX9_poolOf_1 rfl rfl ?_
  refine wp_callV1 (n := 5) (rm' := (6, 95, 1, 6)) rfl dX9_poolOf_2 rfl mlX9_160 (by repeat first | assumption | exact ax_set_self _ _ _ | exact ax_newA_self _ _ _ | refine (ax_set_ne _ _ (by omega)).trans ?_ | refine (ax_newA_ne _ _ _ (by omega)).trans ?_) rfl rfl rfl rfl rfl ?_
  refine s_X9_needBlock hF0 hL0 hb k1 (fun j hj e => ?_)
  show WP Γ _ _ _ _ _ _ _
  subst e
  refine wp_aload_n (n := 6) dX9_poolOf_5 rfl rfl ?_
  refine wp_getf (n := 9) dX9_poolOf_6 rfl flX9_39 (by repeat first | assumption | exact ax_set_self _ _ _ | exact ax_newA_self _ _ _ | refine (ax_set_ne _ _ (by omega)).trans ?_ | refine (ax_newA_ne _ _ _ (by omega)).trans ?_) (by rfl) ?_
  refine wp_getf (n := 12) dX9_poolOf_9 rfl flX9_118 (by repeat first | assumption | exact ax_set_self _ _ _ | exact ax_newA_self _ _ _ | refine (ax_set_ne _ _ (by omega)).trans ?_ | refine (ax_newA_ne _ _ _ (by omega)).trans ?_) (by rfl) ?_
  refine wp_getf (n := 15) dX9_poolOf_12 rfl flX9_231 (by repeat first | assumption | exact ax_set_self _ _ _ | exact ax_newA_self _ _ _ | refine (ax_set_ne _ _ (by omega)).trans ?_ | refine (ax_newA_ne _ _ _ (by omega)).trans ?_) (by rfl) ?_
  refine wp_iload_n (n := 16) dX9_poolOf_15 rfl rfl ?_
  refine wp_iald (n := 17) _ dX9_poolOf_16 rfl (by repeat first | assumption | exact ax_set_self _ _ _ | exact ax_newA_self _ _ _ | refine (ax_set_ne _ _ (by omega)).trans ?_ | refine (ax_newA_ne _ _ _ (by omega)).trans ?_) rfl (by omega) (by decide) ?_
  exact wp_ireturn dX9_poolOf_17 rfl rfl (k j hj rfl)
theorem s_X9_since (hF : FacC h p b D er) (hL : LedP h b np qu ra re le ln nb pl tm ne rw bk nh hw nc cw t y pk) (hb : nb ≤ 200)
    (k1 : inN x nb = false → ∀ n', h.1 ≤ n' → Q (.inr IOB) (n', h.2)) (k : ∀ j, j < nb → x = nI j → Q (.inl (some (.int (tm j)))) h) : WP Γ MX9_since (7, 116, 1, 6) 0 [some (.ref p), some (.int x)] [] h Q := by
  have hF0 := hF
  unfold FacC at hF
  have hL0 := hL
  obtain ⟨hO, hP, hM, hJ, hR, hC, su, hS⟩ := hL
  have hP1 := hP.1
  have hM1 := hM.1
  have hJ1 := hJ.1
  have hR1 := hR.1
  have hC1 := hC.1
  have hP2 := hP.2.1
  have hP3 := hP.2.2.1
  have hP4 := hP.2.2.2.1
  have hM2 := hM.2.1
  have hM3 := hM.2.2.1
  have hM4 := hM.2.2.2
  refine wp_aload_n (n := 1) dX9_since_0 rfl rfl ?_
  refine wp_iload_n (n := 2) dX9_since_1 rfl rfl ?_
  refine wp_callV1 (n := 5) (rm' := (6, 95, 1, 6)) rfl dX9_since_2 rfl mlX9_160 (by repeat first | assumption | exact ax_set_self _ _ _ | exact ax_newA_self _ _ _ | refine (ax_set_ne _ _ (by omega)).trans ?_ | refine (ax_newA_ne _ _ _ (by omega)).trans ?_) rfl rfl rfl rfl rfl ?_
  refine s_X9_needBlock hF0 hL0 hb k1 (fun j hj e => ?_)
  show WP Γ _ _ _ _ _ _ _
  subst e
  refine wp_aload_n (n := 6) dX9_since_5 rfl rfl ?_
  refine wp_getf (n := 9) dX9_since_6 rfl flX9_39 (by repeat first | assumption | exact ax_set_self _ _ _ | exact ax_newA_self _ _ _ | refine (ax_set_ne _ _ (by omega)).trans ?_ | refine (ax_newA_ne _ _ _ (by omega)).trans ?_) (by rfl) ?_
  refine wp_getf (n := 12) dX9_since_9 rfl flX9_118 (by repeat first | assumption | exact ax_set_self _ _ _ | exact ax_newA_self _ _ _ | refine (ax_set_ne _ _ (by omega)).trans ?_ | refine (ax_newA_ne _ _ _ (by omega)).trans ?_) (by rfl) ?_
  refine wp_getf (n := 15) dX9_since_12 rfl flX9_233 (by repeat first | assumption | exact ax_set_self _ _ _ | exact ax_newA_self _ _ _ | refine (ax_set_ne _ _ (by omega)).trans ?_ | refine (ax_newA_ne _ _ _ (by omega)).trans ?_) (by rfl) ?_
  refine wp_iload_n (n := 16) dX9_since_15 rfl rfl ?_
  refine wp_iald (n := 17) _ dX9_since_16 rfl (by repeat first | assumption | exact ax_set_self _ _ _ | exact ax_newA_self _ _ _ | refine (ax_set_ne _ _ (by omega)).trans ?_ | refine (ax_newA_ne _ _ _ (by omega)).trans ?_) rfl (by omega) (by decide) ?_
  exact wp_ireturn dX9_since_17 rfl rfl (k j hj rfl)
theorem s_X9_entryValue (hF : FacC h p b D er) (hL : LedP h b np qu ra re le ln nb pl tm ne rw bk nh hw nc cw t y pk) (he : ne ≤ 300)
    (k1 : inN x ne = false → ∀ n', h.1 ≤ n' → Q (.inr IOB) (n', h.2)) (k2 : inN x ne = true → inN z 7 = false → ∀ n', h.1 ≤ n' → Q (.inr IAE) (n', h.2)) (k : ∀ e i, e < ne → i < 7 → x = nI e → z = nI i → Q (.inl (some (.int (rw (e * 7 + i))))) h) : WP Γ MX9_entryValue (7, 116, 2, 12) 0 [some (.ref p), some (.int x), some (.int z)] [] h Q := by
  have hF0 := hF
  unfold FacC at hF
  have hL0 := hL
  obtain ⟨hO, hP, hM, hJ, hR, hC, su, hS⟩ := hL
  have hP1 := hP.1
  have hM1 := hM.1
  have hJ1 := hJ.1
  have hR1 := hR.1
  have hC1 := hC.1
  have hP2 := hP.2.1
  have hP3 := hP.2.2.1
  have hP4 := hP.2.2.2.1
  have hM2 := hM.2.1
  have hM3 := hM.2.2.1
  have hM4 := hM.2.2.2
  refine wp_aload_n (n := 1) dX9_entryValue_0 rfl rfl ?_
  refine wp_iload_n (n := 2) dX9_entryValue_1 rfl rfl ?_
  refine wp_callV1 (n := 5) (rm' := (6, 95, 1, 6)) rfl dX9_entryValue_2 rfl mlX9_167 (by repeat first | assumption | exact ax_set_self _ _ _ | exact ax_newA_self _ _ _ | refine (ax_set_ne _ _ (by omega)).trans ?_ | refine (ax_newA_ne _ _ _ (by omega)).trans ?_) rfl rfl rfl rfl rfl ?_
  refine s_X9_needEntry hF0 hL0 he k1 (fun e hj e1 => ?_)
  show WP Γ _ _ _ _ _ _ _
  subst e1
  have k2 := k2 (inN_of hj (by omega))
  refine wp_iload_n (n := 6) dX9_entryValue_5 rfl rfl ?_
  refine wp_if_lt (t := 15) (n := 9) dX9_entryValue_6 (by decide) rfl (fun hc => ?_) (fun hc => ?_)
  · exact wp_throwS 24 rfl dX9_entryValue_15 dX9_entryValue_18 dX9_entryValue_19 dX9_entryValue_21 dX9_entryValue_24 rfl (by decide) (by decide) clX9_54 ax_iaei atX9_58 agX9_58 ax_nw rfl rfl (by decide) (by decide) (k2 (decide_eq_false (fun q => absurd hc (Int32.not_lt.mpr q.1))))
  · refine wp_iload_n (n := 10) dX9_entryValue_9 rfl rfl ?_
    refine wp_bipush (n := 12) (v := nI 7) dX9_entryValue_10 rfl (by decide) ?_
    refine wp_icmp_lt (t := 25) (n := 15) dX9_entryValue_12 (by decide) rfl (fun hq => ?_) (fun hq => ?_)
    · obtain ⟨i, hi, e2⟩ := inN_get (by omega) (i32_not_lt hc) hq
      subst e2
      refine wp_aload_n (n := 26) dX9_entryValue_25 rfl rfl ?_
      refine wp_getf (n := 29) dX9_entryValue_26 rfl flX9_39 (by repeat first | assumption | exact ax_set_self _ _ _ | exact ax_newA_self _ _ _ | refine (ax_set_ne _ _ (by omega)).trans ?_ | refine (ax_newA_ne _ _ _ (by omega)).trans ?_) (by rfl) ?_
      refine wp_getf (n := 32) dX9_entryValue_29 rfl flX9_264 (by repeat first | assumption | exact ax_set_self _ _ _ | exact ax_newA_self _ _ _ | refine (ax_set_ne _ _ (by omega)).trans ?_ | refine (ax_newA_ne _ _ _ (by omega)).trans ?_) (by rfl) ?_
      refine wp_iload_n (n := 33) dX9_entryValue_32 rfl rfl ?_
      refine wp_iload_n (n := 34) dX9_entryValue_33 rfl rfl ?_
      refine wp_callV2 (n := 37) (rm' := (0, 0, 0, 0)) rfl dX9_entryValue_34 rfl mlX9_271 (by repeat first | assumption | exact ax_set_self _ _ _ | exact ax_newA_self _ _ _ | refine (ax_set_ne _ _ (by omega)).trans ?_ | refine (ax_newA_ne _ _ _ (by omega)).trans ?_) rfl rfl rfl rfl rfl ?_
      refine s_X4_value hJ (by omega) hi ?_
      show WP Γ _ _ _ _ _ _ _
      exact wp_ireturn dX9_entryValue_37 rfl rfl (k e i hj hi rfl rfl)
    · exact wp_throwS 24 rfl dX9_entryValue_15 dX9_entryValue_18 dX9_entryValue_19 dX9_entryValue_21 dX9_entryValue_24 rfl (by decide) (by decide) clX9_54 ax_iaei atX9_58 agX9_58 ax_nw rfl rfl (by decide) (by decide) (k2 (decide_eq_false (fun q => hq q.2)))
theorem s_X9_reservationValue (hF : FacC h p b D er) (hL : LedP h b np qu ra re le ln nb pl tm ne rw bk nh hw nc cw t y pk) (hh : nh ≤ 60)
    (k1 : inN x nh = false → ∀ n', h.1 ≤ n' → Q (.inr IOB) (n', h.2)) (k2 : inN x nh = true → inN z 5 = false → ∀ n', h.1 ≤ n' → Q (.inr IAE) (n', h.2)) (k : ∀ e i, e < nh → i < 5 → x = nI e → z = nI i → Q (.inl (some (.int (hw (e * 5 + i))))) h) : WP Γ MX9_reservationValue (7, 116, 2, 12) 0 [some (.ref p), some (.int x), some (.int z)] [] h Q := by
  have hF0 := hF
  unfold FacC at hF
  have hL0 := hL
  obtain ⟨hO, hP, hM, hJ, hR, hC, su, hS⟩ := hL
  have hP1 := hP.1
  have hM1 := hM.1
  have hJ1 := hJ.1
  have hR1 := hR.1
  have hC1 := hC.1
  have hP2 := hP.2.1
  have hP3 := hP.2.2.1
  have hP4 := hP.2.2.2.1
  have hM2 := hM.2.1
  have hM3 := hM.2.2.1
  have hM4 := hM.2.2.2
  refine wp_aload_n (n := 1) dX9_reservationValue_0 rfl rfl ?_
  refine wp_iload_n (n := 2) dX9_reservationValue_1 rfl rfl ?_
  refine wp_callV1 (n := 5) (rm' := (6, 95, 1, 6)) rfl dX9_reservationValue_2 rfl mlX9_190 (by repeat first | assumption | exact ax_set_self _ _ _ | exact ax_newA_self _ _ _ | refine (ax_set_ne _ _ (by omega)).trans ?_ | refine (ax_newA_ne _ _ _ (by omega)).trans ?_) rfl rfl rfl rfl rfl ?_
  refine s_X9_needReservation hF0 hL0 hh k1 (fun e hj e1 => ?_)
  show WP Γ _ _ _ _ _ _ _
  subst e1
  have k2 := k2 (inN_of hj (by omega))
  refine wp_iload_n (n := 6) dX9_reservationValue_5 rfl rfl ?_
  refine wp_if_lt (t := 14) (n := 9) dX9_reservationValue_6 (by decide) rfl (fun hc => ?_) (fun hc => ?_)
  · exact wp_throwS 24 rfl dX9_reservationValue_14 dX9_reservationValue_17 dX9_reservationValue_18 dX9_reservationValue_20 dX9_reservationValue_23 rfl (by decide) (by decide) clX9_54 ax_iaei atX9_58 agX9_58 ax_nw rfl rfl (by decide) (by decide) (k2 (decide_eq_false (fun q => absurd hc (Int32.not_lt.mpr q.1))))
  · refine wp_iload_n (n := 10) dX9_reservationValue_9 rfl rfl ?_
    refine wp_iconst (n := 11) (v := nI 5) dX9_reservationValue_10 rfl (by decide) ?_
    refine wp_icmp_lt (t := 24) (n := 14) dX9_reservationValue_11 (by decide) rfl (fun hq => ?_) (fun hq => ?_)
    · obtain ⟨i, hi, e2⟩ := inN_get (by omega) (i32_not_lt hc) hq
      subst e2
      refine wp_aload_n (n := 25) dX9_reservationValue_24 rfl rfl ?_
      refine wp_getf (n := 28) dX9_reservationValue_25 rfl flX9_39 (by repeat first | assumption | exact ax_set_self _ _ _ | exact ax_newA_self _ _ _ | refine (ax_set_ne _ _ (by omega)).trans ?_ | refine (ax_newA_ne _ _ _ (by omega)).trans ?_) (by rfl) ?_
      refine wp_getf (n := 31) dX9_reservationValue_28 rfl flX9_196 (by repeat first | assumption | exact ax_set_self _ _ _ | exact ax_newA_self _ _ _ | refine (ax_set_ne _ _ (by omega)).trans ?_ | refine (ax_newA_ne _ _ _ (by omega)).trans ?_) (by rfl) ?_
      refine wp_iload_n (n := 32) dX9_reservationValue_31 rfl rfl ?_
      refine wp_iload_n (n := 33) dX9_reservationValue_32 rfl rfl ?_
      refine wp_callV2 (n := 36) (rm' := (0, 0, 0, 0)) rfl dX9_reservationValue_33 rfl mlX9_211 (by repeat first | assumption | exact ax_set_self _ _ _ | exact ax_newA_self _ _ _ | refine (ax_set_ne _ _ (by omega)).trans ?_ | refine (ax_newA_ne _ _ _ (by omega)).trans ?_) rfl rfl rfl rfl rfl ?_
      refine s_X7_value hR (by omega) hi ?_
      show WP Γ _ _ _ _ _ _ _
      exact wp_ireturn dX9_reservationValue_36 rfl rfl (k e i hj hi rfl rfl)
    · exact wp_throwS 24 rfl dX9_reservationValue_14 dX9_reservationValue_17 dX9_reservationValue_18 dX9_reservationValue_20 dX9_reservationValue_23 rfl (by decide) (by decide) clX9_54 ax_iaei atX9_58 agX9_58 ax_nw rfl rfl (by decide) (by decide) (k2 (decide_eq_false (fun q => hq q.2)))
theorem s_X9_largestTransfer (hF : FacC h p b D er) (hL : LedP h b np qu ra re le ln nb pl tm ne rw bk nh hw nc cw t y pk) (hn : np ≤ 8) (hb : nb ≤ 200) (hh : nh ≤ 60)
    (k1 : (inN x np && inN z np) = false → ∀ n', h.1 ≤ n' → Q (.inr IOB) (n', h.2)) (k2 : (inN x np && inN z np) = true → x = z → ∀ n', h.1 ≤ n' → Q (.inr IAE) (n', h.2)) (k : ∀ i j, i < np → j < np → x = nI i → z = nI j → ¬ i = j → Q (.inl (some (.int (if 0 < (if roo qu pl nb hw nh j < avl pl nb hw nh (nI i) then roo qu pl nb hw nh j else avl pl nb hw nh (nI i)) then (if roo qu pl nb hw nh j < avl pl nb hw nh (nI i) then roo qu pl nb hw nh j else avl pl nb hw nh (nI i)) else 0)))) h) : WP Γ MX9_largestTransfer (8, 138, 3, 18) 0 [some (.ref p), some (.int x), some (.int z)] [] h Q := by
  have hF0 := hF
  unfold FacC at hF
  have hL0 := hL
  obtain ⟨hO, hP, hM, hJ, hR, hC, su, hS⟩ := hL
  have hP1 := hP.1
  have hM1 := hM.1
  have hJ1 := hJ.1
  have hR1 := hR.1
  have hC1 := hC.1
  have hP2 := hP.2.1
  have hP3 := hP.2.2.1
  have hP4 := hP.2.2.2.1
  have hM2 := hM.2.1
  have hM3 := hM.2.2.1
  have hM4 := hM.2.2.2
  refine wp_aload_n (n := 1) dX9_largestTransfer_0 rfl rfl ?_
  refine wp_iload_n (n := 2) dX9_largestTransfer_1 rfl rfl ?_
  refine wp_iload_n (n := 3) dX9_largestTransfer_2 rfl rfl ?_
  refine wp_callV2 (n := 6) (rm' := (7, 116, 3, 18)) rfl dX9_largestTransfer_3 rfl mlX9_146 (by repeat first | assumption | exact ax_set_self _ _ _ | exact ax_newA_self _ _ _ | refine (ax_set_ne _ _ (by omega)).trans ?_ | refine (ax_newA_ne _ _ _ (by omega)).trans ?_) rfl rfl rfl rfl rfl ?_
  refine s_X9_needTwoPools hF0 hL0 hn k1 k2 (fun i j hi hj e1 e2 hij => ?_)
  show WP Γ _ _ _ _ _ _ _
  subst e1
  subst e2
  refine wp_iconst (n := 7) (v := 0) dX9_largestTransfer_6 rfl (by decide) ?_
  refine wp_aload_n (n := 8) dX9_largestTransfer_7 rfl rfl ?_
  refine wp_getf (n := 11) dX9_largestTransfer_8 rfl flX9_39 (by repeat first | assumption | exact ax_set_self _ _ _ | exact ax_newA_self _ _ _ | refine (ax_set_ne _ _ (by omega)).trans ?_ | refine (ax_newA_ne _ _ _ (by omega)).trans ?_) (by rfl) ?_
  refine wp_iload_n (n := 12) dX9_largestTransfer_11 rfl rfl ?_
  refine wp_callV1 (n := 15) (rm' := (1, 25, 0, 0)) rfl dX9_largestTransfer_12 rfl mlX9_173 (by repeat first | assumption | exact ax_set_self _ _ _ | exact ax_newA_self _ _ _ | refine (ax_set_ne _ _ (by omega)).trans ?_ | refine (ax_newA_ne _ _ _ (by omega)).trans ?_) rfl rfl rfl rfl rfl ?_
  refine s_X5_availableIn hL0 hb hh ?_
  show WP Γ _ _ _ _ _ _ _
  refine wp_aload_n (n := 16) dX9_largestTransfer_15 rfl rfl ?_
  refine wp_getf (n := 19) dX9_largestTransfer_16 rfl flX9_39 (by repeat first | assumption | exact ax_set_self _ _ _ | exact ax_newA_self _ _ _ | refine (ax_set_ne _ _ (by omega)).trans ?_ | refine (ax_newA_ne _ _ _ (by omega)).trans ?_) (by rfl) ?_
  refine wp_iload_n (n := 20) dX9_largestTransfer_19 rfl rfl ?_
  refine wp_callV1 (n := 23) (rm' := (1, 25, 0, 0)) rfl dX9_largestTransfer_20 rfl mlX9_176 (by repeat first | assumption | exact ax_set_self _ _ _ | exact ax_newA_self _ _ _ | refine (ax_set_ne _ _ (by omega)).trans ?_ | refine (ax_newA_ne _ _ _ (by omega)).trans ?_) rfl rfl rfl rfl rfl ?_
  refine s_X5_roomIn hL0 hb hh (by omega) ?_
  show WP Γ _ _ _ _ _ _ _
  refine wp_mmin (n := 26) dX9_largestTransfer_23 rfl mnX9_179 ax_mns ax_mi ax_mnc rfl rfl ?_
  refine wp_mmax (n := 29) dX9_largestTransfer_26 rfl mxX9_184 ax_mxs ax_mi ax_mxc rfl rfl ?_
  exact wp_ireturn dX9_largestTransfer_29 rfl rfl (k i j hi hj rfl rfl hij)
theorem s_X9_auditSet (hF : FacC h p b D er) (hL : LedP h b np qu ra re le ln nb pl tm ne rw bk nh hw nc cw t y pk) (hn : np ≤ 8) (he : ne ≤ 300) (hc9 : nc ≤ 10) (hm : ∀ c, c < nc → ∃ m, cw (c * 9 + 8) = nI m ∧ m ≤ ne) (ho : ∀ c d m n, c ≤ d → d < nc → cw (c * 9 + 8) = nI m → cw (d * 9 + 8) = nI n → m ≤ 300 → n ≤ 300 → m ≤ n)
    (k1 : ¬ (0 ≤ x ∧ x ≤ z ∧ z < nI nc) → ∀ n', h.1 ≤ n' → Q (.inr IAE) (n', h.2)) (k : ∀ i j m1 m2, i ≤ j → j < nc → x = nI i → z = nI j → cw (i * 9 + 8) = nI m1 → cw (j * 9 + 8) = nI m2 → m1 ≤ m2 → m2 ≤ ne → Q (.inl (some (.int (setB (fun q => decide (¬ audC rw cw i j m1 m2 q = 0)) np)))) h) : WP Γ MX9_auditSet (7, 119, 1, 6) 0 [some (.ref p), some (.int x), some (.int z)] [] h Q := by
  have hF0 := hF
  unfold FacC at hF
  have hL0 := hL
  obtain ⟨hO, hP, hM, hJ, hR, hC, su, hS⟩ := hL
  have hP1 := hP.1
  have hM1 := hM.1
  have hJ1 := hJ.1
  have hR1 := hR.1
  have hC1 := hC.1
  have hP2 := hP.2.1
  have hP3 := hP.2.2.1
  have hP4 := hP.2.2.2.1
  have hM2 := hM.2.1
  have hM3 := hM.2.2.1
  have hM4 := hM.2.2.2
  refine wp_aload_n (n := 1) dX9_auditSet_0 rfl rfl ?_
  refine wp_iload_n (n := 2) dX9_auditSet_1 rfl rfl ?_
  refine wp_iload_n (n := 3) dX9_auditSet_2 rfl rfl ?_
  refine wp_callV2 (n := 6) (rm' := (6, 95, 1, 6)) rfl dX9_auditSet_3 rfl mlX9_324 (by repeat first | assumption | exact ax_set_self _ _ _ | exact ax_newA_self _ _ _ | refine (ax_set_ne _ _ (by omega)).trans ?_ | refine (ax_newA_ne _ _ _ (by omega)).trans ?_) rfl rfl rfl rfl rfl ?_
  refine s_X9_needCheckpoints hF0 hL0 hc9 k1 (fun i j hij hj e1 e2 => ?_)
  show WP Γ _ _ _ _ _ _ _
  subst e1
  subst e2
  obtain ⟨m1, a1, a2⟩ := hm i (by omega)
  obtain ⟨m2, b1, b2⟩ := hm j hj
  have hle := ho i j m1 m2 hij hj a1 b1 (by omega) (by omega)
  refine wp_aload_n (n := 7) dX9_auditSet_6 rfl rfl ?_
  refine wp_getf (n := 10) dX9_auditSet_7 rfl flX9_39 (by repeat first | assumption | exact ax_set_self _ _ _ | exact ax_newA_self _ _ _ | refine (ax_set_ne _ _ (by omega)).trans ?_ | refine (ax_newA_ne _ _ _ (by omega)).trans ?_) (by rfl) ?_
  refine wp_iload_n (n := 11) dX9_auditSet_10 rfl rfl ?_
  refine wp_iload_n (n := 12) dX9_auditSet_11 rfl rfl ?_
  refine wp_callV2 (n := 15) (rm' := (4, 95, 0, 0)) rfl dX9_auditSet_12 rfl mlX9_327 (by repeat first | assumption | exact ax_set_self _ _ _ | exact ax_newA_self _ _ _ | refine (ax_set_ne _ _ (by omega)).trans ?_ | refine (ax_newA_ne _ _ _ (by omega)).trans ?_) rfl rfl rfl rfl rfl ?_
  refine s_X5_auditedPools hL0 hn (by omega) (by omega) a1 b1 hle (by omega) ?_
  show WP Γ _ _ _ _ _ _ _
  exact wp_ireturn dX9_auditSet_15 rfl rfl (k i j m1 m2 hij hj rfl rfl a1 b1 hle b2)
theorem s_X9_auditOf (hF : FacC h p b D er) (hL : LedP h b np qu ra re le ln nb pl tm ne rw bk nh hw nc cw t y pk) (hn : np ≤ 8) (he : ne ≤ 300) (hc9 : nc ≤ 10) (hm : ∀ c, c < nc → ∃ m, cw (c * 9 + 8) = nI m ∧ m ≤ ne) (ho : ∀ c d m n, c ≤ d → d < nc → cw (c * 9 + 8) = nI m → cw (d * 9 + 8) = nI n → m ≤ 300 → n ≤ 300 → m ≤ n)
    (k1 : inN w np = false → ∀ n', h.1 ≤ n' → Q (.inr IOB) (n', h.2)) (k2 : inN w np = true → ¬ (0 ≤ x ∧ x ≤ z ∧ z < nI nc) → ∀ n', h.1 ≤ n' → Q (.inr IAE) (n', h.2)) (k : ∀ i j m1 m2 q, i ≤ j → j < nc → x = nI i → z = nI j → cw (i * 9 + 8) = nI m1 → cw (j * 9 + 8) = nI m2 → m1 ≤ m2 → m2 ≤ ne → q < np → w = nI q → Q (.inl (some (.int (audC rw cw i j m1 m2 q)))) h) : WP Γ MX9_auditOf (7, 117, 2, 12) 0 [some (.ref p), some (.int x), some (.int z), some (.int w)] [] h Q := by
  have hF0 := hF
  unfold FacC at hF
  have hL0 := hL
  obtain ⟨hO, hP, hM, hJ, hR, hC, su, hS⟩ := hL
  have hP1 := hP.1
  have hM1 := hM.1
  have hJ1 := hJ.1
  have hR1 := hR.1
  have hC1 := hC.1
  have hP2 := hP.2.1
  have hP3 := hP.2.2.1
  have hP4 := hP.2.2.2.1
  have hM2 := hM.2.1
  have hM3 := hM.2.2.1
  have hM4 := hM.2.2.2
  refine wp_aload_n (n := 1) dX9_auditOf_0 rfl rfl ?_
  refine wp_iload_n (n := 2) dX9_auditOf_1 rfl rfl ?_
  refine wp_callV1 (n := 5) (rm' := (6, 95, 1, 6)) rfl dX9_auditOf_2 rfl mlX9_125 (by repeat first | assumption | exact ax_set_self _ _ _ | exact ax_newA_self _ _ _ | refine (ax_set_ne _ _ (by omega)).trans ?_ | refine (ax_newA_ne _ _ _ (by omega)).trans ?_) rfl rfl rfl rfl rfl ?_
  refine s_X9_needPool hF0 hL0 hn k1 (fun q hq e => ?_)
  show WP Γ _ _ _ _ _ _ _
  subst e
  refine wp_aload_n (n := 6) dX9_auditOf_5 rfl rfl ?_
  refine wp_iload_n (n := 7) dX9_auditOf_6 rfl rfl ?_
  refine wp_iload_n (n := 8) dX9_auditOf_7 rfl rfl ?_
  refine wp_callV2 (n := 11) (rm' := (6, 95, 1, 6)) rfl dX9_auditOf_8 rfl mlX9_324 (by repeat first | assumption | exact ax_set_self _ _ _ | exact ax_newA_self _ _ _ | refine (ax_set_ne _ _ (by omega)).trans ?_ | refine (ax_newA_ne _ _ _ (by omega)).trans ?_) rfl rfl rfl rfl rfl ?_
  refine s_X9_needCheckpoints hF0 hL0 hc9 (k2 (inN_of hq (by omega))) (fun i j hij hj e1 e2 => ?_)
  show WP Γ _ _ _ _ _ _ _
  subst e1
  subst e2
  obtain ⟨m1, a1, a2⟩ := hm i (by omega)
  obtain ⟨m2, b1, b2⟩ := hm j hj
  have hle := ho i j m1 m2 hij hj a1 b1 (by omega) (by omega)
  refine wp_aload_n (n := 12) dX9_auditOf_11 rfl rfl ?_
  refine wp_getf (n := 15) dX9_auditOf_12 rfl flX9_39 (by repeat first | assumption | exact ax_set_self _ _ _ | exact ax_newA_self _ _ _ | refine (ax_set_ne _ _ (by omega)).trans ?_ | refine (ax_newA_ne _ _ _ (by omega)).trans ?_) (by rfl) ?_
  refine wp_iload_n (n := 16) dX9_auditOf_15 rfl rfl ?_
  refine wp_iload_n (n := 17) dX9_auditOf_16 rfl rfl ?_
  refine wp_iload_n (n := 18) dX9_auditOf_17 rfl rfl ?_
  refine wp_callV3 (n := 21) (rm' := (3, 70, 0, 0)) rfl dX9_auditOf_18 rfl mlX9_330 (by repeat first | assumption | exact ax_set_self _ _ _ | exact ax_newA_self _ _ _ | refine (ax_set_ne _ _ (by omega)).trans ?_ | refine (ax_newA_ne _ _ _ (by omega)).trans ?_) rfl rfl rfl rfl rfl ?_
  refine s_X5_auditedChange hL0 (by omega) (by omega) (by omega) a1 b1 hle (by omega) ?_
  show WP Γ _ _ _ _ _ _ _
  exact wp_ireturn dX9_auditOf_21 rfl rfl (k i j m1 m2 q hij hj rfl rfl a1 b1 hle b2 hq rfl)
end
