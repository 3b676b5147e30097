/-! ===== the face: changes ===== -/
set_option maxRecDepth 20000 in
theorem imX5_init : Cond.instanceMethod MX5_init.1 ∈ TB := TB_1 99 rfl rfl
section
variable {Γ : GE} {h : AH} {Q : PO} {p D b np nb ne nh nc y : Nat} {qu ra le ln pl tm rw hw cw pk : FI} {re : Nat → UInt32} {bk : Nat → Int64} {t x z w v er : Int32}
theorem FacC.fr {h' : AH} {lo hi : Nat} (hF : FacC h p b D er) (hf : ax_fr lo hi h h') (hd : hi ≤ p ∨ p + 1 ≤ lo) : FacC h' p b D er := hf.get hF (by omega)
theorem s_X9_setPick  (hF : FacC h p b D er) (hL : LedP h b np qu ra re le ln nb pl tm ne rw bk nh hw nc cw t y pk) (hA : Γ.2.1 ≤ b)
    (k1 : inI x 0 3 = false → ∀ n', h.1 ≤ n' → Q (.inr IAE) (n', h.2)) (k : ∀ m h', m ≤ 3 → x = nI m → ax_fr b (b + 19) h h' → LedP h' b np qu ra re le ln nb pl tm ne rw bk nh hw nc cw t m pk → Q (.inl (some (.int (nI y)))) h') : WP Γ MX9_setPick (6, 95, 1, 6) 0 [some (.ref p), some (.int x), none] [] h Q := by
  have hF0 := hF
  unfold FacC at hF
  have hL0 := hL
  obtain ⟨hO, hP, hM, hJ, hR, hC, su, hS⟩ := hL
  have hP1 := hP.1
  have hM1 := hM.1
  have hJ1 := hJ.1
  have hR1 := hR.1
  have hC1 := hC.1
  have hP2 := hP.2.1
  have hP3 := hP.2.2.1
  have hP4 := hP.2.2.2.1
  have hM2 := hM.2.1
  have hM3 := hM.2.2.1
  have hM4 := hM.2.2.2
  refine wp_iload_n (n := 1) dX9_setPick_0 rfl rfl ?_
  refine wp_if_lt (t := 9) (n := 4) dX9_setPick_1 (by decide) rfl (fun hc => ?_) (fun hc => ?_)
  · exact wp_throwS 16 rfl dX9_setPick_9 dX9_setPick_12 dX9_setPick_13 dX9_setPick_15 dX9_setPick_18 rfl (by decide) (by decide) clX9_54 ax_iaei atX9_58 agX9_58 ax_nw rfl rfl (by decide) (by decide) (k1 (decide_eq_false (fun q => absurd hc (Int32.not_lt.mpr q.1))))
  · refine wp_iload_n (n := 5) dX9_setPick_4 rfl rfl ?_
    refine wp_iconst (n := 6) (v := nI 3) dX9_setPick_5 rfl (by decide) ?_
    refine wp_icmp_le (t := 19) (n := 9) dX9_setPick_6 (by decide) rfl (fun hq => ?_) (fun hq => ?_)
    · obtain ⟨m, h1, h2, e⟩ := inI_get (a := 0) (by omega) (by omega) (i32_not_lt hc) hq
      subst e
      refine wp_aload_n (n := 20) dX9_setPick_19 rfl rfl ?_
      refine wp_getf (n := 23) dX9_setPick_20 rfl flX9_39 (by repeat first | assumption | exact ax_set_self _ _ _ | exact ax_newA_self _ _ _ | refine (ax_set_ne _ _ (by omega)).trans ?_ | refine (ax_newA_ne _ _ _ (by omega)).trans ?_) (by rfl) ?_
      refine wp_getf (n := 26) dX9_setPick_23 rfl flX9_134 (by repeat first | assumption | exact ax_set_self _ _ _ | exact ax_newA_self _ _ _ | refine (ax_set_ne _ _ (by omega)).trans ?_ | refine (ax_newA_ne _ _ _ (by omega)).trans ?_) (by rfl) ?_
      refine wp_istore_n (n := 27) dX9_setPick_26 rfl rfl rfl rfl ?_
      refine wp_aload_n (n := 28) dX9_setPick_27 rfl rfl ?_
      refine wp_getf (n := 31) dX9_setPick_28 rfl flX9_39 (by repeat first | assumption | exact ax_set_self _ _ _ | exact ax_newA_self _ _ _ | refine (ax_set_ne _ _ (by omega)).trans ?_ | refine (ax_newA_ne _ _ _ (by omega)).trans ?_) (by rfl) ?_
      refine wp_iload_n (n := 32) dX9_setPick_31 rfl rfl ?_
      refine wp_putf (n := 35) dX9_setPick_32 rfl flX9_134 (by repeat first | assumption | exact ax_set_self _ _ _ | exact ax_newA_self _ _ _ | refine (ax_set_ne _ _ (by omega)).trans ?_ | refine (ax_newA_ne _ _ _ (by omega)).trans ?_) (by omega) (by rfl) rfl rfl ?_
      refine wp_iload_n (n := 36) dX9_setPick_35 rfl rfl ?_
      exact wp_ireturn dX9_setPick_36 rfl rfl (k m _ h2 rfl (ax_fr.set (by omega)) (hL0.top t m))
    · exact wp_throwS 16 rfl dX9_setPick_9 dX9_setPick_12 dX9_setPick_13 dX9_setPick_15 dX9_setPick_18 rfl (by decide) (by decide) clX9_54 ax_iaei atX9_58 agX9_58 ax_nw rfl rfl (by decide) (by decide) (k1 (decide_eq_false (fun q => hq q.2)))
theorem s_X9_advance {tn : Nat} (hF : FacC h p b D er) (hL : LedP h b np qu ra re le ln nb pl tm ne rw bk nh hw nc cw t y pk) (hA : Γ.2.1 ≤ b) (hn : nb ≤ 200) (hp : np ≤ 8) (hh : nh ≤ 60) (he : ne ≤ 300) (ht : t = nI tn) (htn : tn ≤ 1000000) (hre : ∀ j, j < np → PF (re j)) (hra : ∀ j, j < np → ∃ r, ra j = nI r ∧ r ≤ 9999)
    (k1 : inI x 1 1000 = false → ∀ n', h.1 ≤ n' → Q (.inr IAE) (n', h.2)) (k0 : ∀ m, 1 ≤ m → m ≤ 1000 → x = nI m → 1000000 < tn + m → Q (.inl (some (.int (-2)))) h)
    (kk : ∀ m, 1 ≤ m → m ≤ 1000 → x = nI m → tn + m ≤ 1000000 → ∀ h' re' hw', ax_fr b (b + 19) h h' → (∀ j, re' j = if j < np then rntA ra re pl nb (nI m) j else re j) → (∀ j, j < np → PF (re' j)) → (∀ r j, j < 5 → hw' (r * 5 + j) = if j = 4 ∧ r < nh ∧ dueB hw (nI (tn + m)) r = true then nI 3 else hw (r * 5 + j)) → LedP h' b np qu ra re' le ln nb pl tm ne rw bk nh hw' nc cw (nI (tn + m)) y pk → Q (.inl (some (.int (nI (cntB (dueB hw (nI (tn + m))) nh))))) h') : WP Γ MX9_advance (7, 115, 1, 6) 0 [some (.ref p), some (.int x)] [] h Q := by
  have hF0 := hF
  unfold FacC at hF
  have hL0 := hL
  obtain ⟨hO, hP, hM, hJ, hR, hC, su, hS⟩ := hL
  have hP1 := hP.1
  have hM1 := hM.1
  have hJ1 := hJ.1
  have hR1 := hR.1
  have hC1 := hC.1
  have hP2 := hP.2.1
  have hP3 := hP.2.2.1
  have hP4 := hP.2.2.2.1
  have hM2 := hM.2.1
  have hM3 := hM.2.2.1
  have hM4 := hM.2.2.2
  refine wp_iload_n (n := 1) dX9_advance_0 rfl rfl ?_
  refine wp_callS1 (n := 4) (rm' := (6, 95, 1, 6)) rfl dX9_advance_1 rfl mlX9_140 rfl rfl rfl rfl ?_
  refine s_X9_needTicks k1 (fun m h1 h2 e => ?_)
  show WP Γ _ _ _ _ _ _ _
  subst e
  refine wp_aload_n (n := 5) dX9_advance_4 rfl rfl ?_
  refine wp_getf (n := 8) dX9_advance_5 rfl flX9_39 (by repeat first | assumption | exact ax_set_self _ _ _ | exact ax_newA_self _ _ _ | refine (ax_set_ne _ _ (by omega)).trans ?_ | refine (ax_newA_ne _ _ _ (by omega)).trans ?_) (by rfl) ?_
  refine wp_iload_n (n := 9) dX9_advance_8 rfl rfl ?_
  refine wp_callV1 (n := 12) (rm' := (3, 66, 0, 0)) rfl dX9_advance_9 rfl mlX9_143 (by repeat first | assumption | exact ax_set_self _ _ _ | exact ax_newA_self _ _ _ | refine (ax_set_ne _ _ (by omega)).trans ?_ | refine (ax_newA_ne _ _ _ (by omega)).trans ?_) rfl rfl rfl rfl rfl ?_
  refine s_X5_pass hL0 hA hn hp hh h2 ht htn hre hra (fun q => ?_) (fun q h3 re3 hw3 f3 z1 z2 z3 hL3 => ?_)
  · show WP Γ _ _ _ _ _ _ _
    exact wp_ireturn dX9_advance_12 rfl rfl (k0 m h1 h2 rfl q)
  · show WP Γ _ _ _ _ _ _ _
    exact wp_ireturn dX9_advance_12 rfl rfl (kk m h1 h2 rfl q h3 re3 hw3 f3 z1 z2 z3 hL3)
theorem s_X9_transfer  (hF : FacC h p b D er) (hL : LedP h b np qu ra re le ln nb pl tm ne rw bk nh hw nc cw t y pk) (hA : Γ.2.1 ≤ b) (hn : nb ≤ 200) (hp : np ≤ 8) (hh : nh ≤ 60) (he : ne ≤ 300) (hy : y ≤ 3) (ht : ∀ d, d < nb → 0 ≤ tm d)
    (k1 : (inN x np && inN z np) = false → ∀ n', h.1 ≤ n' → Q (.inr IOB) (n', h.2)) (k2 : (inN x np && inN z np) = true → (decide (¬ x = z) && inI w 1 200 && inI v 0 9) = false → ∀ n', h.1 ≤ n' → Q (.inr IAE) (n', h.2))
    (k0 : ∀ i j m, i < np → j < np → x = nI i → z = nI j → ¬ i = j → 1 ≤ m → m ≤ 200 → w = nI m → inI v 0 9 = true → ∀ r, r = (if 300 ≤ ne then -2 else obs qu pl nb hw nh (nI i) j (nI m) 0) → r < 0 → Q (.inl (some (.int r))) h)
    (k : ∀ i j m, i < np → j < np → x = nI i → z = nI j → ¬ i = j → 1 ≤ m → m ≤ 200 → w = nI m → inI v 0 9 = true → ne < 300 → obs qu pl nb hw nh (nI i) j (nI m) 0 = 0 → ∀ h' bk' pk', ax_fr b (b + 19) h h' → (∀ d, d < 200 → pk' d = bI (selW y pl tm nb (nI i) m d)) → LedP h' b np qu ra re le ln nb (putF pl nb pk' (nI j)) (putF tm nb pk' t) (ne + 1) (upd7 rw ne (nI i) (nI j) (nI m) v t 0 (-1)) bk' nh hw nc cw t y pk' → bokB bk bk' ne pk' → Q (.inl (some (.int (nI ne)))) h') : WP Γ MX9_transfer (8, 138, 5, 30) 0 [some (.ref p), some (.int x), some (.int z), some (.int w), some (.int v)] [] h Q := by
  have hF0 := hF
  unfold FacC at hF
  have hL0 := hL
  obtain ⟨hO, hP, hM, hJ, hR, hC, su, hS⟩ := hL
  have hP1 := hP.1
  have hM1 := hM.1
  have hJ1 := hJ.1
  have hR1 := hR.1
  have hC1 := hC.1
  have hP2 := hP.2.1
  have hP3 := hP.2.2.1
  have hP4 := hP.2.2.2.1
  have hM2 := hM.2.1
  have hM3 := hM.2.2.1
  have hM4 := hM.2.2.2
  refine wp_aload_n (n := 1) dX9_transfer_0 rfl rfl ?_
  refine wp_iload_n (n := 2) dX9_transfer_1 rfl rfl ?_
  refine wp_iload_n (n := 3) dX9_transfer_2 rfl rfl ?_
  refine wp_callV2 (n := 6) (rm' := (7, 116, 3, 18)) rfl dX9_transfer_3 rfl mlX9_146 (by repeat first | assumption | exact ax_set_self _ _ _ | exact ax_newA_self _ _ _ | refine (ax_set_ne _ _ (by omega)).trans ?_ | refine (ax_newA_ne _ _ _ (by omega)).trans ?_) rfl rfl rfl rfl rfl ?_
  refine s_X9_needTwoPools hF0 hL0 hp k1 (fun q1 q2 => k2 q1 (by rw [q2]; simp)) (fun i j hi hj e1 e2 hij => ?_)
  show WP Γ _ _ _ _ _ _ _
  subst e1
  subst e2
  have k2 := k2 (by rw [inN_of hi (by omega), inN_of hj (by omega)]; rfl)
  refine wp_iload_n (n := 7) dX9_transfer_6 rfl rfl ?_
  refine wp_callS1 (n := 10) (rm' := (6, 95, 1, 6)) rfl dX9_transfer_7 rfl mlX9_150 rfl rfl rfl rfl ?_
  refine s_X9_needCount (fun q => k2 (by rw [q]; simp)) (fun m h1 h2 e => ?_)
  show WP Γ _ _ _ _ _ _ _
  subst e
  refine wp_iload (n := 12) dX9_transfer_10 rfl rfl ?_
  refine wp_callS1 (n := 15) (rm' := (6, 95, 1, 6)) rfl dX9_transfer_12 rfl mlX9_153 rfl rfl rfl rfl ?_
  refine s_X9_needReason (fun q => k2 (by rw [q]; simp)) (fun q9 => ?_)
  show WP Γ _ _ _ _ _ _ _
  refine wp_aload_n (n := 16) dX9_transfer_15 rfl rfl ?_
  refine wp_getf (n := 19) dX9_transfer_16 rfl flX9_39 (by repeat first | assumption | exact ax_set_self _ _ _ | exact ax_newA_self _ _ _ | refine (ax_set_ne _ _ (by omega)).trans ?_ | refine (ax_newA_ne _ _ _ (by omega)).trans ?_) (by rfl) ?_
  refine wp_iload_n (n := 20) dX9_transfer_19 rfl rfl ?_
  refine wp_iload_n (n := 21) dX9_transfer_20 rfl rfl ?_
  refine wp_iload_n (n := 22) dX9_transfer_21 rfl rfl ?_
  refine wp_iload (n := 24) dX9_transfer_22 rfl rfl ?_
  refine wp_callV4 (n := 27) (rm' := (3, 74, 0, 0)) rfl dX9_transfer_24 rfl mlX9_156 (by repeat first | assumption | exact ax_set_self _ _ _ | exact ax_newA_self _ _ _ | refine (ax_set_ne _ _ (by omega)).trans ?_ | refine (ax_newA_ne _ _ _ (by omega)).trans ?_) rfl rfl rfl rfl rfl ?_
  refine s_X5_move hL0 hA hn hh he (by omega) h2 hy ht (fun r r1 r2 => ?_) (fun a1 a2 h3 bk3 pk3 f3 z3 hL3 b3 => ?_)
  · show WP Γ _ _ _ _ _ _ _
    exact wp_ireturn dX9_transfer_27 rfl rfl (k0 i j m hi hj rfl rfl hij h1 h2 rfl q9 r r1 r2)
  · show WP Γ _ _ _ _ _ _ _
    exact wp_ireturn dX9_transfer_27 rfl rfl (k i j m hi hj rfl rfl hij h1 h2 rfl q9 a1 a2 h3 bk3 pk3 f3 z3 hL3 b3)
theorem s_X9_reserve  (hF : FacC h p b D er) (hL : LedP h b np qu ra re le ln nb pl tm ne rw bk nh hw nc cw t y pk) (hA : Γ.2.1 ≤ b) (hn : nb ≤ 200) (hp : np ≤ 8) (hh : nh ≤ 60) (he : ne ≤ 300)
    (k1 : (inN x np && inN z np) = false → ∀ n', h.1 ≤ n' → Q (.inr IOB) (n', h.2)) (k2 : (inN x np && inN z np) = true → (decide (¬ x = z) && inI w 1 200 && inI v 1 1000) = false → ∀ n', h.1 ≤ n' → Q (.inr IAE) (n', h.2))
    (k0 : ∀ i j m, i < np → j < np → x = nI i → z = nI j → ¬ i = j → 1 ≤ m → m ≤ 200 → w = nI m → inI v 1 1000 = true → ∀ r, r = (if 60 ≤ nh then -2 else obs qu pl nb hw nh (nI i) j (nI m) 0) → r < 0 → Q (.inl (some (.int r))) h)
    (k : ∀ i j m n, i < np → j < np → x = nI i → z = nI j → ¬ i = j → 1 ≤ m → m ≤ 200 → w = nI m → 1 ≤ n → n ≤ 1000 → v = nI n → nh < 60 → obs qu pl nb hw nh (nI i) j (nI m) 0 = 0 → ∀ h', ax_fr b (b + 19) h h' → LedP h' b np qu ra re le ln nb pl tm ne rw bk (nh + 1) (upd5 hw nh (nI i) (nI j) (nI m) (t + nI n) 0) nc cw t y pk → Q (.inl (some (.int (nI nh)))) h') : WP Γ MX9_reserve (8, 138, 5, 30) 0 [some (.ref p), some (.int x), some (.int z), some (.int w), some (.int v)] [] h Q := by
  have hF0 := hF
  unfold FacC at hF
  have hL0 := hL
  obtain ⟨hO, hP, hM, hJ, hR, hC, su, hS⟩ := hL
  have hP1 := hP.1
  have hM1 := hM.1
  have hJ1 := hJ.1
  have hR1 := hR.1
  have hC1 := hC.1
  have hP2 := hP.2.1
  have hP3 := hP.2.2.1
  have hP4 := hP.2.2.2.1
  have hM2 := hM.2.1
  have hM3 := hM.2.2.1
  have hM4 := hM.2.2.2
  refine wp_aload_n (n := 1) dX9_reserve_0 rfl rfl ?_
  refine wp_iload_n (n := 2) dX9_reserve_1 rfl rfl ?_
  refine wp_iload_n (n := 3) dX9_reserve_2 rfl rfl ?_
  refine wp_callV2 (n := 6) (rm' := (7, 116, 3, 18)) rfl dX9_reserve_3 rfl mlX9_146 (by repeat first | assumption | exact ax_set_self _ _ _ | exact ax_newA_self _ _ _ | refine (ax_set_ne _ _ (by omega)).trans ?_ | refine (ax_newA_ne _ _ _ (by omega)).trans ?_) rfl rfl rfl rfl rfl ?_
  refine s_X9_needTwoPools hF0 hL0 hp k1 (fun q1 q2 => k2 q1 (by rw [q2]; simp)) (fun i j hi hj e1 e2 hij => ?_)
  show WP Γ _ _ _ _ _ _ _
  subst e1
  subst e2
  have k2 := k2 (by rw [inN_of hi (by omega), inN_of hj (by omega)]; rfl)
  refine wp_iload_n (n := 7) dX9_reserve_6 rfl rfl ?_
  refine wp_callS1 (n := 10) (rm' := (6, 95, 1, 6)) rfl dX9_reserve_7 rfl mlX9_150 rfl rfl rfl rfl ?_
  refine s_X9_needCount (fun q => k2 (by rw [q]; simp)) (fun m h1 h2 e => ?_)
  show WP Γ _ _ _ _ _ _ _
  subst e
  refine wp_iload (n := 12) dX9_reserve_10 rfl rfl ?_
  refine wp_callS1 (n := 15) (rm' := (6, 95, 1, 6)) rfl dX9_reserve_12 rfl mlX9_140 rfl rfl rfl rfl ?_
  refine s_X9_needTicks (fun q => k2 (by rw [q]; simp)) (fun n g1 g2 e => ?_)
  show WP Γ _ _ _ _ _ _ _
  subst e
  refine wp_aload_n (n := 16) dX9_reserve_15 rfl rfl ?_
  refine wp_getf (n := 19) dX9_reserve_16 rfl flX9_39 (by repeat first | assumption | exact ax_set_self _ _ _ | exact ax_newA_self _ _ _ | refine (ax_set_ne _ _ (by omega)).trans ?_ | refine (ax_newA_ne _ _ _ (by omega)).trans ?_) (by rfl) ?_
  refine wp_iload_n (n := 20) dX9_reserve_19 rfl rfl ?_
  refine wp_iload_n (n := 21) dX9_reserve_20 rfl rfl ?_
  refine wp_iload_n (n := 22) dX9_reserve_21 rfl rfl ?_
  refine wp_iload (n := 24) dX9_reserve_22 rfl rfl ?_
  refine wp_callV4 (n := 27) (rm' := (3, 70, 0, 0)) rfl dX9_reserve_24 rfl mlX9_187 (by repeat first | assumption | exact ax_set_self _ _ _ | exact ax_newA_self _ _ _ | refine (ax_set_ne _ _ (by omega)).trans ?_ | refine (ax_newA_ne _ _ _ (by omega)).trans ?_) rfl rfl rfl rfl rfl ?_
  refine s_X5_hold hL0 hA hn hh (by omega) (fun r r1 r2 => ?_) (fun a1 a2 h3 f3 hL3 => ?_)
  · show WP Γ _ _ _ _ _ _ _
    exact wp_ireturn dX9_reserve_27 rfl rfl (k0 i j m hi hj rfl rfl hij h1 h2 rfl (inI_of g1 g2 (by omega)) r r1 r2)
  · show WP Γ _ _ _ _ _ _ _
    exact wp_ireturn dX9_reserve_27 rfl rfl (k i j m n hi hj rfl rfl hij h1 h2 rfl g1 g2 rfl a1 a2 h3 f3 hL3)
theorem s_X9_transferBlock  (hF : FacC h p b D er) (hL : LedP h b np qu ra re le ln nb pl tm ne rw bk nh hw nc cw t y pk) (hA : Γ.2.1 ≤ b) (hn : nb ≤ 200) (hp : np ≤ 8) (hh : nh ≤ 60) (he : ne ≤ 300)
    (k1 : (inN x nb && inN z np) = false → ∀ n', h.1 ≤ n' → Q (.inr IOB) (n', h.2)) (k2 : (inN x nb && inN z np) = true → inI w 0 9 = false → ∀ n', h.1 ≤ n' → Q (.inr IAE) (n', h.2))
    (k0 : ∀ i j, i < nb → j < np → x = nI i → z = nI j → inI w 0 9 = true → ∀ r, r = (if 300 ≤ ne then -2 else if pl i = nI j then -5 else obs qu pl nb hw nh (pl i) j (nI 1) 0) → r < 0 → Q (.inl (some (.int r))) h)
    (k : ∀ i j, i < nb → j < np → x = nI i → z = nI j → inI w 0 9 = true → ne < 300 → ¬ pl i = nI j → obs qu pl nb hw nh (pl i) j (nI 1) 0 = 0 → ∀ h' bk' pk', ax_fr b (b + 19) h h' → (∀ d, d < 200 → pk' d = bI (decide (d = i))) → LedP h' b np qu ra re le ln nb (putF pl nb pk' (nI j)) (putF tm nb pk' t) (ne + 1) (upd7 rw ne (pl i) (nI j) (nI 1) w t 0 (-1)) bk' nh hw nc cw t y pk' → bokB bk bk' ne pk' → Q (.inl (some (.int (nI ne)))) h') : WP Γ MX9_transferBlock (7, 116, 3, 18) 0 [some (.ref p), some (.int x), some (.int z), some (.int w)] [] h Q := by
  have hF0 := hF
  unfold FacC at hF
  have hL0 := hL
  obtain ⟨hO, hP, hM, hJ, hR, hC, su, hS⟩ := hL
  have hP1 := hP.1
  have hM1 := hM.1
  have hJ1 := hJ.1
  have hR1 := hR.1
  have hC1 := hC.1
  have hP2 := hP.2.1
  have hP3 := hP.2.2.1
  have hP4 := hP.2.2.2.1
  have hM2 := hM.2.1
  have hM3 := hM.2.2.1
  have hM4 := hM.2.2.2
  refine wp_aload_n (n := 1) dX9_transferBlock_0 rfl rfl ?_
  refine wp_iload_n (n := 2) dX9_transferBlock_1 rfl rfl ?_
  refine wp_callV1 (n := 5) (rm' := (6, 95, 1, 6)) rfl dX9_transferBlock_2 rfl mlX9_160 (by repeat first | assumption | exact ax_set_self _ _ _ | exact ax_newA_self _ _ _ | refine (ax_set_ne _ _ (by omega)).trans ?_ | refine (ax_newA_ne _ _ _ (by omega)).trans ?_) rfl rfl rfl rfl rfl ?_
  refine s_X9_needBlock hF0 hL0 hn (fun q => k1 (by rw [q]; simp)) (fun i hi e1 => ?_)
  show WP Γ _ _ _ _ _ _ _
  refine wp_aload_n (n := 6) dX9_transferBlock_5 rfl rfl ?_
  refine wp_iload_n (n := 7) dX9_transferBlock_6 rfl rfl ?_
  refine wp_callV1 (n := 10) (rm' := (6, 95, 1, 6)) rfl dX9_transferBlock_7 rfl mlX9_125 (by repeat first | assumption | exact ax_set_self _ _ _ | exact ax_newA_self _ _ _ | refine (ax_set_ne _ _ (by omega)).trans ?_ | refine (ax_newA_ne _ _ _ (by omega)).trans ?_) rfl rfl rfl rfl rfl ?_
  refine s_X9_needPool hF0 hL0 hp (fun q => k1 (by rw [q]; simp)) (fun j hj e2 => ?_)
  show WP Γ _ _ _ _ _ _ _
  subst e1
  subst e2
  refine wp_iload_n (n := 11) dX9_transferBlock_10 rfl rfl ?_
  refine wp_callS1 (n := 14) (rm' := (6, 95, 1, 6)) rfl dX9_transferBlock_11 rfl mlX9_153 rfl rfl rfl rfl ?_
  refine s_X9_needReason (k2 (by rw [inN_of hi (by omega), inN_of hj (by omega)]; rfl)) (fun q9 => ?_)
  show WP Γ _ _ _ _ _ _ _
  refine wp_aload_n (n := 15) dX9_transferBlock_14 rfl rfl ?_
  refine wp_getf (n := 18) dX9_transferBlock_15 rfl flX9_39 (by repeat first | assumption | exact ax_set_self _ _ _ | exact ax_newA_self _ _ _ | refine (ax_set_ne _ _ (by omega)).trans ?_ | refine (ax_newA_ne _ _ _ (by omega)).trans ?_) (by rfl) ?_
  refine wp_iload_n (n := 19) dX9_transferBlock_18 rfl rfl ?_
  refine wp_iload_n (n := 20) dX9_transferBlock_19 rfl rfl ?_
  refine wp_iload_n (n := 21) dX9_transferBlock_20 rfl rfl ?_
  refine wp_callV3 (n := 24) (rm' := (3, 70, 0, 0)) rfl dX9_transferBlock_21 rfl mlX9_163 (by repeat first | assumption | exact ax_set_self _ _ _ | exact ax_newA_self _ _ _ | refine (ax_set_ne _ _ (by omega)).trans ?_ | refine (ax_newA_ne _ _ _ (by omega)).trans ?_) rfl rfl rfl rfl rfl ?_
  refine s_X5_moveBlock hL0 hA hn hh he hi (by omega) (fun r r1 r2 => ?_) (fun a1 a2 a3 h3 bk3 pk3 f3 z3 hL3 b3 => ?_)
  · show WP Γ _ _ _ _ _ _ _
    exact wp_ireturn dX9_transferBlock_24 rfl rfl (k0 i j hi hj rfl rfl q9 r r1 r2)
  · show WP Γ _ _ _ _ _ _ _
    exact wp_ireturn dX9_transferBlock_24 rfl rfl (k i j hi hj rfl rfl q9 a1 a2 a3 h3 bk3 pk3 f3 z3 hL3 b3)
theorem s_X9_reverse  (hF : FacC h p b D er) (hL : LedP h b np qu ra re le ln nb pl tm ne rw bk nh hw nc cw t y pk) (hA : Γ.2.1 ≤ b) (hn : nb ≤ 200) (hp : np ≤ 8) (hh : nh ≤ 60) (he : ne ≤ 300) (hfr : ∀ e, e < ne → ∃ j, rw (e * 7 + 0) = nI j ∧ j < np)
    (k1 : inN x ne = false → ∀ n', h.1 ≤ n' → Q (.inr IOB) (n', h.2))
    (k0 : ∀ e j r h', e < ne → x = nI e → rw (e * 7 + 0) = nI j → j < np → LedAt h' b np qu ra re le ln nb pl tm ne rw bk nh hw nc cw t y → ax_fr b (b + 19) h h' → ((300 ≤ ne ∧ r = -2) ∨ (¬ 300 ≤ ne ∧ ¬ (rw (e * 7 + 5) = 0 ∧ rw (e * 7 + 6) = -1) ∧ r = -5) ∨ (¬ 300 ≤ ne ∧ rw (e * 7 + 5) = 0 ∧ rw (e * 7 + 6) = -1 ∧ ¬ inAll pl nb bk e (rw (e * 7 + 1)) ∧ r = -6) ∨ (¬ 300 ≤ ne ∧ rw (e * 7 + 5) = 0 ∧ rw (e * 7 + 6) = -1 ∧ inAll pl nb bk e (rw (e * 7 + 1)) ∧ r = obs qu pl nb hw nh (rw (e * 7 + 1)) j (rw (e * 7 + 2)) 0 ∧ ¬ r = 0 ∧ r < 0)) → Q (.inl (some (.int r))) h')
    (k : ∀ e j, e < ne → x = nI e → rw (e * 7 + 0) = nI j → j < np → ne < 300 → rw (e * 7 + 5) = 0 → rw (e * 7 + 6) = -1 → inAll pl nb bk e (rw (e * 7 + 1)) → obs qu pl nb hw nh (rw (e * 7 + 1)) j (rw (e * 7 + 2)) 0 = 0 → ∀ h' bk' pk', ax_fr b (b + 19) h h' → (∀ d, d < 200 → pk' d = bI (blk bk e d)) → LedP h' b np qu ra re le ln nb (putF pl nb pk' (nI j)) (putF tm nb pk' t) (ne + 1) (upd (upd (upd7 rw ne (rw (e * 7 + 1)) (nI j) (rw (e * 7 + 2)) (rw (e * 7 + 3)) t (nI 1) (-1)) (e * 7 + 6) (nI ne)) (ne * 7 + 6) (nI e)) bk' nh hw nc cw t y pk' → bokB bk bk' ne pk' → Q (.inl (some (.int (nI ne)))) h') : WP Γ MX9_reverse (7, 116, 1, 6) 0 [some (.ref p), some (.int x)] [] h Q := by
  have hF0 := hF
  unfold FacC at hF
  have hL0 := hL
  obtain ⟨hO, hP, hM, hJ, hR, hC, su, hS⟩ := hL
  have hP1 := hP.1
  have hM1 := hM.1
  have hJ1 := hJ.1
  have hR1 := hR.1
  have hC1 := hC.1
  have hP2 := hP.2.1
  have hP3 := hP.2.2.1
  have hP4 := hP.2.2.2.1
  have hM2 := hM.2.1
  have hM3 := hM.2.2.1
  have hM4 := hM.2.2.2
  refine wp_aload_n (n := 1) dX9_reverse_0 rfl rfl ?_
  refine wp_iload_n (n := 2) dX9_reverse_1 rfl rfl ?_
  refine wp_callV1 (n := 5) (rm' := (6, 95, 1, 6)) rfl dX9_reverse_2 rfl mlX9_167 (by repeat first | assumption | exact ax_set_self _ _ _ | exact ax_newA_self _ _ _ | refine (ax_set_ne _ _ (by omega)).trans ?_ | refine (ax_newA_ne _ _ _ (by omega)).trans ?_) rfl rfl rfl rfl rfl ?_
  refine s_X9_needEntry hF0 hL0 he k1 (fun e hen e1 => ?_)
  show WP Γ _ _ _ _ _ _ _
  subst e1
  obtain ⟨j, hj1, hj2⟩ := hfr e hen
  refine wp_aload_n (n := 6) dX9_reverse_5 rfl rfl ?_
  refine wp_getf (n := 9) dX9_reverse_6 rfl flX9_39 (by repeat first | assumption | exact ax_set_self _ _ _ | exact ax_newA_self _ _ _ | refine (ax_set_ne _ _ (by omega)).trans ?_ | refine (ax_newA_ne _ _ _ (by omega)).trans ?_) (by rfl) ?_
  refine wp_iload_n (n := 10) dX9_reverse_9 rfl rfl ?_
  refine wp_callV1 (n := 13) (rm' := (3, 70, 0, 0)) rfl dX9_reverse_10 rfl mlX9_170 (by repeat first | assumption | exact ax_set_self _ _ _ | exact ax_newA_self _ _ _ | refine (ax_set_ne _ _ (by omega)).trans ?_ | refine (ax_newA_ne _ _ _ (by omega)).trans ?_) rfl rfl rfl rfl rfl ?_
  refine s_X5_moveBack hL0 hA hn hh he hen hj1 (by omega) (fun r h3 hL3 f3 c3 => ?_) (fun a1 a2 a3 a4 a5 h3 bk3 pk3 f3 z3 hL3 b3 => ?_)
  · show WP Γ _ _ _ _ _ _ _
    exact wp_ireturn dX9_reverse_13 rfl rfl (k0 e j r h3 hen rfl hj1 hj2 hL3 f3 c3)
  · show WP Γ _ _ _ _ _ _ _
    exact wp_ireturn dX9_reverse_13 rfl rfl (k e j hen rfl hj1 hj2 a1 a2 a3 a4 a5 h3 bk3 pk3 f3 z3 hL3 b3)
theorem s_X9_commit  (hF : FacC h p b D er) (hL : LedP h b np qu ra re le ln nb pl tm ne rw bk nh hw nc cw t y pk) (hA : Γ.2.1 ≤ b) (hn : nb ≤ 200) (hp : np ≤ 8) (hh : nh ≤ 60) (he : ne ≤ 300) (hy : y ≤ 3) (ht : ∀ d, d < nb → 0 ≤ tm d) (hrs : ∀ r, r < nh → ∃ j m, hw (r * 5 + 1) = nI j ∧ j < np ∧ hw (r * 5 + 2) = nI m ∧ m ≤ 200)
    (k1 : inN x nh = false → ∀ n', h.1 ≤ n' → Q (.inr IOB) (n', h.2)) (k2 : inN x nh = true → inI z 0 9 = false → ∀ n', h.1 ≤ n' → Q (.inr IAE) (n', h.2))
    (k0 : ∀ r j m, r < nh → x = nI r → hw (r * 5 + 1) = nI j → j < np → hw (r * 5 + 2) = nI m → m ≤ 200 → inI z 0 9 = true → ∀ u, u = (if pend hw r = true then (if 300 ≤ ne then -2 else obs qu pl nb hw nh (hw (r * 5 + 0)) j (nI m) (nI m)) else -5) → u < 0 → Q (.inl (some (.int u))) h)
    (k : ∀ r j m, r < nh → x = nI r → hw (r * 5 + 1) = nI j → j < np → hw (r * 5 + 2) = nI m → m ≤ 200 → inI z 0 9 = true → pend hw r = true → ne < 300 → obs qu pl nb hw nh (hw (r * 5 + 0)) j (nI m) (nI m) = 0 → ∀ h' bk' pk', ax_fr b (b + 19) h h' → (∀ d, d < 200 → pk' d = bI (selW y pl tm nb (hw (r * 5 + 0)) m d)) → LedP h' b np qu ra re le ln nb (putF pl nb pk' (nI j)) (putF tm nb pk' t) (ne + 1) (upd7 rw ne (hw (r * 5 + 0)) (nI j) (nI m) z t 0 (-1)) bk' nh (upd hw (r * 5 + 4) (nI 1)) nc cw t y pk' → bokB bk bk' ne pk' → Q (.inl (some (.int (nI ne)))) h') : WP Γ MX9_commit (7, 116, 2, 12) 0 [some (.ref p), some (.int x), some (.int z)] [] h Q := by
  have hF0 := hF
  unfold FacC at hF
  have hL0 := hL
  obtain ⟨hO, hP, hM, hJ, hR, hC, su, hS⟩ := hL
  have hP1 := hP.1
  have hM1 := hM.1
  have hJ1 := hJ.1
  have hR1 := hR.1
  have hC1 := hC.1
  have hP2 := hP.2.1
  have hP3 := hP.2.2.1
  have hP4 := hP.2.2.2.1
  have hM2 := hM.2.1
  have hM3 := hM.2.2.1
  have hM4 := hM.2.2.2
  refine wp_aload_n (n := 1) dX9_commit_0 rfl rfl ?_
  refine wp_iload_n (n := 2) dX9_commit_1 rfl rfl ?_
  refine wp_callV1 (n := 5) (rm' := (6, 95, 1, 6)) rfl dX9_commit_2 rfl mlX9_190 (by repeat first | assumption | exact ax_set_self _ _ _ | exact ax_newA_self _ _ _ | refine (ax_set_ne _ _ (by omega)).trans ?_ | refine (ax_newA_ne _ _ _ (by omega)).trans ?_) rfl rfl rfl rfl rfl ?_
  refine s_X9_needReservation hF0 hL0 hh k1 (fun r hr e1 => ?_)
  show WP Γ _ _ _ _ _ _ _
  subst e1
  obtain ⟨j, m, hj1, hj2, hm1, hm2⟩ := hrs r hr
  refine wp_iload_n (n := 6) dX9_commit_5 rfl rfl ?_
  refine wp_callS1 (n := 9) (rm' := (6, 95, 1, 6)) rfl dX9_commit_6 rfl mlX9_153 rfl rfl rfl rfl ?_
  refine s_X9_needReason (k2 (inN_of hr (by omega))) (fun q9 => ?_)
  show WP Γ _ _ _ _ _ _ _
  refine wp_aload_n (n := 10) dX9_commit_9 rfl rfl ?_
  refine wp_getf (n := 13) dX9_commit_10 rfl flX9_39 (by repeat first | assumption | exact ax_set_self _ _ _ | exact ax_newA_self _ _ _ | refine (ax_set_ne _ _ (by omega)).trans ?_ | refine (ax_newA_ne _ _ _ (by omega)).trans ?_) (by rfl) ?_
  refine wp_iload_n (n := 14) dX9_commit_13 rfl rfl ?_
  refine wp_iload_n (n := 15) dX9_commit_14 rfl rfl ?_
  refine wp_callV2 (n := 18) (rm' := (3, 74, 0, 0)) rfl dX9_commit_15 rfl mlX9_193 (by repeat first | assumption | exact ax_set_self _ _ _ | exact ax_newA_self _ _ _ | refine (ax_set_ne _ _ (by omega)).trans ?_ | refine (ax_newA_ne _ _ _ (by omega)).trans ?_) rfl rfl rfl rfl rfl ?_
  refine s_X5_fulfil hL0 hA hn hh he hr hj1 (by omega) hm1 hm2 hy ht (fun r r1 r2 => ?_) (fun a1 a2 a3 h3 bk3 pk3 f3 z3 hL3 b3 => ?_)
  · show WP Γ _ _ _ _ _ _ _
    exact wp_ireturn dX9_commit_18 rfl rfl (k0 _ j m hr rfl hj1 hj2 hm1 hm2 q9 r r1 r2)
  · show WP Γ _ _ _ _ _ _ _
    exact wp_ireturn dX9_commit_18 rfl rfl (k r j m hr rfl hj1 hj2 hm1 hm2 q9 a1 a2 a3 h3 bk3 pk3 f3 z3 hL3 b3)
theorem s_X9_release  (hF : FacC h p b D er) (hL : LedP h b np qu ra re le ln nb pl tm ne rw bk nh hw nc cw t y pk) (hA : Γ.2.1 ≤ b) (hh : nh ≤ 60)
    (k1 : inN x nh = false → ∀ n', h.1 ≤ n' → Q (.inr IOB) (n', h.2))
    (k0 : ∀ r, r < nh → x = nI r → pend hw r = false → Q (.inl (some (.int (-5)))) h)
    (k : ∀ r, r < nh → x = nI r → pend hw r = true → ∀ h', ax_fr b (b + 19) h h' → LedP h' b np qu ra re le ln nb pl tm ne rw bk nh (upd hw (r * 5 + 4) (nI 2)) nc cw t y pk → Q (.inl (some (.int (nI (cntB (pend (upd hw (r * 5 + 4) (nI 2))) nh))))) h') : WP Γ MX9_release (7, 116, 1, 6) 0 [some (.ref p), some (.int x)] [] h Q := by
  have hF0 := hF
  unfold FacC at hF
  have hL0 := hL
  obtain ⟨hO, hP, hM, hJ, hR, hC, su, hS⟩ := hL
  have hP1 := hP.1
  have hM1 := hM.1
  have hJ1 := hJ.1
  have hR1 := hR.1
  have hC1 := hC.1
  have hP2 := hP.2.1
  have hP3 := hP.2.2.1
  have hP4 := hP.2.2.2.1
  have hM2 := hM.2.1
  have hM3 := hM.2.2.1
  have hM4 := hM.2.2.2
  refine wp_aload_n (n := 1) dX9_release_0 rfl rfl ?_
  refine wp_iload_n (n := 2) dX9_release_1 rfl rfl ?_
  refine wp_callV1 (n := 5) (rm' := (6, 95, 1, 6)) rfl dX9_release_2 rfl mlX9_190 (by repeat first | assumption | exact ax_set_self _ _ _ | exact ax_newA_self _ _ _ | refine (ax_set_ne _ _ (by omega)).trans ?_ | refine (ax_newA_ne _ _ _ (by omega)).trans ?_) rfl rfl rfl rfl rfl ?_
  refine s_X9_needReservation hF0 hL0 hh k1 (fun r hr e1 => ?_)
  show WP Γ _ _ _ _ _ _ _
  subst e1
  refine wp_aload_n (n := 6) dX9_release_5 rfl rfl ?_
  refine wp_getf (n := 9) dX9_release_6 rfl flX9_39 (by repeat first | assumption | exact ax_set_self _ _ _ | exact ax_newA_self _ _ _ | refine (ax_set_ne _ _ (by omega)).trans ?_ | refine (ax_newA_ne _ _ _ (by omega)).trans ?_) (by rfl) ?_
  refine wp_getf (n := 12) dX9_release_9 rfl flX9_196 (by repeat first | assumption | exact ax_set_self _ _ _ | exact ax_newA_self _ _ _ | refine (ax_set_ne _ _ (by omega)).trans ?_ | refine (ax_newA_ne _ _ _ (by omega)).trans ?_) (by rfl) ?_
  refine wp_iload_n (n := 13) dX9_release_12 rfl rfl ?_
  refine wp_callV1 (n := 16) (rm' := (3, 65, 0, 0)) rfl dX9_release_13 rfl mlX9_200 (by repeat first | assumption | exact ax_set_self _ _ _ | exact ax_newA_self _ _ _ | refine (ax_set_ne _ _ (by omega)).trans ?_ | refine (ax_newA_ne _ _ _ (by omega)).trans ?_) rfl rfl rfl rfl rfl ?_
  refine s_X7_drop hR (by omega) hh hr (fun q => ?_) (fun q h3 f3 hR3 => ?_)
  · show WP Γ _ _ _ _ _ _ _
    exact wp_ireturn dX9_release_16 rfl rfl (k0 r hr rfl q)
  · show WP Γ _ _ _ _ _ _ _
    exact wp_ireturn dX9_release_16 rfl rfl (k r hr rfl q h3 (f3.to (by omega)) (hL0.res f3 hR3))
theorem s_X9_extend  (hF : FacC h p b D er) (hL : LedP h b np qu ra re le ln nb pl tm ne rw bk nh hw nc cw t y pk) (hA : Γ.2.1 ≤ b) (hh : nh ≤ 60)
    (k1 : inN x nh = false → ∀ n', h.1 ≤ n' → Q (.inr IOB) (n', h.2)) (k2 : inN x nh = true → inI z 1 1000 = false → ∀ n', h.1 ≤ n' → Q (.inr IAE) (n', h.2))
    (k0 : ∀ r, r < nh → x = nI r → inI z 1 1000 = true → pend hw r = false → Q (.inl (some (.int (-5)))) h)
    (k : ∀ r m, r < nh → x = nI r → 1 ≤ m → m ≤ 1000 → z = nI m → pend hw r = true → ∀ h', ax_fr b (b + 19) h h' → LedP h' b np qu ra re le ln nb pl tm ne rw bk nh (upd hw (r * 5 + 3) (hw (r * 5 + 3) + nI m)) nc cw t y pk → Q (.inl (some (.int (hw (r * 5 + 3) + nI m)))) h') : WP Γ MX9_extend (7, 116, 2, 12) 0 [some (.ref p), some (.int x), some (.int z)] [] h Q := by
  have hF0 := hF
  unfold FacC at hF
  have hL0 := hL
  obtain ⟨hO, hP, hM, hJ, hR, hC, su, hS⟩ := hL
  have hP1 := hP.1
  have hM1 := hM.1
  have hJ1 := hJ.1
  have hR1 := hR.1
  have hC1 := hC.1
  have hP2 := hP.2.1
  have hP3 := hP.2.2.1
  have hP4 := hP.2.2.2.1
  have hM2 := hM.2.1
  have hM3 := hM.2.2.1
  have hM4 := hM.2.2.2
  refine wp_aload_n (n := 1) dX9_extend_0 rfl rfl ?_
  refine wp_iload_n (n := 2) dX9_extend_1 rfl rfl ?_
  refine wp_callV1 (n := 5) (rm' := (6, 95, 1, 6)) rfl dX9_extend_2 rfl mlX9_190 (by repeat first | assumption | exact ax_set_self _ _ _ | exact ax_newA_self _ _ _ | refine (ax_set_ne _ _ (by omega)).trans ?_ | refine (ax_newA_ne _ _ _ (by omega)).trans ?_) rfl rfl rfl rfl rfl ?_
  refine s_X9_needReservation hF0 hL0 hh k1 (fun r hr e1 => ?_)
  show WP Γ _ _ _ _ _ _ _
  subst e1
  refine wp_iload_n (n := 6) dX9_extend_5 rfl rfl ?_
  refine wp_callS1 (n := 9) (rm' := (6, 95, 1, 6)) rfl dX9_extend_6 rfl mlX9_140 rfl rfl rfl rfl ?_
  refine s_X9_needTicks (k2 (inN_of hr (by omega))) (fun m h1 h2 e => ?_)
  show WP Γ _ _ _ _ _ _ _
  subst e
  refine wp_aload_n (n := 10) dX9_extend_9 rfl rfl ?_
  refine wp_getf (n := 13) dX9_extend_10 rfl flX9_39 (by repeat first | assumption | exact ax_set_self _ _ _ | exact ax_newA_self _ _ _ | refine (ax_set_ne _ _ (by omega)).trans ?_ | refine (ax_newA_ne _ _ _ (by omega)).trans ?_) (by rfl) ?_
  refine wp_getf (n := 16) dX9_extend_13 rfl flX9_196 (by repeat first | assumption | exact ax_set_self _ _ _ | exact ax_newA_self _ _ _ | refine (ax_set_ne _ _ (by omega)).trans ?_ | refine (ax_newA_ne _ _ _ (by omega)).trans ?_) (by rfl) ?_
  refine wp_iload_n (n := 17) dX9_extend_16 rfl rfl ?_
  refine wp_iload_n (n := 18) dX9_extend_17 rfl rfl ?_
  refine wp_callV2 (n := 21) (rm' := (2, 43, 0, 0)) rfl dX9_extend_18 rfl mlX9_205 (by repeat first | assumption | exact ax_set_self _ _ _ | exact ax_newA_self _ _ _ | refine (ax_set_ne _ _ (by omega)).trans ?_ | refine (ax_newA_ne _ _ _ (by omega)).trans ?_) rfl rfl rfl rfl rfl ?_
  refine s_X7_prolong hR (by omega) (by omega) (fun q => ?_) (fun q h3 f3 hR3 => ?_)
  · show WP Γ _ _ _ _ _ _ _
    exact wp_ireturn dX9_extend_21 rfl rfl (k0 r hr rfl (inI_of h1 h2 (by omega)) q)
  · show WP Γ _ _ _ _ _ _ _
    exact wp_ireturn dX9_extend_21 rfl rfl (k r m hr rfl h1 h2 rfl q h3 (f3.to (by omega)) (hL0.res f3 hR3))
theorem s_X9_wouldPick  (hF : FacC h p b D er) (hL : LedP h b np qu ra re le ln nb pl tm ne rw bk nh hw nc cw t y pk) (hpb : p + 1 ≤ b) (hA : Γ.2.1 ≤ b) (hn : nb ≤ 200) (hp : np ≤ 8) (hh : nh ≤ 60) (he : ne ≤ 300) (hy : y ≤ 3) (ht : ∀ d, d < nb → 0 ≤ tm d)
    (k1 : inN x np = false → ∀ n', h.1 ≤ n' → Q (.inr IOB) (n', h.2)) (k2 : inN x np = true → inI z 1 200 = false → ∀ n', h.1 ≤ n' → Q (.inr IAE) (n', h.2))
    (k0 : ∀ j m, j < np → x = nI j → 1 ≤ m → m ≤ 200 → z = nI m → cnt pl (nI j) nb < m → Q (.inl (some (.int (-1)))) h)
    (k : ∀ j m, j < np → x = nI j → 1 ≤ m → m ≤ 200 → z = nI m → m ≤ cnt pl (nI j) nb → ∀ h' pk', ax_fr b (b + 19) h h' → (∀ d, d < 200 → pk' d = bI (selW y pl tm nb (nI j) m d)) → LedP h' b np qu ra re le ln nb pl tm ne rw bk nh hw nc cw t y pk' → Q (.inl (some (.int (nthR (fun d => decide (¬ pk' d = 0)) w nb 0 0)))) h') : WP Γ MX9_wouldPick (7, 116, 2, 12) 0 [some (.ref p), some (.int x), some (.int z), some (.int w)] [] h Q := by
  have hF0 := hF
  unfold FacC at hF
  have hL0 := hL
  obtain ⟨hO, hP, hM, hJ, hR, hC, su, hS⟩ := hL
  have hP1 := hP.1
  have hM1 := hM.1
  have hJ1 := hJ.1
  have hR1 := hR.1
  have hC1 := hC.1
  have hP2 := hP.2.1
  have hP3 := hP.2.2.1
  have hP4 := hP.2.2.2.1
  have hM2 := hM.2.1
  have hM3 := hM.2.2.1
  have hM4 := hM.2.2.2
  have c1 := fun x => cnt_le pl x nb
  refine wp_aload_n (n := 1) dX9_wouldPick_0 rfl rfl ?_
  refine wp_iload_n (n := 2) dX9_wouldPick_1 rfl rfl ?_
  refine wp_callV1 (n := 5) (rm' := (6, 95, 1, 6)) rfl dX9_wouldPick_2 rfl mlX9_125 (by repeat first | assumption | exact ax_set_self _ _ _ | exact ax_newA_self _ _ _ | refine (ax_set_ne _ _ (by omega)).trans ?_ | refine (ax_newA_ne _ _ _ (by omega)).trans ?_) rfl rfl rfl rfl rfl ?_
  refine s_X9_needPool hF0 hL0 hp k1 (fun j hj e1 => ?_)
  show WP Γ _ _ _ _ _ _ _
  subst e1
  have c1 := c1 (nI j)
  refine wp_iload_n (n := 6) dX9_wouldPick_5 rfl rfl ?_
  refine wp_callS1 (n := 9) (rm' := (6, 95, 1, 6)) rfl dX9_wouldPick_6 rfl mlX9_150 rfl rfl rfl rfl ?_
  refine s_X9_needCount (k2 (inN_of hj (by omega))) (fun m h1 h2 e => ?_)
  show WP Γ _ _ _ _ _ _ _
  subst e
  refine wp_aload_n (n := 10) dX9_wouldPick_9 rfl rfl ?_
  refine wp_getf (n := 13) dX9_wouldPick_10 rfl flX9_39 (by repeat first | assumption | exact ax_set_self _ _ _ | exact ax_newA_self _ _ _ | refine (ax_set_ne _ _ (by omega)).trans ?_ | refine (ax_newA_ne _ _ _ (by omega)).trans ?_) (by rfl) ?_
  refine wp_getf (n := 16) dX9_wouldPick_13 rfl flX9_118 (by repeat first | assumption | exact ax_set_self _ _ _ | exact ax_newA_self _ _ _ | refine (ax_set_ne _ _ (by omega)).trans ?_ | refine (ax_newA_ne _ _ _ (by omega)).trans ?_) (by rfl) ?_
  refine wp_iload_n (n := 17) dX9_wouldPick_16 rfl rfl ?_
  refine wp_callV1 (n := 20) (rm' := (0, 0, 0, 0)) rfl dX9_wouldPick_17 rfl mlX9_225 (by repeat first | assumption | exact ax_set_self _ _ _ | exact ax_newA_self _ _ _ | refine (ax_set_ne _ _ (by omega)).trans ?_ | refine (ax_newA_ne _ _ _ (by omega)).trans ?_) rfl rfl rfl rfl rfl ?_
  refine s_X1_countIn hM hn ?_
  show WP Γ _ _ _ _ _ _ _
  refine wp_iload_n (n := 21) dX9_wouldPick_20 rfl rfl ?_
  refine wp_icmp_ge (t := 26) (n := 24) dX9_wouldPick_21 (by decide) rfl (fun hc => ?_) (fun hc => ?_)
  · rw [nI_le9 (by omega) (by omega)] at hc
    refine wp_aload_n (n := 27) dX9_wouldPick_26 rfl rfl ?_
    refine wp_getf (n := 30) dX9_wouldPick_27 rfl flX9_39 (by repeat first | assumption | exact ax_set_self _ _ _ | exact ax_newA_self _ _ _ | refine (ax_set_ne _ _ (by omega)).trans ?_ | refine (ax_newA_ne _ _ _ (by omega)).trans ?_) (by rfl) ?_
    refine wp_getf (n := 33) dX9_wouldPick_30 rfl flX9_118 (by repeat first | assumption | exact ax_set_self _ _ _ | exact ax_newA_self _ _ _ | refine (ax_set_ne _ _ (by omega)).trans ?_ | refine (ax_newA_ne _ _ _ (by omega)).trans ?_) (by rfl) ?_
    refine wp_aload_n (n := 34) dX9_wouldPick_33 rfl rfl ?_
    refine wp_getf (n := 37) dX9_wouldPick_34 rfl flX9_39 (by repeat first | assumption | exact ax_set_self _ _ _ | exact ax_newA_self _ _ _ | refine (ax_set_ne _ _ (by omega)).trans ?_ | refine (ax_newA_ne _ _ _ (by omega)).trans ?_) (by rfl) ?_
    refine wp_getf (n := 40) dX9_wouldPick_37 rfl flX9_134 (by repeat first | assumption | exact ax_set_self _ _ _ | exact ax_newA_self _ _ _ | refine (ax_set_ne _ _ (by omega)).trans ?_ | refine (ax_newA_ne _ _ _ (by omega)).trans ?_) (by rfl) ?_
    refine wp_iload_n (n := 41) dX9_wouldPick_40 rfl rfl ?_
    refine wp_iload_n (n := 42) dX9_wouldPick_41 rfl rfl ?_
    refine wp_callV3 (n := 45) (rm' := (2, 51, 0, 0)) rfl dX9_wouldPick_42 rfl mlX9_239 (by repeat first | assumption | exact ax_set_self _ _ _ | exact ax_newA_self _ _ _ | refine (ax_set_ne _ _ (by omega)).trans ?_ | refine (ax_newA_ne _ _ _ (by omega)).trans ?_) rfl rfl rfl rfl rfl ?_
    refine s_X1_pick hM (by omega) hn h2 hy ht (fun h3 pk3 f3 hM9 z3 => ?_)
    show WP Γ _ _ _ _ _ _ _
    have hL3 := hL0.map f3 hM9
    have hF := f3.get hF (by omega)
    have hL0 := hL3
    obtain ⟨hO, hP, hM, hJ, hR, hC, su, hS⟩ := hL3
    have hP1 := hP.1
    have hM1 := hM.1
    have hJ1 := hJ.1
    have hR1 := hR.1
    have hC1 := hC.1
    have hP2 := hP.2.1
    have hP3 := hP.2.2.1
    have hP4 := hP.2.2.2.1
    have hM2 := hM.2.1
    have hM3 := hM.2.2.1
    have hM4 := hM.2.2.2
    refine wp_aload_n (n := 46) dX9_wouldPick_45 rfl rfl ?_
    refine wp_getf (n := 49) dX9_wouldPick_46 rfl flX9_39 (by repeat first | assumption | exact ax_set_self _ _ _ | exact ax_newA_self _ _ _ | refine (ax_set_ne _ _ (by omega)).trans ?_ | refine (ax_newA_ne _ _ _ (by omega)).trans ?_) (by rfl) ?_
    refine wp_getf (n := 52) dX9_wouldPick_49 rfl flX9_118 (by repeat first | assumption | exact ax_set_self _ _ _ | exact ax_newA_self _ _ _ | refine (ax_set_ne _ _ (by omega)).trans ?_ | refine (ax_newA_ne _ _ _ (by omega)).trans ?_) (by rfl) ?_
    refine wp_iload_n (n := 53) dX9_wouldPick_52 rfl rfl ?_
    refine wp_callV1 (n := 56) (rm' := (0, 0, 0, 0)) rfl dX9_wouldPick_53 rfl mlX9_243 (by repeat first | assumption | exact ax_set_self _ _ _ | exact ax_newA_self _ _ _ | refine (ax_set_ne _ _ (by omega)).trans ?_ | refine (ax_newA_ne _ _ _ (by omega)).trans ?_) rfl rfl rfl rfl rfl ?_
    refine s_X1_pickedAt hM hn ?_
    show WP Γ _ _ _ _ _ _ _
    exact wp_ireturn dX9_wouldPick_56 rfl rfl (k j m hj rfl h1 h2 rfl hc h3 pk3 (f3.to (by omega)) z3 hL0)
  · rw [nI_le9 (by omega) (by omega)] at hc
    refine wp_iconst (n := 25) (v := (-1)) dX9_wouldPick_24 rfl (by decide) ?_
    exact wp_ireturn dX9_wouldPick_25 rfl rfl (k0 j m hj rfl h1 h2 rfl (by omega))
theorem s_X9_swap  (hF : FacC h p b D er) (hL : LedP h b np qu ra re le ln nb pl tm ne rw bk nh hw nc cw t y pk) (hA : Γ.2.1 ≤ b) (hn : nb ≤ 200)
    (k1 : (inN x nb && inN z nb) = false → ∀ n', h.1 ≤ n' → Q (.inr IOB) (n', h.2)) (k2 : (inN x nb && inN z nb) = true → x = z → ∀ n', h.1 ≤ n' → Q (.inr IAE) (n', h.2))
    (k : ∀ i j, i < nb → j < nb → x = nI i → z = nI j → ¬ i = j → ∀ h', ax_fr b (b + 19) h h' → LedP h' b np qu ra re le ln nb (upd (upd pl i (pl j)) j (pl i)) (upd (upd tm i (tm j)) j (tm i)) ne rw bk nh hw nc cw t y pk → Q (.inl (some (.int (bI (decide (¬ upd (upd pl i (pl j)) j (pl i) i = pl i)))))) h') : WP Γ MX9_swap (7, 116, 3, 18) 0 [some (.ref p), some (.int x), some (.int z)] [] h Q := by
  have hF0 := hF
  unfold FacC at hF
  have hL0 := hL
  obtain ⟨hO, hP, hM, hJ, hR, hC, su, hS⟩ := hL
  have hP1 := hP.1
  have hM1 := hM.1
  have hJ1 := hJ.1
  have hR1 := hR.1
  have hC1 := hC.1
  have hP2 := hP.2.1
  have hP3 := hP.2.2.1
  have hP4 := hP.2.2.2.1
  have hM2 := hM.2.1
  have hM3 := hM.2.2.1
  have hM4 := hM.2.2.2
  refine wp_aload_n (n := 1) dX9_swap_0 rfl rfl ?_
  refine wp_iload_n (n := 2) dX9_swap_1 rfl rfl ?_
  refine wp_callV1 (n := 5) (rm' := (6, 95, 1, 6)) rfl dX9_swap_2 rfl mlX9_160 (by repeat first | assumption | exact ax_set_self _ _ _ | exact ax_newA_self _ _ _ | refine (ax_set_ne _ _ (by omega)).trans ?_ | refine (ax_newA_ne _ _ _ (by omega)).trans ?_) rfl rfl rfl rfl rfl ?_
  refine s_X9_needBlock hF0 hL0 hn (fun q => k1 (by rw [q]; simp)) (fun i hi e1 => ?_)
  show WP Γ _ _ _ _ _ _ _
  refine wp_aload_n (n := 6) dX9_swap_5 rfl rfl ?_
  refine wp_iload_n (n := 7) dX9_swap_6 rfl rfl ?_
  refine wp_callV1 (n := 10) (rm' := (6, 95, 1, 6)) rfl dX9_swap_7 rfl mlX9_160 (by repeat first | assumption | exact ax_set_self _ _ _ | exact ax_newA_self _ _ _ | refine (ax_set_ne _ _ (by omega)).trans ?_ | refine (ax_newA_ne _ _ _ (by omega)).trans ?_) rfl rfl rfl rfl rfl ?_
  refine s_X9_needBlock hF0 hL0 hn (fun q => k1 (by rw [q]; simp)) (fun j hj e2 => ?_)
  show WP Γ _ _ _ _ _ _ _
  subst e1
  subst e2
  refine wp_iload_n (n := 11) dX9_swap_10 rfl rfl ?_
  refine wp_iload_n (n := 12) dX9_swap_11 rfl rfl ?_
  refine wp_icmp_ne (t := 25) (n := 15) dX9_swap_12 (by decide) rfl (fun hc => ?_) (fun hc => ?_)
  · refine wp_aload_n (n := 26) dX9_swap_25 rfl rfl ?_
    refine wp_getf (n := 29) dX9_swap_26 rfl flX9_39 (by repeat first | assumption | exact ax_set_self _ _ _ | exact ax_newA_self _ _ _ | refine (ax_set_ne _ _ (by omega)).trans ?_ | refine (ax_newA_ne _ _ _ (by omega)).trans ?_) (by rfl) ?_
    refine wp_getf (n := 32) dX9_swap_29 rfl flX9_118 (by repeat first | assumption | exact ax_set_self _ _ _ | exact ax_newA_self _ _ _ | refine (ax_set_ne _ _ (by omega)).trans ?_ | refine (ax_newA_ne _ _ _ (by omega)).trans ?_) (by rfl) ?_
    refine wp_iload_n (n := 33) dX9_swap_32 rfl rfl ?_
    refine wp_iload_n (n := 34) dX9_swap_33 rfl rfl ?_
    refine wp_callV2 (n := 37) (rm' := (1, 23, 0, 0)) rfl dX9_swap_34 rfl mlX9_254 (by repeat first | assumption | exact ax_set_self _ _ _ | exact ax_newA_self _ _ _ | refine (ax_set_ne _ _ (by omega)).trans ?_ | refine (ax_newA_ne _ _ _ (by omega)).trans ?_) rfl rfl rfl rfl rfl ?_
    refine s_X1_exchange hM (by omega) (by omega) (by omega) (fun h3 f3 hM9 => ?_)
    show WP Γ _ _ _ _ _ _ _
    refine wp_ireturn dX9_swap_37 rfl (by cases decide (¬ upd (upd pl i (pl j)) j (pl i) i = pl i) <;> rfl) (k i j hi hj rfl rfl (fun q => hc (by rw [q])) h3 (f3.to (by omega)) (hL0.map f3 hM9))
  · exact wp_throwS 23 rfl dX9_swap_15 dX9_swap_18 dX9_swap_19 dX9_swap_21 dX9_swap_24 rfl (by decide) (by decide) clX9_54 ax_iaei atX9_58 agX9_58 ax_nw rfl rfl (by decide) (by decide) (k2 (by rw [inN_of hi (by omega), inN_of hj (by omega)]; rfl) hc)
theorem s_X9_corrupt  (hF : FacC h p b D er) (hL : LedP h b np qu ra re le ln nb pl tm ne rw bk nh hw nc cw t y pk) (hA : Γ.2.1 ≤ b) (hn : nb ≤ 200) (hp : np ≤ 8)
    (k1 : (inN x nb && inN z np) = false → ∀ n', h.1 ≤ n' → Q (.inr IOB) (n', h.2))
    (k : ∀ i j, i < nb → j < np → x = nI i → z = nI j → ∀ h', ax_fr b (b + 19) h h' → LedP h' b np qu ra re le ln nb (upd pl i (nI j)) (upd tm i t) ne rw bk nh hw nc cw t y pk → Q (.inl (some (.int (pl i)))) h') : WP Γ MX9_corrupt (7, 116, 2, 12) 0 [some (.ref p), some (.int x), some (.int z), none] [] h Q := by
  have hF0 := hF
  unfold FacC at hF
  have hL0 := hL
  obtain ⟨hO, hP, hM, hJ, hR, hC, su, hS⟩ := hL
  have hP1 := hP.1
  have hM1 := hM.1
  have hJ1 := hJ.1
  have hR1 := hR.1
  have hC1 := hC.1
  have hP2 := hP.2.1
  have hP3 := hP.2.2.1
  have hP4 := hP.2.2.2.1
  have hM2 := hM.2.1
  have hM3 := hM.2.2.1
  have hM4 := hM.2.2.2
  refine wp_aload_n (n := 1) dX9_corrupt_0 rfl rfl ?_
  refine wp_iload_n (n := 2) dX9_corrupt_1 rfl rfl ?_
  refine wp_callV1 (n := 5) (rm' := (6, 95, 1, 6)) rfl dX9_corrupt_2 rfl mlX9_160 (by repeat first | assumption | exact ax_set_self _ _ _ | exact ax_newA_self _ _ _ | refine (ax_set_ne _ _ (by omega)).trans ?_ | refine (ax_newA_ne _ _ _ (by omega)).trans ?_) rfl rfl rfl rfl rfl ?_
  refine s_X9_needBlock hF0 hL0 hn (fun q => k1 (by rw [q]; simp)) (fun i hi e1 => ?_)
  show WP Γ _ _ _ _ _ _ _
  refine wp_aload_n (n := 6) dX9_corrupt_5 rfl rfl ?_
  refine wp_iload_n (n := 7) dX9_corrupt_6 rfl rfl ?_
  refine wp_callV1 (n := 10) (rm' := (6, 95, 1, 6)) rfl dX9_corrupt_7 rfl mlX9_125 (by repeat first | assumption | exact ax_set_self _ _ _ | exact ax_newA_self _ _ _ | refine (ax_set_ne _ _ (by omega)).trans ?_ | refine (ax_newA_ne _ _ _ (by omega)).trans ?_) rfl rfl rfl rfl rfl ?_
  refine s_X9_needPool hF0 hL0 hp (fun q => k1 (by rw [q]; simp)) (fun j hj e2 => ?_)
  show WP Γ _ _ _ _ _ _ _
  subst e1
  subst e2
  refine wp_aload_n (n := 11) dX9_corrupt_10 rfl rfl ?_
  refine wp_getf (n := 14) dX9_corrupt_11 rfl flX9_39 (by repeat first | assumption | exact ax_set_self _ _ _ | exact ax_newA_self _ _ _ | refine (ax_set_ne _ _ (by omega)).trans ?_ | refine (ax_newA_ne _ _ _ (by omega)).trans ?_) (by rfl) ?_
  refine wp_getf (n := 17) dX9_corrupt_14 rfl flX9_118 (by repeat first | assumption | exact ax_set_self _ _ _ | exact ax_newA_self _ _ _ | refine (ax_set_ne _ _ (by omega)).trans ?_ | refine (ax_newA_ne _ _ _ (by omega)).trans ?_) (by rfl) ?_
  refine wp_getf (n := 20) dX9_corrupt_17 rfl flX9_231 (by repeat first | assumption | exact ax_set_self _ _ _ | exact ax_newA_self _ _ _ | refine (ax_set_ne _ _ (by omega)).trans ?_ | refine (ax_newA_ne _ _ _ (by omega)).trans ?_) (by rfl) ?_
  refine wp_iload_n (n := 21) dX9_corrupt_20 rfl rfl ?_
  refine wp_iald (n := 22) _ dX9_corrupt_21 rfl (by repeat first | assumption | exact ax_set_self _ _ _ | exact ax_newA_self _ _ _ | refine (ax_set_ne _ _ (by omega)).trans ?_ | refine (ax_newA_ne _ _ _ (by omega)).trans ?_) rfl (by omega) (by decide) ?_
  refine wp_istore_n (n := 23) dX9_corrupt_22 rfl rfl rfl rfl ?_
  refine wp_aload_n (n := 24) dX9_corrupt_23 rfl rfl ?_
  refine wp_getf (n := 27) dX9_corrupt_24 rfl flX9_39 (by repeat first | assumption | exact ax_set_self _ _ _ | exact ax_newA_self _ _ _ | refine (ax_set_ne _ _ (by omega)).trans ?_ | refine (ax_newA_ne _ _ _ (by omega)).trans ?_) (by rfl) ?_
  refine wp_getf (n := 30) dX9_corrupt_27 rfl flX9_118 (by repeat first | assumption | exact ax_set_self _ _ _ | exact ax_newA_self _ _ _ | refine (ax_set_ne _ _ (by omega)).trans ?_ | refine (ax_newA_ne _ _ _ (by omega)).trans ?_) (by rfl) ?_
  refine wp_iload_n (n := 31) dX9_corrupt_30 rfl rfl ?_
  refine wp_iload_n (n := 32) dX9_corrupt_31 rfl rfl ?_
  refine wp_aload_n (n := 33) dX9_corrupt_32 rfl rfl ?_
  refine wp_getf (n := 36) dX9_corrupt_33 rfl flX9_39 (by repeat first | assumption | exact ax_set_self _ _ _ | exact ax_newA_self _ _ _ | refine (ax_set_ne _ _ (by omega)).trans ?_ | refine (ax_newA_ne _ _ _ (by omega)).trans ?_) (by rfl) ?_
  refine wp_getf (n := 39) dX9_corrupt_36 rfl flX9_137 (by repeat first | assumption | exact ax_set_self _ _ _ | exact ax_newA_self _ _ _ | refine (ax_set_ne _ _ (by omega)).trans ?_ | refine (ax_newA_ne _ _ _ (by omega)).trans ?_) (by rfl) ?_
  refine wp_callV3 (n := 42) (rm' := (0, 0, 0, 0)) rfl dX9_corrupt_39 rfl mlX9_261 (by repeat first | assumption | exact ax_set_self _ _ _ | exact ax_newA_self _ _ _ | refine (ax_set_ne _ _ (by omega)).trans ?_ | refine (ax_newA_ne _ _ _ (by omega)).trans ?_) rfl rfl rfl rfl rfl ?_
  refine s_X1_put hM (by omega) (by omega) (fun h3 f3 hM9 => ?_)
  show WP Γ _ _ _ _ _ _ _
  refine wp_iload_n (n := 43) dX9_corrupt_42 rfl rfl ?_
  exact wp_ireturn dX9_corrupt_43 rfl rfl (k i j hi hj rfl rfl h3 (f3.to (by omega)) (hL0.map f3 hM9))
theorem s_X9_entryBlock  (hF : FacC h p b D er) (hL : LedP h b np qu ra re le ln nb pl tm ne rw bk nh hw nc cw t y pk) (hpb : p + 1 ≤ b) (hA : Γ.2.1 ≤ b) (hn : nb ≤ 200) (he : ne ≤ 300)
    (k1 : inN x ne = false → ∀ n', h.1 ≤ n' → Q (.inr IOB) (n', h.2))
    (k : ∀ e, e < ne → x = nI e → ∀ h' pk', ax_fr b (b + 19) h h' → (∀ d, d < 200 → pk' d = bI (blk bk e d)) → LedP h' b np qu ra re le ln nb pl tm ne rw bk nh hw nc cw t y pk' → Q (.inl (some (.int (nthR (fun d => decide (¬ pk' d = 0)) z nb 0 0)))) h') : WP Γ MX9_entryBlock (7, 116, 1, 6) 0 [some (.ref p), some (.int x), some (.int z)] [] h Q := by
  have hF0 := hF
  unfold FacC at hF
  have hL0 := hL
  obtain ⟨hO, hP, hM, hJ, hR, hC, su, hS⟩ := hL
  have hP1 := hP.1
  have hM1 := hM.1
  have hJ1 := hJ.1
  have hR1 := hR.1
  have hC1 := hC.1
  have hP2 := hP.2.1
  have hP3 := hP.2.2.1
  have hP4 := hP.2.2.2.1
  have hM2 := hM.2.1
  have hM3 := hM.2.2.1
  have hM4 := hM.2.2.2
  refine wp_aload_n (n := 1) dX9_entryBlock_0 rfl rfl ?_
  refine wp_iload_n (n := 2) dX9_entryBlock_1 rfl rfl ?_
  refine wp_callV1 (n := 5) (rm' := (6, 95, 1, 6)) rfl dX9_entryBlock_2 rfl mlX9_167 (by repeat first | assumption | exact ax_set_self _ _ _ | exact ax_newA_self _ _ _ | refine (ax_set_ne _ _ (by omega)).trans ?_ | refine (ax_newA_ne _ _ _ (by omega)).trans ?_) rfl rfl rfl rfl rfl ?_
  refine s_X9_needEntry hF0 hL0 he k1 (fun e hen e1 => ?_)
  show WP Γ _ _ _ _ _ _ _
  subst e1
  refine wp_aload_n (n := 6) dX9_entryBlock_5 rfl rfl ?_
  refine wp_getf (n := 9) dX9_entryBlock_6 rfl flX9_39 (by repeat first | assumption | exact ax_set_self _ _ _ | exact ax_newA_self _ _ _ | refine (ax_set_ne _ _ (by omega)).trans ?_ | refine (ax_newA_ne _ _ _ (by omega)).trans ?_) (by rfl) ?_
  refine wp_getf (n := 12) dX9_entryBlock_9 rfl flX9_264 (by repeat first | assumption | exact ax_set_self _ _ _ | exact ax_newA_self _ _ _ | refine (ax_set_ne _ _ (by omega)).trans ?_ | refine (ax_newA_ne _ _ _ (by omega)).trans ?_) (by rfl) ?_
  refine wp_iload_n (n := 13) dX9_entryBlock_12 rfl rfl ?_
  refine wp_aload_n (n := 14) dX9_entryBlock_13 rfl rfl ?_
  refine wp_getf (n := 17) dX9_entryBlock_14 rfl flX9_39 (by repeat first | assumption | exact ax_set_self _ _ _ | exact ax_newA_self _ _ _ | refine (ax_set_ne _ _ (by omega)).trans ?_ | refine (ax_newA_ne _ _ _ (by omega)).trans ?_) (by rfl) ?_
  refine wp_getf (n := 20) dX9_entryBlock_17 rfl flX9_118 (by repeat first | assumption | exact ax_set_self _ _ _ | exact ax_newA_self _ _ _ | refine (ax_set_ne _ _ (by omega)).trans ?_ | refine (ax_newA_ne _ _ _ (by omega)).trans ?_) (by rfl) ?_
  refine wp_getf (n := 23) dX9_entryBlock_20 rfl flX9_272 (by repeat first | assumption | exact ax_set_self _ _ _ | exact ax_newA_self _ _ _ | refine (ax_set_ne _ _ (by omega)).trans ?_ | refine (ax_newA_ne _ _ _ (by omega)).trans ?_) (by rfl) ?_
  refine wp_callV2 (n := 26) (rm' := (0, 0, 0, 0)) rfl dX9_entryBlock_23 rfl mlX9_276 (by repeat first | assumption | exact ax_set_self _ _ _ | exact ax_newA_self _ _ _ | refine (ax_set_ne _ _ (by omega)).trans ?_ | refine (ax_newA_ne _ _ _ (by omega)).trans ?_) rfl rfl rfl rfl rfl ?_
  refine s_X4_pickBlocks hJ hM4 (by omega) (by omega) (by omega) (fun h1 pk1 hF1 hP9 hz1 => ?_)
  show WP Γ _ _ _ _ _ _ _
  have hM9 : MapAt h1 (b + 7) nb pl tm pk1 := ⟨hF1.get hM.1 (by omega), hF1.get hM.2.1 (by omega), hF1.get hM.2.2.1 (by omega), hP9⟩
  have hL1 := hL0.map (hF1.to (by omega)) hM9
  have hF := hF1.get hF (by omega)
  have hL0 := hL1
  obtain ⟨hO, hP, hM, hJ, hR, hC, su, hS⟩ := hL1
  have hP1 := hP.1
  have hM1 := hM.1
  have hJ1 := hJ.1
  have hR1 := hR.1
  have hC1 := hC.1
  have hP2 := hP.2.1
  have hP3 := hP.2.2.1
  have hP4 := hP.2.2.2.1
  have hM2 := hM.2.1
  have hM3 := hM.2.2.1
  have hM4 := hM.2.2.2
  refine wp_aload_n (n := 27) dX9_entryBlock_26 rfl rfl ?_
  refine wp_getf (n := 30) dX9_entryBlock_27 rfl flX9_39 (by repeat first | assumption | exact ax_set_self _ _ _ | exact ax_newA_self _ _ _ | refine (ax_set_ne _ _ (by omega)).trans ?_ | refine (ax_newA_ne _ _ _ (by omega)).trans ?_) (by rfl) ?_
  refine wp_getf (n := 33) dX9_entryBlock_30 rfl flX9_118 (by repeat first | assumption | exact ax_set_self _ _ _ | exact ax_newA_self _ _ _ | refine (ax_set_ne _ _ (by omega)).trans ?_ | refine (ax_newA_ne _ _ _ (by omega)).trans ?_) (by rfl) ?_
  refine wp_iload_n (n := 34) dX9_entryBlock_33 rfl rfl ?_
  refine wp_callV1 (n := 37) (rm' := (0, 0, 0, 0)) rfl dX9_entryBlock_34 rfl mlX9_243 (by repeat first | assumption | exact ax_set_self _ _ _ | exact ax_newA_self _ _ _ | refine (ax_set_ne _ _ (by omega)).trans ?_ | refine (ax_newA_ne _ _ _ (by omega)).trans ?_) rfl rfl rfl rfl rfl ?_
  refine s_X1_pickedAt hM hn ?_
  show WP Γ _ _ _ _ _ _ _
  exact wp_ireturn dX9_entryBlock_37 rfl rfl (k e hen rfl h1 pk1 (hF1.to (by omega)) hz1 hL0)
end
