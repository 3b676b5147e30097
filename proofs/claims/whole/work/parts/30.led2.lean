/-! ===== Ledger: transfers, reservations ===== -/
section
variable {Γ : GE} {h : AH} {Q : PO} {b np nb ne nh nc y : Nat} {qu ra le ln pl tm rw hw cw pk : FI} {re : Nat → UInt32} {bk : Nat → Int64} {t x : Int32}
theorem obs_cases (qu pl : FI) (nb : Nat) (hw : FI) (nh : Nat) (x : Int32) (j : Nat) (c own : Int32) : (obs qu pl nb hw nh x j c own < 0 ∧ ¬ obs qu pl nb hw nh x j c own = 0) ∨ obs qu pl nb hw nh x j c own = 0 := by
  unfold obs
  split
  · exact Or.inl ⟨by decide, by decide⟩
  · split
    · exact Or.inl ⟨by decide, by decide⟩
    · exact Or.inr rfl
theorem s_X5_grant {j w : Nat} (hL : LedP h b np qu ra re le ln nb pl tm ne rw bk nh hw nc cw t y pk) (hA : Γ.2.1 ≤ b) (hn : nb ≤ 200) (he : ne < 300) (hw9 : w ≤ 200)
    (k : ∀ h' bk' pk', ax_fr b (b + 19) h h' → (∀ d, d < 200 → pk' d = bI (selL pl nb 0 w 0 d)) → LedP h' b np qu ra re le ln nb (putF pl nb pk' (nI j)) (putF tm nb pk' t) (ne + 1) (upd7 rw ne 0 (nI j) (nI w) 0 t 0 (-1)) bk' nh hw nc cw t y pk' → bokB bk bk' ne pk' → Q (.inl none) h') : WP Γ MX5_grant (2, 55, 0, 0) 0 [some (.ref b), some (.int (nI j)), some (.int (nI w))] [] h Q := by
  have hL0 := hL
  obtain ⟨hO, hP, hM, hJ, hR, hC, su, hS⟩ := hL
  have hP1 := hP.1
  have hM1 := hM.1
  have hJ1 := hJ.1
  have hR1 := hR.1
  have hC1 := hC.1
  have hP2 := hP.2.1
  have hP3 := hP.2.2.1
  have hP4 := hP.2.2.2.1
  have hM2 := hM.2.1
  have hM3 := hM.2.2.1
  have hM4 := hM.2.2.2
  refine wp_aload_n (n := 1) dX5_grant_0 rfl rfl ?_
  refine wp_getf (n := 4) dX5_grant_1 rfl flX5_21 (by repeat first | assumption | exact ax_set_self _ _ _ | exact ax_newA_self _ _ _ | refine (ax_set_ne _ _ (by omega)).trans ?_ | refine (ax_newA_ne _ _ _ (by omega)).trans ?_) (by rfl) ?_
  refine wp_callV0 (n := 7) (rm' := (0, 0, 0, 0)) rfl dX5_grant_4 rfl mlX5_102 (by repeat first | assumption | exact ax_set_self _ _ _ | exact ax_newA_self _ _ _ | refine (ax_set_ne _ _ (by omega)).trans ?_ | refine (ax_newA_ne _ _ _ (by omega)).trans ?_) rfl rfl rfl rfl rfl ?_
  refine s_X1_pickNothing hM (by omega) (fun h1 pk1 hF1 hM1 hz1 => ?_)
  show WP Γ _ _ _ _ _ _ _
  have hL1 := hL0.map hF1 hM1
  have hL0 := hL1
  obtain ⟨hO, hP, hM, hJ, hR, hC, su, hS⟩ := hL1
  have hP1 := hP.1
  have hM1 := hM.1
  have hJ1 := hJ.1
  have hR1 := hR.1
  have hC1 := hC.1
  have hP2 := hP.2.1
  have hP3 := hP.2.2.1
  have hP4 := hP.2.2.2.1
  have hM2 := hM.2.1
  have hM3 := hM.2.2.1
  have hM4 := hM.2.2.2
  refine wp_aload_n (n := 8) dX5_grant_7 rfl rfl ?_
  refine wp_getf (n := 11) dX5_grant_8 rfl flX5_21 (by repeat first | assumption | exact ax_set_self _ _ _ | exact ax_newA_self _ _ _ | refine (ax_set_ne _ _ (by omega)).trans ?_ | refine (ax_newA_ne _ _ _ (by omega)).trans ?_) (by rfl) ?_
  refine wp_iconst (n := 12) (v := 0) dX5_grant_11 rfl (by decide) ?_
  refine wp_iload_n (n := 13) dX5_grant_12 rfl rfl ?_
  refine wp_iconst (n := 14) (v := 0) dX5_grant_13 rfl (by decide) ?_
  refine wp_callV3 (n := 17) (rm' := (0, 0, 0, 0)) rfl dX5_grant_14 rfl mlX5_105 (by repeat first | assumption | exact ax_set_self _ _ _ | exact ax_newA_self _ _ _ | refine (ax_set_ne _ _ (by omega)).trans ?_ | refine (ax_newA_ne _ _ _ (by omega)).trans ?_) rfl rfl rfl rfl rfl ?_
  refine s_X1_pickLowest (s := 0) hM (by omega) hn hw9 (by omega) hz1 (fun h2 pk2 hF2 hM2 hz2 => ?_)
  show WP Γ _ _ _ _ _ _ _
  have hL2 := hL0.map hF2 hM2
  have hL0 := hL2
  obtain ⟨hO, hP, hM, hJ, hR, hC, su, hS⟩ := hL2
  have hP1 := hP.1
  have hM1 := hM.1
  have hJ1 := hJ.1
  have hR1 := hR.1
  have hC1 := hC.1
  have hP2 := hP.2.1
  have hP3 := hP.2.2.1
  have hP4 := hP.2.2.2.1
  have hM2 := hM.2.1
  have hM3 := hM.2.2.1
  have hM4 := hM.2.2.2
  refine wp_aload_n (n := 18) dX5_grant_17 rfl rfl ?_
  refine wp_iconst (n := 19) (v := 0) dX5_grant_18 rfl (by decide) ?_
  refine wp_iload_n (n := 20) dX5_grant_19 rfl rfl ?_
  refine wp_iload_n (n := 21) dX5_grant_20 rfl rfl ?_
  refine wp_iconst (n := 22) (v := 0) dX5_grant_21 rfl (by decide) ?_
  refine wp_iconst (n := 23) (v := 0) dX5_grant_22 rfl (by decide) ?_
  refine wp_callV5 (n := 26) (rm' := (1, 29, 0, 0)) rfl dX5_grant_23 rfl mlX5_109 (by repeat first | assumption | exact ax_set_self _ _ _ | exact ax_newA_self _ _ _ | refine (ax_set_ne _ _ (by omega)).trans ?_ | refine (ax_newA_ne _ _ _ (by omega)).trans ?_) rfl rfl rfl rfl rfl ?_
  refine s_X5_book hL0 hA hn he (fun h3 bk3 hF3 hL3 hz3 => ?_)
  show WP Γ _ _ _ _ _ _ _
  refine wp_pop (n := 27) dX5_grant_26 rfl rfl ?_
  exact wp_return dX5_grant_27 rfl (k _ bk3 pk2 ((((hF1.to (lo := b) (hi := b + 19) (by omega)).tr (lo := b) (hi := b + 19) hF2 (by omega) (by omega))).tr (lo := b) (hi := b + 19) hF3 (by omega) (by omega)) hz2 hL3 hz3)
theorem s_X5_move {j w : Nat} {d : Int32} (hL : LedP h b np qu ra re le ln nb pl tm ne rw bk nh hw nc cw t y pk) (hA : Γ.2.1 ≤ b) (hn : nb ≤ 200) (hh : nh ≤ 60) (he : ne ≤ 300) (hj : j < 8) (hw9 : w ≤ 200) (hy : y ≤ 3) (ht : ∀ d, d < nb → 0 ≤ tm d)
    (k0 : ∀ r, r = (if 300 ≤ ne then -2 else obs qu pl nb hw nh x j (nI w) 0) → r < 0 → Q (.inl (some (.int r))) h)
    (k1 : ne < 300 → obs qu pl nb hw nh x j (nI w) 0 = 0 → ∀ h' bk' pk', ax_fr b (b + 19) h h' → (∀ d, d < 200 → pk' d = bI (selW y pl tm nb x w d)) → LedP h' b np qu ra re le ln nb (putF pl nb pk' (nI j)) (putF tm nb pk' t) (ne + 1) (upd7 rw ne x (nI j) (nI w) d t 0 (-1)) bk' nh hw nc cw t y pk' → bokB bk bk' ne pk' → Q (.inl (some (.int (nI ne)))) h') : WP Γ MX5_move (3, 74, 0, 0) 0 [some (.ref b), some (.int x), some (.int (nI j)), some (.int (nI w)), some (.int d), none] [] h Q := by
  have hL0 := hL
  obtain ⟨hO, hP, hM, hJ, hR, hC, su, hS⟩ := hL
  have hP1 := hP.1
  have hM1 := hM.1
  have hJ1 := hJ.1
  have hR1 := hR.1
  have hC1 := hC.1
  have hP2 := hP.2.1
  have hP3 := hP.2.2.1
  have hP4 := hP.2.2.2.1
  have hM2 := hM.2.1
  have hM3 := hM.2.2.1
  have hM4 := hM.2.2.2
  refine wp_aload_n (n := 1) dX5_move_0 rfl rfl ?_
  refine wp_getf (n := 4) dX5_move_1 rfl flX5_28 (by repeat first | assumption | exact ax_set_self _ _ _ | exact ax_newA_self _ _ _ | refine (ax_set_ne _ _ (by omega)).trans ?_ | refine (ax_newA_ne _ _ _ (by omega)).trans ?_) (by rfl) ?_
  refine wp_callV0 (n := 7) (rm' := (0, 0, 0, 0)) rfl dX5_move_4 rfl mlX5_113 (by repeat first | assumption | exact ax_set_self _ _ _ | exact ax_newA_self _ _ _ | refine (ax_set_ne _ _ (by omega)).trans ?_ | refine (ax_newA_ne _ _ _ (by omega)).trans ?_) rfl rfl rfl rfl rfl ?_
  refine s_X4_isFull hJ he ?_
  show WP Γ _ _ _ _ _ _ _
  refine wp_if_eq (t := 13) (n := 10) dX5_move_7 (by decide) rfl (fun hc => ?_) (fun hc => ?_)
  · have hf : ¬ 300 ≤ ne := of_decide_eq_false (bI_eq hc)
    rw [if_neg hf] at k0
    refine wp_aload_n (n := 14) dX5_move_13 rfl rfl ?_
    refine wp_iload_n (n := 15) dX5_move_14 rfl rfl ?_
    refine wp_iload_n (n := 16) dX5_move_15 rfl rfl ?_
    refine wp_iload_n (n := 17) dX5_move_16 rfl rfl ?_
    refine wp_iconst (n := 18) (v := 0) dX5_move_17 rfl (by decide) ?_
    refine wp_callV4 (n := 21) (rm' := (2, 46, 0, 0)) rfl dX5_move_18 rfl mlX5_117 (by repeat first | assumption | exact ax_set_self _ _ _ | exact ax_newA_self _ _ _ | refine (ax_set_ne _ _ (by omega)).trans ?_ | refine (ax_newA_ne _ _ _ (by omega)).trans ?_) rfl rfl rfl rfl rfl ?_
    refine s_X5_obstacle hL0 hn hh hj ?_
    show WP Γ _ _ _ _ _ _ _
    refine wp_istore (n := 23) dX5_move_21 rfl rfl rfl rfl ?_
    refine wp_iload (n := 25) dX5_move_23 rfl rfl ?_
    refine wp_if_ge (t := 31) (n := 28) dX5_move_25 (by decide) rfl (fun hq => ?_) (fun hq => ?_)
    · have h0 : obs qu pl nb hw nh x j (nI w) 0 = 0 := by
        rcases obs_cases qu pl nb hw nh x j (nI w) 0 with q | q
        · exact absurd q.1 (Int32.not_lt.mpr hq)
        · exact q
      refine wp_aload_n (n := 32) dX5_move_31 rfl rfl ?_
      refine wp_getf (n := 35) dX5_move_32 rfl flX5_21 (by repeat first | assumption | exact ax_set_self _ _ _ | exact ax_newA_self _ _ _ | refine (ax_set_ne _ _ (by omega)).trans ?_ | refine (ax_newA_ne _ _ _ (by omega)).trans ?_) (by rfl) ?_
      refine wp_aload_n (n := 36) dX5_move_35 rfl rfl ?_
      refine wp_getf (n := 39) dX5_move_36 rfl flX5_50 (by repeat first | assumption | exact ax_set_self _ _ _ | exact ax_newA_self _ _ _ | refine (ax_set_ne _ _ (by omega)).trans ?_ | refine (ax_newA_ne _ _ _ (by omega)).trans ?_) (by rfl) ?_
      refine wp_iload_n (n := 40) dX5_move_39 rfl rfl ?_
      refine wp_iload_n (n := 41) dX5_move_40 rfl rfl ?_
      refine wp_callV3 (n := 44) (rm' := (2, 51, 0, 0)) rfl dX5_move_41 rfl mlX5_121 (by repeat first | assumption | exact ax_set_self _ _ _ | exact ax_newA_self _ _ _ | refine (ax_set_ne _ _ (by omega)).trans ?_ | refine (ax_newA_ne _ _ _ (by omega)).trans ?_) rfl rfl rfl rfl rfl ?_
      refine s_X1_pick hM (by omega) hn hw9 hy ht (fun h2 pk2 hF2 hM2 hz2 => ?_)
      show WP Γ _ _ _ _ _ _ _
      have hL2 := hL0.map hF2 hM2
      have hL0 := hL2
      obtain ⟨hO, hP, hM, hJ, hR, hC, su, hS⟩ := hL2
      have hP1 := hP.1
      have hM1 := hM.1
      have hJ1 := hJ.1
      have hR1 := hR.1
      have hC1 := hC.1
      have hP2 := hP.2.1
      have hP3 := hP.2.2.1
      have hP4 := hP.2.2.2.1
      have hM2 := hM.2.1
      have hM3 := hM.2.2.1
      have hM4 := hM.2.2.2
      refine wp_aload_n (n := 45) dX5_move_44 rfl rfl ?_
      refine wp_iload_n (n := 46) dX5_move_45 rfl rfl ?_
      refine wp_iload_n (n := 47) dX5_move_46 rfl rfl ?_
      refine wp_iload_n (n := 48) dX5_move_47 rfl rfl ?_
      refine wp_iload (n := 50) dX5_move_48 rfl rfl ?_
      refine wp_iconst (n := 51) (v := 0) dX5_move_50 rfl (by decide) ?_
      refine wp_callV5 (n := 54) (rm' := (1, 29, 0, 0)) rfl dX5_move_51 rfl mlX5_109 (by repeat first | assumption | exact ax_set_self _ _ _ | exact ax_newA_self _ _ _ | refine (ax_set_ne _ _ (by omega)).trans ?_ | refine (ax_newA_ne _ _ _ (by omega)).trans ?_) rfl rfl rfl rfl rfl ?_
      refine s_X5_book hL0 hA hn (by omega) (fun h3 bk3 hF3 hL3 hz3 => ?_)
      show WP Γ _ _ _ _ _ _ _
      exact wp_ireturn dX5_move_54 rfl rfl (k1 (by omega) h0 _ bk3 pk2 ((hF2.to (lo := b) (hi := b + 19) (by omega)).tr (lo := b) (hi := b + 19) hF3 (by omega) (by omega)) hz2 hL3 hz3)
    · refine wp_iload (n := 30) dX5_move_28 rfl rfl ?_
      exact wp_ireturn dX5_move_30 rfl rfl (k0 _ rfl (i32_not_le hq))
  · have hf : 300 ≤ ne := of_decide_eq_true (bI_ne hc)
    rw [if_pos hf] at k0
    refine wp_bipush (n := 12) (v := (-2)) dX5_move_10 rfl (by decide) ?_
    exact wp_ireturn dX5_move_12 rfl rfl (k0 _ rfl (by decide))
theorem s_X5_moveBlock {i j : Nat} {d : Int32} (hL : LedP h b np qu ra re le ln nb pl tm ne rw bk nh hw nc cw t y pk) (hA : Γ.2.1 ≤ b) (hn : nb ≤ 200) (hh : nh ≤ 60) (he : ne ≤ 300) (hi : i < nb) (hj : j < 8)
    (k0 : ∀ r, r = (if 300 ≤ ne then -2 else if pl i = nI j then -5 else obs qu pl nb hw nh (pl i) j (nI 1) 0) → r < 0 → Q (.inl (some (.int r))) h)
    (k1 : ne < 300 → ¬ pl i = nI j → obs qu pl nb hw nh (pl i) j (nI 1) 0 = 0 → ∀ h' bk' pk', ax_fr b (b + 19) h h' → (∀ d, d < 200 → pk' d = bI (decide (d = i))) → LedP h' b np qu ra re le ln nb (putF pl nb pk' (nI j)) (putF tm nb pk' t) (ne + 1) (upd7 rw ne (pl i) (nI j) (nI 1) d t 0 (-1)) bk' nh hw nc cw t y pk' → bokB bk bk' ne pk' → Q (.inl (some (.int (nI ne)))) h') : WP Γ MX5_moveBlock (3, 70, 0, 0) 0 [some (.ref b), some (.int (nI i)), some (.int (nI j)), some (.int d), none, none] [] h Q := by
  have hL0 := hL
  obtain ⟨hO, hP, hM, hJ, hR, hC, su, hS⟩ := hL
  have hP1 := hP.1
  have hM1 := hM.1
  have hJ1 := hJ.1
  have hR1 := hR.1
  have hC1 := hC.1
  have hP2 := hP.2.1
  have hP3 := hP.2.2.1
  have hP4 := hP.2.2.2.1
  have hM2 := hM.2.1
  have hM3 := hM.2.2.1
  have hM4 := hM.2.2.2
  refine wp_aload_n (n := 1) dX5_moveBlock_0 rfl rfl ?_
  refine wp_getf (n := 4) dX5_moveBlock_1 rfl flX5_28 (by repeat first | assumption | exact ax_set_self _ _ _ | exact ax_newA_self _ _ _ | refine (ax_set_ne _ _ (by omega)).trans ?_ | refine (ax_newA_ne _ _ _ (by omega)).trans ?_) (by rfl) ?_
  refine wp_callV0 (n := 7) (rm' := (0, 0, 0, 0)) rfl dX5_moveBlock_4 rfl mlX5_113 (by repeat first | assumption | exact ax_set_self _ _ _ | exact ax_newA_self _ _ _ | refine (ax_set_ne _ _ (by omega)).trans ?_ | refine (ax_newA_ne _ _ _ (by omega)).trans ?_) rfl rfl rfl rfl rfl ?_
  refine s_X4_isFull hJ he ?_
  show WP Γ _ _ _ _ _ _ _
  refine wp_if_eq (t := 13) (n := 10) dX5_moveBlock_7 (by decide) rfl (fun hc => ?_) (fun hc => ?_)
  · have hf : ¬ 300 ≤ ne := of_decide_eq_false (bI_eq hc)
    rw [if_neg hf] at k0
    refine wp_aload_n (n := 14) dX5_moveBlock_13 rfl rfl ?_
    refine wp_getf (n := 17) dX5_moveBlock_14 rfl flX5_21 (by repeat first | assumption | exact ax_set_self _ _ _ | exact ax_newA_self _ _ _ | refine (ax_set_ne _ _ (by omega)).trans ?_ | refine (ax_newA_ne _ _ _ (by omega)).trans ?_) (by rfl) ?_
    refine wp_getf (n := 20) dX5_moveBlock_17 rfl flX5_124 (by repeat first | assumption | exact ax_set_self _ _ _ | exact ax_newA_self _ _ _ | refine (ax_set_ne _ _ (by omega)).trans ?_ | refine (ax_newA_ne _ _ _ (by omega)).trans ?_) (by rfl) ?_
    refine wp_iload_n (n := 21) dX5_moveBlock_20 rfl rfl ?_
    refine wp_iald (n := 22) _ dX5_moveBlock_21 rfl (by repeat first | assumption | exact ax_set_self _ _ _ | exact ax_newA_self _ _ _ | refine (ax_set_ne _ _ (by omega)).trans ?_ | refine (ax_newA_ne _ _ _ (by omega)).trans ?_) rfl (by omega) (by decide) ?_
    refine wp_istore (n := 24) dX5_moveBlock_22 rfl rfl rfl rfl ?_
    refine wp_iload (n := 26) dX5_moveBlock_24 rfl rfl ?_
    refine wp_iload_n (n := 27) dX5_moveBlock_26 rfl rfl ?_
    refine wp_icmp_ne (t := 33) (n := 30) dX5_moveBlock_27 (by decide) rfl (fun hr => ?_) (fun hr => ?_)
    · rw [if_neg hr] at k0
      refine wp_aload_n (n := 34) dX5_moveBlock_33 rfl rfl ?_
      refine wp_iload (n := 36) dX5_moveBlock_34 rfl rfl ?_
      refine wp_iload_n (n := 37) dX5_moveBlock_36 rfl rfl ?_
      refine wp_iconst (n := 38) (v := nI 1) dX5_moveBlock_37 rfl (by decide) ?_
      refine wp_iconst (n := 39) (v := 0) dX5_moveBlock_38 rfl (by decide) ?_
      refine wp_callV4 (n := 42) (rm' := (2, 46, 0, 0)) rfl dX5_moveBlock_39 rfl mlX5_117 (by repeat first | assumption | exact ax_set_self _ _ _ | exact ax_newA_self _ _ _ | refine (ax_set_ne _ _ (by omega)).trans ?_ | refine (ax_newA_ne _ _ _ (by omega)).trans ?_) rfl rfl rfl rfl rfl ?_
      refine s_X5_obstacle hL0 hn hh hj ?_
      show WP Γ _ _ _ _ _ _ _
      refine wp_istore (n := 44) dX5_moveBlock_42 rfl rfl rfl rfl ?_
      refine wp_iload (n := 46) dX5_moveBlock_44 rfl rfl ?_
      refine wp_if_ge (t := 52) (n := 49) dX5_moveBlock_46 (by decide) rfl (fun hq => ?_) (fun hq => ?_)
      · have h0 : obs qu pl nb hw nh (pl i) j (nI 1) 0 = 0 := by
          rcases obs_cases qu pl nb hw nh (pl i) j (nI 1) 0 with q | q
          · exact absurd q.1 (Int32.not_lt.mpr hq)
          · exact q
        refine wp_aload_n (n := 53) dX5_moveBlock_52 rfl rfl ?_
        refine wp_getf (n := 56) dX5_moveBlock_53 rfl flX5_21 (by repeat first | assumption | exact ax_set_self _ _ _ | exact ax_newA_self _ _ _ | refine (ax_set_ne _ _ (by omega)).trans ?_ | refine (ax_newA_ne _ _ _ (by omega)).trans ?_) (by rfl) ?_
        refine wp_iload_n (n := 57) dX5_moveBlock_56 rfl rfl ?_
        refine wp_callV1 (n := 60) (rm' := (1, 21, 0, 0)) rfl dX5_moveBlock_57 rfl mlX5_126 (by repeat first | assumption | exact ax_set_self _ _ _ | exact ax_newA_self _ _ _ | refine (ax_set_ne _ _ (by omega)).trans ?_ | refine (ax_newA_ne _ _ _ (by omega)).trans ?_) rfl rfl rfl rfl rfl ?_
        refine s_X1_pickOne hM (by omega) (by omega) (fun h2 pk2 hF2 hM2 hz2 => ?_)
        show WP Γ _ _ _ _ _ _ _
        have hL2 := hL0.map hF2 hM2
        have hL0 := hL2
        obtain ⟨hO, hP, hM, hJ, hR, hC, su, hS⟩ := hL2
        have hP1 := hP.1
        have hM1 := hM.1
        have hJ1 := hJ.1
        have hR1 := hR.1
        have hC1 := hC.1
        have hP2 := hP.2.1
        have hP3 := hP.2.2.1
        have hP4 := hP.2.2.2.1
        have hM2 := hM.2.1
        have hM3 := hM.2.2.1
        have hM4 := hM.2.2.2
        refine wp_aload_n (n := 61) dX5_moveBlock_60 rfl rfl ?_
        refine wp_iload (n := 63) dX5_moveBlock_61 rfl rfl ?_
        refine wp_iload_n (n := 64) dX5_moveBlock_63 rfl rfl ?_
        refine wp_iconst (n := 65) (v := nI 1) dX5_moveBlock_64 rfl (by decide) ?_
        refine wp_iload_n (n := 66) dX5_moveBlock_65 rfl rfl ?_
        refine wp_iconst (n := 67) (v := 0) dX5_moveBlock_66 rfl (by decide) ?_
        refine wp_callV5 (n := 70) (rm' := (1, 29, 0, 0)) rfl dX5_moveBlock_67 rfl mlX5_109 (by repeat first | assumption | exact ax_set_self _ _ _ | exact ax_newA_self _ _ _ | refine (ax_set_ne _ _ (by omega)).trans ?_ | refine (ax_newA_ne _ _ _ (by omega)).trans ?_) rfl rfl rfl rfl rfl ?_
        refine s_X5_book hL0 hA hn (by omega) (fun h3 bk3 hF3 hL3 hz3 => ?_)
        show WP Γ _ _ _ _ _ _ _
        exact wp_ireturn dX5_moveBlock_70 rfl rfl (k1 (by omega) hr h0 _ bk3 pk2 ((hF2.to (lo := b) (hi := b + 19) (by omega)).tr (lo := b) (hi := b + 19) hF3 (by omega) (by omega)) hz2 hL3 hz3)
      · refine wp_iload (n := 51) dX5_moveBlock_49 rfl rfl ?_
        exact wp_ireturn dX5_moveBlock_51 rfl rfl (k0 _ rfl (i32_not_le hq))
    · rw [if_pos hr] at k0
      refine wp_bipush (n := 32) (v := (-5)) dX5_moveBlock_30 rfl (by decide) ?_
      exact wp_ireturn dX5_moveBlock_32 rfl rfl (k0 _ rfl (by decide))
  · have hf : 300 ≤ ne := of_decide_eq_true (bI_ne hc)
    rw [if_pos hf] at k0
    refine wp_bipush (n := 12) (v := (-2)) dX5_moveBlock_10 rfl (by decide) ?_
    exact wp_ireturn dX5_moveBlock_12 rfl rfl (k0 _ rfl (by decide))
/-- whether all blocks of an entry are where they went -/
def inAll (pl : FI) (nb : Nat) (bk : Nat → Int64) (e : Nat) (x : Int32) : Prop := ∀ d, d < nb → blk bk e d = true → pl d = x
theorem s_X5_moveBack {e j : Nat} (hL : LedP h b np qu ra re le ln nb pl tm ne rw bk nh hw nc cw t y pk) (hA : Γ.2.1 ≤ b) (hn : nb ≤ 200) (hh : nh ≤ 60) (he : ne ≤ 300) (hen : e < ne) (hfj : rw (e * 7 + 0) = nI j) (hj : j < 8)
    (k0 : ∀ r h', LedAt h' b np qu ra re le ln nb pl tm ne rw bk nh hw nc cw t y → ax_fr b (b + 19) h h' → ((300 ≤ ne ∧ r = -2) ∨ (¬ 300 ≤ ne ∧ ¬ (rw (e * 7 + 5) = 0 ∧ rw (e * 7 + 6) = -1) ∧ r = -5) ∨ (¬ 300 ≤ ne ∧ rw (e * 7 + 5) = 0 ∧ rw (e * 7 + 6) = -1 ∧ ¬ inAll pl nb bk e (rw (e * 7 + 1)) ∧ r = -6) ∨ (¬ 300 ≤ ne ∧ rw (e * 7 + 5) = 0 ∧ rw (e * 7 + 6) = -1 ∧ inAll pl nb bk e (rw (e * 7 + 1)) ∧ r = obs qu pl nb hw nh (rw (e * 7 + 1)) j (rw (e * 7 + 2)) 0 ∧ ¬ r = 0 ∧ r < 0)) → Q (.inl (some (.int r))) h')
    (k1 : ne < 300 → rw (e * 7 + 5) = 0 → rw (e * 7 + 6) = -1 → inAll pl nb bk e (rw (e * 7 + 1)) → obs qu pl nb hw nh (rw (e * 7 + 1)) j (rw (e * 7 + 2)) 0 = 0 → ∀ h' bk' pk', ax_fr b (b + 19) h h' → (∀ d, d < 200 → pk' d = bI (blk bk e d)) → LedP h' b np qu ra re le ln nb (putF pl nb pk' (nI j)) (putF tm nb pk' t) (ne + 1) (upd (upd (upd7 rw ne (rw (e * 7 + 1)) (nI j) (rw (e * 7 + 2)) (rw (e * 7 + 3)) t (nI 1) (-1)) (e * 7 + 6) (nI ne)) (ne * 7 + 6) (nI e)) bk' nh hw nc cw t y pk' → bokB bk bk' ne pk' → Q (.inl (some (.int (nI ne)))) h') : WP Γ MX5_moveBack (3, 70, 0, 0) 0 [some (.ref b), some (.int (nI e)), none, none, none, none, none, none] [] h Q := by
  have hL0 := hL
  obtain ⟨hO, hP, hM, hJ, hR, hC, su, hS⟩ := hL
  have hP1 := hP.1
  have hM1 := hM.1
  have hJ1 := hJ.1
  have hR1 := hR.1
  have hC1 := hC.1
  have hP2 := hP.2.1
  have hP3 := hP.2.2.1
  have hP4 := hP.2.2.2.1
  have hM2 := hM.2.1
  have hM3 := hM.2.2.1
  have hM4 := hM.2.2.2
  refine wp_aload_n (n := 1) dX5_moveBack_0 rfl rfl ?_
  refine wp_getf (n := 4) dX5_moveBack_1 rfl flX5_28 (by repeat first | assumption | exact ax_set_self _ _ _ | exact ax_newA_self _ _ _ | refine (ax_set_ne _ _ (by omega)).trans ?_ | refine (ax_newA_ne _ _ _ (by omega)).trans ?_) (by rfl) ?_
  refine wp_callV0 (n := 7) (rm' := (0, 0, 0, 0)) rfl dX5_moveBack_4 rfl mlX5_113 (by repeat first | assumption | exact ax_set_self _ _ _ | exact ax_newA_self _ _ _ | refine (ax_set_ne _ _ (by omega)).trans ?_ | refine (ax_newA_ne _ _ _ (by omega)).trans ?_) rfl rfl rfl rfl rfl ?_
  refine s_X4_isFull hJ he ?_
  show WP Γ _ _ _ _ _ _ _
  refine wp_if_eq (t := 13) (n := 10) dX5_moveBack_7 (by decide) rfl (fun hc => ?_) (fun hc => ?_)
  · have hf : ¬ 300 ≤ ne := of_decide_eq_false (bI_eq hc)
    refine wp_aload_n (n := 14) dX5_moveBack_13 rfl rfl ?_
    refine wp_getf (n := 17) dX5_moveBack_14 rfl flX5_28 (by repeat first | assumption | exact ax_set_self _ _ _ | exact ax_newA_self _ _ _ | refine (ax_set_ne _ _ (by omega)).trans ?_ | refine (ax_newA_ne _ _ _ (by omega)).trans ?_) (by rfl) ?_
    refine wp_iload_n (n := 18) dX5_moveBack_17 rfl rfl ?_
    refine wp_callV1 (n := 21) (rm' := (1, 22, 0, 0)) rfl dX5_moveBack_18 rfl mlX5_129 (by repeat first | assumption | exact ax_set_self _ _ _ | exact ax_newA_self _ _ _ | refine (ax_set_ne _ _ (by omega)).trans ?_ | refine (ax_newA_ne _ _ _ (by omega)).trans ?_) rfl rfl rfl rfl rfl ?_
    refine s_X4_isReversible hJ (by omega) ?_
    show WP Γ _ _ _ _ _ _ _
    refine wp_if_ne (t := 27) (n := 24) dX5_moveBack_21 (by decide) rfl (fun hr => ?_) (fun hr => ?_)
    · obtain ⟨r5, r6⟩ := of_decide_eq_true (bI_ne hr)
      refine wp_aload_n (n := 28) dX5_moveBack_27 rfl rfl ?_
      refine wp_getf (n := 31) dX5_moveBack_28 rfl flX5_28 (by repeat first | assumption | exact ax_set_self _ _ _ | exact ax_newA_self _ _ _ | refine (ax_set_ne _ _ (by omega)).trans ?_ | refine (ax_newA_ne _ _ _ (by omega)).trans ?_) (by rfl) ?_
      refine wp_iload_n (n := 32) dX5_moveBack_31 rfl rfl ?_
      refine wp_iconst (n := 33) (v := 0) dX5_moveBack_32 rfl (by decide) ?_
      refine wp_callV2 (n := 36) (rm' := (0, 0, 0, 0)) rfl dX5_moveBack_33 rfl mlX5_133 (by repeat first | assumption | exact ax_set_self _ _ _ | exact ax_newA_self _ _ _ | refine (ax_set_ne _ _ (by omega)).trans ?_ | refine (ax_newA_ne _ _ _ (by omega)).trans ?_) rfl rfl rfl rfl rfl ?_
      refine s_X4_value (j := 0) hJ (by omega) (by omega) ?_
      show WP Γ _ _ _ _ _ _ _
      refine wp_istore_n (n := 37) dX5_moveBack_36 rfl rfl rfl rfl ?_
      refine wp_aload_n (n := 38) dX5_moveBack_37 rfl rfl ?_
      refine wp_getf (n := 41) dX5_moveBack_38 rfl flX5_28 (by repeat first | assumption | exact ax_set_self _ _ _ | exact ax_newA_self _ _ _ | refine (ax_set_ne _ _ (by omega)).trans ?_ | refine (ax_newA_ne _ _ _ (by omega)).trans ?_) (by rfl) ?_
      refine wp_iload_n (n := 42) dX5_moveBack_41 rfl rfl ?_
      refine wp_iconst (n := 43) (v := nI 1) dX5_moveBack_42 rfl (by decide) ?_
      refine wp_callV2 (n := 46) (rm' := (0, 0, 0, 0)) rfl dX5_moveBack_43 rfl mlX5_133 (by repeat first | assumption | exact ax_set_self _ _ _ | exact ax_newA_self _ _ _ | refine (ax_set_ne _ _ (by omega)).trans ?_ | refine (ax_newA_ne _ _ _ (by omega)).trans ?_) rfl rfl rfl rfl rfl ?_
      refine s_X4_value hJ (by omega) (by omega) ?_
      show WP Γ _ _ _ _ _ _ _
      refine wp_istore_n (n := 47) dX5_moveBack_46 rfl rfl rfl rfl ?_
      refine wp_aload_n (n := 48) dX5_moveBack_47 rfl rfl ?_
      refine wp_getf (n := 51) dX5_moveBack_48 rfl flX5_28 (by repeat first | assumption | exact ax_set_self _ _ _ | exact ax_newA_self _ _ _ | refine (ax_set_ne _ _ (by omega)).trans ?_ | refine (ax_newA_ne _ _ _ (by omega)).trans ?_) (by rfl) ?_
      refine wp_iload_n (n := 52) dX5_moveBack_51 rfl rfl ?_
      refine wp_iconst (n := 53) (v := nI 2) dX5_moveBack_52 rfl (by decide) ?_
      refine wp_callV2 (n := 56) (rm' := (0, 0, 0, 0)) rfl dX5_moveBack_53 rfl mlX5_133 (by repeat first | assumption | exact ax_set_self _ _ _ | exact ax_newA_self _ _ _ | refine (ax_set_ne _ _ (by omega)).trans ?_ | refine (ax_newA_ne _ _ _ (by omega)).trans ?_) rfl rfl rfl rfl rfl ?_
      refine s_X4_value hJ (by omega) (by omega) ?_
      show WP Γ _ _ _ _ _ _ _
      refine wp_istore (n := 58) dX5_moveBack_56 rfl rfl rfl rfl ?_
      refine wp_aload_n (n := 59) dX5_moveBack_58 rfl rfl ?_
      refine wp_getf (n := 62) dX5_moveBack_59 rfl flX5_28 (by repeat first | assumption | exact ax_set_self _ _ _ | exact ax_newA_self _ _ _ | refine (ax_set_ne _ _ (by omega)).trans ?_ | refine (ax_newA_ne _ _ _ (by omega)).trans ?_) (by rfl) ?_
      refine wp_iload_n (n := 63) dX5_moveBack_62 rfl rfl ?_
      refine wp_aload_n (n := 64) dX5_moveBack_63 rfl rfl ?_
      refine wp_getf (n := 67) dX5_moveBack_64 rfl flX5_21 (by repeat first | assumption | exact ax_set_self _ _ _ | exact ax_newA_self _ _ _ | refine (ax_set_ne _ _ (by omega)).trans ?_ | refine (ax_newA_ne _ _ _ (by omega)).trans ?_) (by rfl) ?_
      refine wp_getf (n := 70) dX5_moveBack_67 rfl flX5_136 (by repeat first | assumption | exact ax_set_self _ _ _ | exact ax_newA_self _ _ _ | refine (ax_set_ne _ _ (by omega)).trans ?_ | refine (ax_newA_ne _ _ _ (by omega)).trans ?_) (by rfl) ?_
      refine wp_callV2 (n := 73) (rm' := (0, 0, 0, 0)) rfl dX5_moveBack_70 rfl mlX5_140 (by repeat first | assumption | exact ax_set_self _ _ _ | exact ax_newA_self _ _ _ | refine (ax_set_ne _ _ (by omega)).trans ?_ | refine (ax_newA_ne _ _ _ (by omega)).trans ?_) rfl rfl rfl rfl rfl ?_
      refine s_X4_pickBlocks hJ hM4 (by omega) (by omega) (by omega) (fun h1 pk1 hF1 hP9 hz1 => ?_)
      show WP Γ _ _ _ _ _ _ _
      rw [hfj]
      have hM9 : MapAt h1 (b + 7) nb pl tm pk1 := ⟨hF1.get hM.1 (by omega), hF1.get hM.2.1 (by omega), hF1.get hM.2.2.1 (by omega), hP9⟩
      have hL1 := hL0.map (hF1.to (by omega)) hM9
      have hL0 := hL1
      obtain ⟨hO, hP, hM, hJ, hR, hC, su, hS⟩ := hL1
      have hP1 := hP.1
      have hM1 := hM.1
      have hJ1 := hJ.1
      have hR1 := hR.1
      have hC1 := hC.1
      have hP2 := hP.2.1
      have hP3 := hP.2.2.1
      have hP4 := hP.2.2.2.1
      have hM2 := hM.2.1
      have hM3 := hM.2.2.1
      have hM4 := hM.2.2.2
      have cont : ∀ v, (v = nI 1 ∧ inAll pl nb bk e (rw (e * 7 + 1))) ∨ (v = 0 ∧ ¬ inAll pl nb bk e (rw (e * 7 + 1))) → WP Γ MX5_moveBack (3, 70, 0, 0) 81 [some (.ref b), some (.int (nI e)), some (.int (nI j)), some (.int (rw (e * 7 + 1))), some (.int (rw (e * 7 + 2))), none, none, none] [.int v] h1 Q := by
        intro v hv
        refine wp_if_ne (t := 87) (n := 84) dX5_moveBack_81 (by decide) rfl (fun hs => ?_) (fun hs => ?_)
        · have hin : inAll pl nb bk e (rw (e * 7 + 1)) := by
            rcases hv with q | q
            · exact q.2
            · exact absurd q.1 hs
          refine wp_aload_n (n := 88) dX5_moveBack_87 rfl rfl ?_
          refine wp_iload_n (n := 89) dX5_moveBack_88 rfl rfl ?_
          refine wp_iload_n (n := 90) dX5_moveBack_89 rfl rfl ?_
          refine wp_iload (n := 92) dX5_moveBack_90 rfl rfl ?_
          refine wp_iconst (n := 93) (v := 0) dX5_moveBack_92 rfl (by decide) ?_
          refine wp_callV4 (n := 96) (rm' := (2, 46, 0, 0)) rfl dX5_moveBack_93 rfl mlX5_117 (by repeat first | assumption | exact ax_set_self _ _ _ | exact ax_newA_self _ _ _ | refine (ax_set_ne _ _ (by omega)).trans ?_ | refine (ax_newA_ne _ _ _ (by omega)).trans ?_) rfl rfl rfl rfl rfl ?_
          refine s_X5_obstacle hL0 hn hh hj ?_
          show WP Γ _ _ _ _ _ _ _
          refine wp_istore (n := 98) dX5_moveBack_96 rfl rfl rfl rfl ?_
          refine wp_iload (n := 100) dX5_moveBack_98 rfl rfl ?_
          refine wp_if_ge (t := 106) (n := 103) dX5_moveBack_100 (by decide) rfl (fun hq => ?_) (fun hq => ?_)
          · have h0 : obs qu pl nb hw nh (rw (e * 7 + 1)) j (rw (e * 7 + 2)) 0 = 0 := by
              rcases obs_cases qu pl nb hw nh (rw (e * 7 + 1)) j (rw (e * 7 + 2)) 0 with q | q
              · exact absurd q.1 (Int32.not_lt.mpr hq)
              · exact q
            refine wp_aload_n (n := 107) dX5_moveBack_106 rfl rfl ?_
            refine wp_getf (n := 110) dX5_moveBack_107 rfl flX5_28 (by repeat first | assumption | exact ax_set_self _ _ _ | exact ax_newA_self _ _ _ | refine (ax_set_ne _ _ (by omega)).trans ?_ | refine (ax_newA_ne _ _ _ (by omega)).trans ?_) (by rfl) ?_
            refine wp_iload_n (n := 111) dX5_moveBack_110 rfl rfl ?_
            refine wp_iconst (n := 112) (v := nI 3) dX5_moveBack_111 rfl (by decide) ?_
            refine wp_callV2 (n := 115) (rm' := (0, 0, 0, 0)) rfl dX5_moveBack_112 rfl mlX5_133 (by repeat first | assumption | exact ax_set_self _ _ _ | exact ax_newA_self _ _ _ | refine (ax_set_ne _ _ (by omega)).trans ?_ | refine (ax_newA_ne _ _ _ (by omega)).trans ?_) rfl rfl rfl rfl rfl ?_
            refine s_X4_value hJ (by omega) (by omega) ?_
            show WP Γ _ _ _ _ _ _ _
            refine wp_istore (n := 117) dX5_moveBack_115 rfl rfl rfl rfl ?_
            refine wp_aload_n (n := 118) dX5_moveBack_117 rfl rfl ?_
            refine wp_iload_n (n := 119) dX5_moveBack_118 rfl rfl ?_
            refine wp_iload_n (n := 120) dX5_moveBack_119 rfl rfl ?_
            refine wp_iload (n := 122) dX5_moveBack_120 rfl rfl ?_
            refine wp_iload (n := 124) dX5_moveBack_122 rfl rfl ?_
            refine wp_iconst (n := 125) (v := nI 1) dX5_moveBack_124 rfl (by decide) ?_
            refine wp_callV5 (n := 128) (rm' := (1, 29, 0, 0)) rfl dX5_moveBack_125 rfl mlX5_109 (by repeat first | assumption | exact ax_set_self _ _ _ | exact ax_newA_self _ _ _ | refine (ax_set_ne _ _ (by omega)).trans ?_ | refine (ax_newA_ne _ _ _ (by omega)).trans ?_) rfl rfl rfl rfl rfl ?_
            refine s_X5_book hL0 hA hn (by omega) (fun h3 bk3 hF3 hL3 hz3 => ?_)
            show WP Γ _ _ _ _ _ _ _
            have hL0 := hL3
            obtain ⟨hO, hP, hM, hJ, hR, hC, su, hS⟩ := hL3
            have hP1 := hP.1
            have hM1 := hM.1
            have hJ1 := hJ.1
            have hR1 := hR.1
            have hC1 := hC.1
            have hP2 := hP.2.1
            have hP3 := hP.2.2.1
            have hP4 := hP.2.2.2.1
            have hM2 := hM.2.1
            have hM3 := hM.2.2.1
            have hM4 := hM.2.2.2
            refine wp_istore (n := 130) dX5_moveBack_128 rfl rfl rfl rfl ?_
            refine wp_aload_n (n := 131) dX5_moveBack_130 rfl rfl ?_
            refine wp_getf (n := 134) dX5_moveBack_131 rfl flX5_28 (by repeat first | assumption | exact ax_set_self _ _ _ | exact ax_newA_self _ _ _ | refine (ax_set_ne _ _ (by omega)).trans ?_ | refine (ax_newA_ne _ _ _ (by omega)).trans ?_) (by rfl) ?_
            refine wp_iload_n (n := 135) dX5_moveBack_134 rfl rfl ?_
            refine wp_iload (n := 137) dX5_moveBack_135 rfl rfl ?_
            refine wp_callV2 (n := 140) (rm' := (0, 0, 0, 0)) rfl dX5_moveBack_137 rfl mlX5_147 (by repeat first | assumption | exact ax_set_self _ _ _ | exact ax_newA_self _ _ _ | refine (ax_set_ne _ _ (by omega)).trans ?_ | refine (ax_newA_ne _ _ _ (by omega)).trans ?_) rfl rfl rfl rfl rfl ?_
            refine s_X4_link hJ (by omega) (by omega) (by omega) (fun h4 hF4 hJ4 => ?_)
            show WP Γ _ _ _ _ _ _ _
            refine wp_iload (n := 142) dX5_moveBack_140 rfl rfl ?_
            have hL4 := hL0.jrn hF4 hJ4
            exact wp_ireturn dX5_moveBack_142 rfl rfl (k1 (by omega) r5 r6 hin h0 _ bk3 pk1 (((hF1.to (lo := b) (hi := b + 19) (by omega)).tr (lo := b) (hi := b + 19) hF3 (by omega) (by omega)).tr (lo := b) (hi := b + 19) hF4 (by omega) (by omega)) hz1 hL4 hz3)
          · have hq := i32_not_le hq
            refine wp_iload (n := 105) dX5_moveBack_103 rfl rfl ?_
            exact wp_ireturn dX5_moveBack_105 rfl rfl (k0 _ h1 ⟨pk1, hL0⟩ (hF1.to (by omega)) (Or.inr (Or.inr (Or.inr ⟨hf, r5, r6, hin, rfl, fun z => by rw [z] at hq; exact absurd hq (by decide), hq⟩))))
        · have hin : ¬ inAll pl nb bk e (rw (e * 7 + 1)) := by
            rcases hv with q | q
            · rw [q.1] at hs; exact absurd hs (by decide)
            · exact q.2
          refine wp_bipush (n := 86) (v := (-6)) dX5_moveBack_84 rfl (by decide) ?_
          exact wp_ireturn dX5_moveBack_86 rfl rfl (k0 _ h1 ⟨pk1, hL0⟩ (hF1.to (by omega)) (Or.inr (Or.inr (Or.inl ⟨hf, r5, r6, hin, rfl⟩))))
      refine wp_aload_n (n := 74) dX5_moveBack_73 rfl rfl ?_
      refine wp_getf (n := 77) dX5_moveBack_74 rfl flX5_21 (by repeat first | assumption | exact ax_set_self _ _ _ | exact ax_newA_self _ _ _ | refine (ax_set_ne _ _ (by omega)).trans ?_ | refine (ax_newA_ne _ _ _ (by omega)).trans ?_) (by rfl) ?_
      refine wp_iload_n (n := 78) dX5_moveBack_77 rfl rfl ?_
      refine wp_callV1 (n := 81) (rm' := (0, 0, 0, 0)) rfl dX5_moveBack_78 rfl mlX5_144 (by repeat first | assumption | exact ax_set_self _ _ _ | exact ax_newA_self _ _ _ | refine (ax_set_ne _ _ (by omega)).trans ?_ | refine (ax_newA_ne _ _ _ (by omega)).trans ?_) rfl rfl rfl rfl rfl ?_
      refine s_X1_allPickedAreIn hM hn (fun q => ?_) (fun q => ?_)
      · exact cont _ (Or.inl ⟨rfl, fun d hd hb => q d hd (by rw [hz1 d (by omega), hb]; decide)⟩)
      · refine cont _ (Or.inr ⟨rfl, fun hin => ?_⟩)
        obtain ⟨d, q1, q2, q3⟩ := q
        rw [hz1 d (by omega)] at q2
        exact q3 (hin d q1 (bI_ne q2))
    · have hno := of_decide_eq_false (bI_eq hr)
      refine wp_bipush (n := 26) (v := (-5)) dX5_moveBack_24 rfl (by decide) ?_
      exact wp_ireturn dX5_moveBack_26 rfl rfl (k0 _ h ⟨pk, hL0⟩ ax_fr.rf (Or.inr (Or.inl ⟨hf, hno, rfl⟩)))
  · have hf : 300 ≤ ne := of_decide_eq_true (bI_ne hc)
    refine wp_bipush (n := 12) (v := (-2)) dX5_moveBack_10 rfl (by decide) ?_
    exact wp_ireturn dX5_moveBack_12 rfl rfl (k0 _ h ⟨pk, hL0⟩ ax_fr.rf (Or.inl ⟨hf, rfl⟩))
theorem s_X5_hold {j : Nat} {c d : Int32} (hL : LedP h b np qu ra re le ln nb pl tm ne rw bk nh hw nc cw t y pk) (hA : Γ.2.1 ≤ b) (hn : nb ≤ 200) (hh : nh ≤ 60) (hj : j < 8)
    (k0 : ∀ r, r = (if 60 ≤ nh then -2 else obs qu pl nb hw nh x j c 0) → r < 0 → Q (.inl (some (.int r))) h)
    (k1 : nh < 60 → obs qu pl nb hw nh x j c 0 = 0 → ∀ h', ax_fr b (b + 19) h h' → LedP h' b np qu ra re le ln nb pl tm ne rw bk (nh + 1) (upd5 hw nh x (nI j) c (t + d) 0) nc cw t y pk → Q (.inl (some (.int (nI nh)))) h') : WP Γ MX5_hold (3, 70, 0, 0) 0 [some (.ref b), some (.int x), some (.int (nI j)), some (.int c), some (.int d), none] [] h Q := by
  have hL0 := hL
  obtain ⟨hO, hP, hM, hJ, hR, hC, su, hS⟩ := hL
  have hP1 := hP.1
  have hM1 := hM.1
  have hJ1 := hJ.1
  have hR1 := hR.1
  have hC1 := hC.1
  have hP2 := hP.2.1
  have hP3 := hP.2.2.1
  have hP4 := hP.2.2.2.1
  have hM2 := hM.2.1
  have hM3 := hM.2.2.1
  have hM4 := hM.2.2.2
  refine wp_aload_n (n := 1) dX5_hold_0 rfl rfl ?_
  refine wp_getf (n := 4) dX5_hold_1 rfl flX5_35 (by repeat first | assumption | exact ax_set_self _ _ _ | exact ax_newA_self _ _ _ | refine (ax_set_ne _ _ (by omega)).trans ?_ | refine (ax_newA_ne _ _ _ (by omega)).trans ?_) (by rfl) ?_
  refine wp_callV0 (n := 7) (rm' := (0, 0, 0, 0)) rfl dX5_hold_4 rfl mlX5_171 (by repeat first | assumption | exact ax_set_self _ _ _ | exact ax_newA_self _ _ _ | refine (ax_set_ne _ _ (by omega)).trans ?_ | refine (ax_newA_ne _ _ _ (by omega)).trans ?_) rfl rfl rfl rfl rfl ?_
  refine s_X7_isFull hR hh ?_
  show WP Γ _ _ _ _ _ _ _
  refine wp_if_eq (t := 13) (n := 10) dX5_hold_7 (by decide) rfl (fun hc => ?_) (fun hc => ?_)
  · have hf : ¬ 60 ≤ nh := of_decide_eq_false (bI_eq hc)
    rw [if_neg hf] at k0
    refine wp_aload_n (n := 14) dX5_hold_13 rfl rfl ?_
    refine wp_iload_n (n := 15) dX5_hold_14 rfl rfl ?_
    refine wp_iload_n (n := 16) dX5_hold_15 rfl rfl ?_
    refine wp_iload_n (n := 17) dX5_hold_16 rfl rfl ?_
    refine wp_iconst (n := 18) (v := 0) dX5_hold_17 rfl (by decide) ?_
    refine wp_callV4 (n := 21) (rm' := (2, 46, 0, 0)) rfl dX5_hold_18 rfl mlX5_117 (by repeat first | assumption | exact ax_set_self _ _ _ | exact ax_newA_self _ _ _ | refine (ax_set_ne _ _ (by omega)).trans ?_ | refine (ax_newA_ne _ _ _ (by omega)).trans ?_) rfl rfl rfl rfl rfl ?_
    refine s_X5_obstacle hL0 hn hh hj ?_
    show WP Γ _ _ _ _ _ _ _
    refine wp_istore (n := 23) dX5_hold_21 rfl rfl rfl rfl ?_
    refine wp_iload (n := 25) dX5_hold_23 rfl rfl ?_
    refine wp_if_ge (t := 31) (n := 28) dX5_hold_25 (by decide) rfl (fun hq => ?_) (fun hq => ?_)
    · have h0 : obs qu pl nb hw nh x j c 0 = 0 := by
        rcases obs_cases qu pl nb hw nh x j c 0 with q | q
        · exact absurd q.1 (Int32.not_lt.mpr hq)
        · exact q
      refine wp_aload_n (n := 32) dX5_hold_31 rfl rfl ?_
      refine wp_getf (n := 35) dX5_hold_32 rfl flX5_35 (by repeat first | assumption | exact ax_set_self _ _ _ | exact ax_newA_self _ _ _ | refine (ax_set_ne _ _ (by omega)).trans ?_ | refine (ax_newA_ne _ _ _ (by omega)).trans ?_) (by rfl) ?_
      refine wp_iload_n (n := 36) dX5_hold_35 rfl rfl ?_
      refine wp_iload_n (n := 37) dX5_hold_36 rfl rfl ?_
      refine wp_iload_n (n := 38) dX5_hold_37 rfl rfl ?_
      refine wp_aload_n (n := 39) dX5_hold_38 rfl rfl ?_
      refine wp_getf (n := 42) dX5_hold_39 rfl flX5_46 (by repeat first | assumption | exact ax_set_self _ _ _ | exact ax_newA_self _ _ _ | refine (ax_set_ne _ _ (by omega)).trans ?_ | refine (ax_newA_ne _ _ _ (by omega)).trans ?_) (by rfl) ?_
      refine wp_iload (n := 44) dX5_hold_42 rfl rfl ?_
      refine wp_iadd (n := 45) dX5_hold_44 rfl ?_
      refine wp_callV4 (n := 48) (rm' := (0, 0, 0, 0)) rfl dX5_hold_45 rfl mlX5_172 (by repeat first | assumption | exact ax_set_self _ _ _ | exact ax_newA_self _ _ _ | refine (ax_set_ne _ _ (by omega)).trans ?_ | refine (ax_newA_ne _ _ _ (by omega)).trans ?_) rfl rfl rfl rfl rfl ?_
      refine s_X7_add hR (by omega) (by omega) (fun h2 hF2 hR2 => ?_)
      show WP Γ _ _ _ _ _ _ _
      exact wp_ireturn dX5_hold_48 rfl rfl (k1 (by omega) h0 _ (hF2.to (by omega)) (hL0.res hF2 hR2))
    · refine wp_iload (n := 30) dX5_hold_28 rfl rfl ?_
      exact wp_ireturn dX5_hold_30 rfl rfl (k0 _ rfl (i32_not_le hq))
  · have hf : 60 ≤ nh := of_decide_eq_true (bI_ne hc)
    rw [if_pos hf] at k0
    refine wp_bipush (n := 12) (v := (-2)) dX5_hold_10 rfl (by decide) ?_
    exact wp_ireturn dX5_hold_12 rfl rfl (k0 _ rfl (by decide))
theorem s_X5_fulfil {r j w : Nat} {d : Int32} (hL : LedP h b np qu ra re le ln nb pl tm ne rw bk nh hw nc cw t y pk) (hA : Γ.2.1 ≤ b) (hn : nb ≤ 200) (hh : nh ≤ 60) (he : ne ≤ 300) (hr : r < nh) (hrj : hw (r * 5 + 1) = nI j) (hj : j < 8) (hrw : hw (r * 5 + 2) = nI w) (hw9 : w ≤ 200) (hy : y ≤ 3) (ht : ∀ d, d < nb → 0 ≤ tm d)
    (k0 : ∀ v, v = (if pend hw r = true then (if 300 ≤ ne then -2 else obs qu pl nb hw nh (hw (r * 5 + 0)) j (nI w) (nI w)) else -5) → v < 0 → Q (.inl (some (.int v))) h)
    (k1 : pend hw r = true → ne < 300 → obs qu pl nb hw nh (hw (r * 5 + 0)) j (nI w) (nI w) = 0 → ∀ h' bk' pk', ax_fr b (b + 19) h h' → (∀ d, d < 200 → pk' d = bI (selW y pl tm nb (hw (r * 5 + 0)) w d)) → LedP h' b np qu ra re le ln nb (putF pl nb pk' (nI j)) (putF tm nb pk' t) (ne + 1) (upd7 rw ne (hw (r * 5 + 0)) (nI j) (nI w) d t 0 (-1)) bk' nh (upd hw (r * 5 + 4) (nI 1)) nc cw t y pk' → bokB bk bk' ne pk' → Q (.inl (some (.int (nI ne)))) h') : WP Γ MX5_fulfil (3, 74, 0, 0) 0 [some (.ref b), some (.int (nI r)), some (.int d), none, none, none, none] [] h Q := by
  have hL0 := hL
  obtain ⟨hO, hP, hM, hJ, hR, hC, su, hS⟩ := hL
  have hP1 := hP.1
  have hM1 := hM.1
  have hJ1 := hJ.1
  have hR1 := hR.1
  have hC1 := hC.1
  have hP2 := hP.2.1
  have hP3 := hP.2.2.1
  have hP4 := hP.2.2.2.1
  have hM2 := hM.2.1
  have hM3 := hM.2.2.1
  have hM4 := hM.2.2.2
  refine wp_aload_n (n := 1) dX5_fulfil_0 rfl rfl ?_
  refine wp_getf (n := 4) dX5_fulfil_1 rfl flX5_35 (by repeat first | assumption | exact ax_set_self _ _ _ | exact ax_newA_self _ _ _ | refine (ax_set_ne _ _ (by omega)).trans ?_ | refine (ax_newA_ne _ _ _ (by omega)).trans ?_) (by rfl) ?_
  refine wp_iload_n (n := 5) dX5_fulfil_4 rfl rfl ?_
  refine wp_callV1 (n := 8) (rm' := (1, 22, 0, 0)) rfl dX5_fulfil_5 rfl mlX5_174 (by repeat first | assumption | exact ax_set_self _ _ _ | exact ax_newA_self _ _ _ | refine (ax_set_ne _ _ (by omega)).trans ?_ | refine (ax_newA_ne _ _ _ (by omega)).trans ?_) rfl rfl rfl rfl rfl ?_
  refine s_X7_isPending hR (by omega) ?_
  show WP Γ _ _ _ _ _ _ _
  refine wp_if_ne (t := 14) (n := 11) dX5_fulfil_8 (by decide) rfl (fun hp => ?_) (fun hp => ?_)
  · have hp := bI_ne hp
    rw [if_pos hp] at k0
    refine wp_aload_n (n := 15) dX5_fulfil_14 rfl rfl ?_
    refine wp_getf (n := 18) dX5_fulfil_15 rfl flX5_28 (by repeat first | assumption | exact ax_set_self _ _ _ | exact ax_newA_self _ _ _ | refine (ax_set_ne _ _ (by omega)).trans ?_ | refine (ax_newA_ne _ _ _ (by omega)).trans ?_) (by rfl) ?_
    refine wp_callV0 (n := 21) (rm' := (0, 0, 0, 0)) rfl dX5_fulfil_18 rfl mlX5_113 (by repeat first | assumption | exact ax_set_self _ _ _ | exact ax_newA_self _ _ _ | refine (ax_set_ne _ _ (by omega)).trans ?_ | refine (ax_newA_ne _ _ _ (by omega)).trans ?_) rfl rfl rfl rfl rfl ?_
    refine s_X4_isFull hJ he ?_
    show WP Γ _ _ _ _ _ _ _
    refine wp_if_eq (t := 27) (n := 24) dX5_fulfil_21 (by decide) rfl (fun hc => ?_) (fun hc => ?_)
    · have hf : ¬ 300 ≤ ne := of_decide_eq_false (bI_eq hc)
      rw [if_neg hf] at k0
      refine wp_aload_n (n := 28) dX5_fulfil_27 rfl rfl ?_
      refine wp_getf (n := 31) dX5_fulfil_28 rfl flX5_35 (by repeat first | assumption | exact ax_set_self _ _ _ | exact ax_newA_self _ _ _ | refine (ax_set_ne _ _ (by omega)).trans ?_ | refine (ax_newA_ne _ _ _ (by omega)).trans ?_) (by rfl) ?_
      refine wp_iload_n (n := 32) dX5_fulfil_31 rfl rfl ?_
      refine wp_iconst (n := 33) (v := 0) dX5_fulfil_32 rfl (by decide) ?_
      refine wp_callV2 (n := 36) (rm' := (0, 0, 0, 0)) rfl dX5_fulfil_33 rfl mlX5_177 (by repeat first | assumption | exact ax_set_self _ _ _ | exact ax_newA_self _ _ _ | refine (ax_set_ne _ _ (by omega)).trans ?_ | refine (ax_newA_ne _ _ _ (by omega)).trans ?_) rfl rfl rfl rfl rfl ?_
      refine s_X7_value (j := 0) hR (by omega) (by omega) ?_
      show WP Γ _ _ _ _ _ _ _
      refine wp_istore_n (n := 37) dX5_fulfil_36 rfl rfl rfl rfl ?_
      refine wp_aload_n (n := 38) dX5_fulfil_37 rfl rfl ?_
      refine wp_getf (n := 41) dX5_fulfil_38 rfl flX5_35 (by repeat first | assumption | exact ax_set_self _ _ _ | exact ax_newA_self _ _ _ | refine (ax_set_ne _ _ (by omega)).trans ?_ | refine (ax_newA_ne _ _ _ (by omega)).trans ?_) (by rfl) ?_
      refine wp_iload_n (n := 42) dX5_fulfil_41 rfl rfl ?_
      refine wp_iconst (n := 43) (v := nI 1) dX5_fulfil_42 rfl (by decide) ?_
      refine wp_callV2 (n := 46) (rm' := (0, 0, 0, 0)) rfl dX5_fulfil_43 rfl mlX5_177 (by repeat first | assumption | exact ax_set_self _ _ _ | exact ax_newA_self _ _ _ | refine (ax_set_ne _ _ (by omega)).trans ?_ | refine (ax_newA_ne _ _ _ (by omega)).trans ?_) rfl rfl rfl rfl rfl ?_
      refine s_X7_value hR (by omega) (by omega) ?_
      show WP Γ _ _ _ _ _ _ _
      refine wp_istore (n := 48) dX5_fulfil_46 rfl rfl rfl rfl ?_
      refine wp_aload_n (n := 49) dX5_fulfil_48 rfl rfl ?_
      refine wp_getf (n := 52) dX5_fulfil_49 rfl flX5_35 (by repeat first | assumption | exact ax_set_self _ _ _ | exact ax_newA_self _ _ _ | refine (ax_set_ne _ _ (by omega)).trans ?_ | refine (ax_newA_ne _ _ _ (by omega)).trans ?_) (by rfl) ?_
      refine wp_iload_n (n := 53) dX5_fulfil_52 rfl rfl ?_
      refine wp_iconst (n := 54) (v := nI 2) dX5_fulfil_53 rfl (by decide) ?_
      refine wp_callV2 (n := 57) (rm' := (0, 0, 0, 0)) rfl dX5_fulfil_54 rfl mlX5_177 (by repeat first | assumption | exact ax_set_self _ _ _ | exact ax_newA_self _ _ _ | refine (ax_set_ne _ _ (by omega)).trans ?_ | refine (ax_newA_ne _ _ _ (by omega)).trans ?_) rfl rfl rfl rfl rfl ?_
      refine s_X7_value hR (by omega) (by omega) ?_
      show WP Γ _ _ _ _ _ _ _
      refine wp_istore (n := 59) dX5_fulfil_57 rfl rfl rfl rfl ?_
      rw [hrj, hrw]
      refine wp_aload_n (n := 60) dX5_fulfil_59 rfl rfl ?_
      refine wp_iload_n (n := 61) dX5_fulfil_60 rfl rfl ?_
      refine wp_iload (n := 63) dX5_fulfil_61 rfl rfl ?_
      refine wp_iload (n := 65) dX5_fulfil_63 rfl rfl ?_
      refine wp_iload (n := 67) dX5_fulfil_65 rfl rfl ?_
      refine wp_callV4 (n := 70) (rm' := (2, 46, 0, 0)) rfl dX5_fulfil_67 rfl mlX5_117 (by repeat first | assumption | exact ax_set_self _ _ _ | exact ax_newA_self _ _ _ | refine (ax_set_ne _ _ (by omega)).trans ?_ | refine (ax_newA_ne _ _ _ (by omega)).trans ?_) rfl rfl rfl rfl rfl ?_
      refine s_X5_obstacle hL0 hn hh hj ?_
      show WP Γ _ _ _ _ _ _ _
      refine wp_istore (n := 72) dX5_fulfil_70 rfl rfl rfl rfl ?_
      refine wp_iload (n := 74) dX5_fulfil_72 rfl rfl ?_
      refine wp_if_ge (t := 80) (n := 77) dX5_fulfil_74 (by decide) rfl (fun hq => ?_) (fun hq => ?_)
      · have h0 : obs qu pl nb hw nh (hw (r * 5 + 0)) j (nI w) (nI w) = 0 := by
          rcases obs_cases qu pl nb hw nh (hw (r * 5 + 0)) j (nI w) (nI w) with q | q
          · exact absurd q.1 (Int32.not_lt.mpr hq)
          · exact q
        refine wp_aload_n (n := 81) dX5_fulfil_80 rfl rfl ?_
        refine wp_getf (n := 84) dX5_fulfil_81 rfl flX5_35 (by repeat first | assumption | exact ax_set_self _ _ _ | exact ax_newA_self _ _ _ | refine (ax_set_ne _ _ (by omega)).trans ?_ | refine (ax_newA_ne _ _ _ (by omega)).trans ?_) (by rfl) ?_
        refine wp_iload_n (n := 85) dX5_fulfil_84 rfl rfl ?_
        refine wp_iconst (n := 86) (v := nI 1) dX5_fulfil_85 rfl (by decide) ?_
        refine wp_callV2 (n := 89) (rm' := (0, 0, 0, 0)) rfl dX5_fulfil_86 rfl mlX5_178 (by repeat first | assumption | exact ax_set_self _ _ _ | exact ax_newA_self _ _ _ | refine (ax_set_ne _ _ (by omega)).trans ?_ | refine (ax_newA_ne _ _ _ (by omega)).trans ?_) rfl rfl rfl rfl rfl ?_
        refine s_X7_end hR (by omega) (by omega) (fun h1 hF1 hR1 => ?_)
        show WP Γ _ _ _ _ _ _ _
        have hL1 := hL0.res hF1 hR1
        have hL0 := hL1
        obtain ⟨hO, hP, hM, hJ, hR, hC, su, hS⟩ := hL1
        have hP1 := hP.1
        have hM1 := hM.1
        have hJ1 := hJ.1
        have hR1 := hR.1
        have hC1 := hC.1
        have hP2 := hP.2.1
        have hP3 := hP.2.2.1
        have hP4 := hP.2.2.2.1
        have hM2 := hM.2.1
        have hM3 := hM.2.2.1
        have hM4 := hM.2.2.2
        refine wp_aload_n (n := 90) dX5_fulfil_89 rfl rfl ?_
        refine wp_getf (n := 93) dX5_fulfil_90 rfl flX5_21 (by repeat first | assumption | exact ax_set_self _ _ _ | exact ax_newA_self _ _ _ | refine (ax_set_ne _ _ (by omega)).trans ?_ | refine (ax_newA_ne _ _ _ (by omega)).trans ?_) (by rfl) ?_
        refine wp_aload_n (n := 94) dX5_fulfil_93 rfl rfl ?_
        refine wp_getf (n := 97) dX5_fulfil_94 rfl flX5_50 (by repeat first | assumption | exact ax_set_self _ _ _ | exact ax_newA_self _ _ _ | refine (ax_set_ne _ _ (by omega)).trans ?_ | refine (ax_newA_ne _ _ _ (by omega)).trans ?_) (by rfl) ?_
        refine wp_iload_n (n := 98) dX5_fulfil_97 rfl rfl ?_
        refine wp_iload (n := 100) dX5_fulfil_98 rfl rfl ?_
        refine wp_callV3 (n := 103) (rm' := (2, 51, 0, 0)) rfl dX5_fulfil_100 rfl mlX5_121 (by repeat first | assumption | exact ax_set_self _ _ _ | exact ax_newA_self _ _ _ | refine (ax_set_ne _ _ (by omega)).trans ?_ | refine (ax_newA_ne _ _ _ (by omega)).trans ?_) rfl rfl rfl rfl rfl ?_
        refine s_X1_pick hM (by omega) hn hw9 hy ht (fun h2 pk2 hF2 hM2 hz2 => ?_)
        show WP Γ _ _ _ _ _ _ _
        have hL2 := hL0.map hF2 hM2
        have hL0 := hL2
        obtain ⟨hO, hP, hM, hJ, hR, hC, su, hS⟩ := hL2
        have hP1 := hP.1
        have hM1 := hM.1
        have hJ1 := hJ.1
        have hR1 := hR.1
        have hC1 := hC.1
        have hP2 := hP.2.1
        have hP3 := hP.2.2.1
        have hP4 := hP.2.2.2.1
        have hM2 := hM.2.1
        have hM3 := hM.2.2.1
        have hM4 := hM.2.2.2
        refine wp_aload_n (n := 104) dX5_fulfil_103 rfl rfl ?_
        refine wp_iload_n (n := 105) dX5_fulfil_104 rfl rfl ?_
        refine wp_iload (n := 107) dX5_fulfil_105 rfl rfl ?_
        refine wp_iload (n := 109) dX5_fulfil_107 rfl rfl ?_
        refine wp_iload_n (n := 110) dX5_fulfil_109 rfl rfl ?_
        refine wp_iconst (n := 111) (v := 0) dX5_fulfil_110 rfl (by decide) ?_
        refine wp_callV5 (n := 114) (rm' := (1, 29, 0, 0)) rfl dX5_fulfil_111 rfl mlX5_109 (by repeat first | assumption | exact ax_set_self _ _ _ | exact ax_newA_self _ _ _ | refine (ax_set_ne _ _ (by omega)).trans ?_ | refine (ax_newA_ne _ _ _ (by omega)).trans ?_) rfl rfl rfl rfl rfl ?_
        refine s_X5_book hL0 hA hn (by omega) (fun h3 bk3 hF3 hL3 hz3 => ?_)
        show WP Γ _ _ _ _ _ _ _
        exact wp_ireturn dX5_fulfil_114 rfl rfl (k1 hp (by omega) h0 _ bk3 pk2 (((hF1.to (lo := b) (hi := b + 19) (by omega)).tr (lo := b) (hi := b + 19) hF2 (by omega) (by omega)).tr (lo := b) (hi := b + 19) hF3 (by omega) (by omega)) hz2 hL3 hz3)
      · refine wp_iload (n := 79) dX5_fulfil_77 rfl rfl ?_
        exact wp_ireturn dX5_fulfil_79 rfl rfl (k0 _ rfl (i32_not_le hq))
    · have hf : 300 ≤ ne := of_decide_eq_true (bI_ne hc)
      rw [if_pos hf] at k0
      refine wp_bipush (n := 26) (v := (-2)) dX5_fulfil_24 rfl (by decide) ?_
      exact wp_ireturn dX5_fulfil_26 rfl rfl (k0 _ rfl (by decide))
  · have hp := bI_eq hp
    rw [hp, if_neg (by decide)] at k0
    refine wp_bipush (n := 13) (v := (-5)) dX5_fulfil_11 rfl (by decide) ?_
    exact wp_ireturn dX5_fulfil_13 rfl rfl (k0 _ rfl (by decide))
theorem s_X5_timeOfAvailable {c : Int32} (hL : LedP h b np qu ra re le ln nb pl tm ne rw bk nh hw nc cw t y pk) (hn : nb ≤ 200) (hh : nh ≤ 60)
    (k : Q (.inl (some (.int (if avl pl nb hw nh x < c then tos hw x (nI (cnt pl x nb) - c) nh nh else t)))) h) : WP Γ MX5_timeOfAvailable (4, 94, 0, 0) 0 [some (.ref b), some (.int x), some (.int c)] [] h Q := by
  have hL0 := hL
  obtain ⟨hO, hP, hM, hJ, hR, hC, su, hS⟩ := hL
  have hP1 := hP.1
  have hM1 := hM.1
  have hJ1 := hJ.1
  have hR1 := hR.1
  have hC1 := hC.1
  have hP2 := hP.2.1
  have hP3 := hP.2.2.1
  have hP4 := hP.2.2.2.1
  have hM2 := hM.2.1
  have hM3 := hM.2.2.1
  have hM4 := hM.2.2.2
  refine wp_aload_n (n := 1) dX5_timeOfAvailable_0 rfl rfl ?_
  refine wp_iload_n (n := 2) dX5_timeOfAvailable_1 rfl rfl ?_
  refine wp_callV1 (n := 5) (rm' := (1, 25, 0, 0)) rfl dX5_timeOfAvailable_2 rfl mlX5_151 (by repeat first | assumption | exact ax_set_self _ _ _ | exact ax_newA_self _ _ _ | refine (ax_set_ne _ _ (by omega)).trans ?_ | refine (ax_newA_ne _ _ _ (by omega)).trans ?_) rfl rfl rfl rfl rfl ?_
  refine s_X5_availableIn hL0 hn hh ?_
  show WP Γ _ _ _ _ _ _ _
  refine wp_iload_n (n := 6) dX5_timeOfAvailable_5 rfl rfl ?_
  refine wp_icmp_lt (t := 14) (n := 9) dX5_timeOfAvailable_6 (by decide) rfl (fun hc => ?_) (fun hc => ?_)
  · rw [if_pos hc] at k
    refine wp_aload_n (n := 15) dX5_timeOfAvailable_14 rfl rfl ?_
    refine wp_getf (n := 18) dX5_timeOfAvailable_15 rfl flX5_35 (by repeat first | assumption | exact ax_set_self _ _ _ | exact ax_newA_self _ _ _ | refine (ax_set_ne _ _ (by omega)).trans ?_ | refine (ax_newA_ne _ _ _ (by omega)).trans ?_) (by rfl) ?_
    refine wp_iload_n (n := 19) dX5_timeOfAvailable_18 rfl rfl ?_
    refine wp_aload_n (n := 20) dX5_timeOfAvailable_19 rfl rfl ?_
    refine wp_getf (n := 23) dX5_timeOfAvailable_20 rfl flX5_21 (by repeat first | assumption | exact ax_set_self _ _ _ | exact ax_newA_self _ _ _ | refine (ax_set_ne _ _ (by omega)).trans ?_ | refine (ax_newA_ne _ _ _ (by omega)).trans ?_) (by rfl) ?_
    refine wp_iload_n (n := 24) dX5_timeOfAvailable_23 rfl rfl ?_
    refine wp_callV1 (n := 27) (rm' := (0, 0, 0, 0)) rfl dX5_timeOfAvailable_24 rfl mlX5_83 (by repeat first | assumption | exact ax_set_self _ _ _ | exact ax_newA_self _ _ _ | refine (ax_set_ne _ _ (by omega)).trans ?_ | refine (ax_newA_ne _ _ _ (by omega)).trans ?_) rfl rfl rfl rfl rfl ?_
    refine s_X1_countIn hM hn ?_
    show WP Γ _ _ _ _ _ _ _
    refine wp_iload_n (n := 28) dX5_timeOfAvailable_27 rfl rfl ?_
    refine wp_isub (n := 29) dX5_timeOfAvailable_28 rfl ?_
    refine wp_callV2 (n := 32) (rm' := (3, 68, 0, 0)) rfl dX5_timeOfAvailable_29 rfl mlX5_181 (by repeat first | assumption | exact ax_set_self _ _ _ | exact ax_newA_self _ _ _ | refine (ax_set_ne _ _ (by omega)).trans ?_ | refine (ax_newA_ne _ _ _ (by omega)).trans ?_) rfl rfl rfl rfl rfl ?_
    refine s_X7_timeOfSum hR hh ?_
    show WP Γ _ _ _ _ _ _ _
    exact wp_ireturn dX5_timeOfAvailable_32 rfl rfl (k)
  · rw [if_neg hc] at k
    refine wp_aload_n (n := 10) dX5_timeOfAvailable_9 rfl rfl ?_
    refine wp_getf (n := 13) dX5_timeOfAvailable_10 rfl flX5_46 (by repeat first | assumption | exact ax_set_self _ _ _ | exact ax_newA_self _ _ _ | refine (ax_set_ne _ _ (by omega)).trans ?_ | refine (ax_newA_ne _ _ _ (by omega)).trans ?_) (by rfl) ?_
    exact wp_ireturn dX5_timeOfAvailable_13 rfl rfl (k)
/-- the pool with the most, and how much -/
def mstB (rw : FI) (f l : Int32) (n : Nat) : Nat → Int32 × Int32
  | 0 => (0, -1)
  | j + 1 => if (mstB rw f l n j).1 < trnS rw (nI j) f l n then (trnS rw (nI j) f l n, nI j) else mstB rw f l n j
theorem s_X5_mostMoved {f l : Int32} (hL : LedP h b np qu ra re le ln nb pl tm ne rw bk nh hw nc cw t y pk) (hn : np ≤ 8) (he : ne ≤ 300)
    (k : Q (.inl (some (.int (mstB rw f l ne np).2))) h) : WP Γ MX5_mostMoved (3, 72, 0, 0) 0 [some (.ref b), some (.int f), some (.int l), none, none, none, none] [] h Q := by
  have hL0 := hL
  obtain ⟨hO, hP, hM, hJ, hR, hC, su, hS⟩ := hL
  have hP1 := hP.1
  have hM1 := hM.1
  have hJ1 := hJ.1
  have hR1 := hR.1
  have hC1 := hC.1
  have hP2 := hP.2.1
  have hP3 := hP.2.2.1
  have hP4 := hP.2.2.2.1
  have hM2 := hM.2.1
  have hM3 := hM.2.2.1
  have hM4 := hM.2.2.2
  refine wp_iconst (n := 1) (v := 0) dX5_mostMoved_0 rfl (by decide) ?_
  refine wp_istore_n (n := 2) dX5_mostMoved_1 rfl rfl rfl rfl ?_
  refine wp_iconst (n := 3) (v := (-1)) dX5_mostMoved_2 rfl (by decide) ?_
  refine wp_istore (n := 5) dX5_mostMoved_3 rfl rfl rfl rfl ?_
  refine wp_iconst (n := 6) (v := 0) dX5_mostMoved_5 rfl (by decide) ?_
  refine wp_istore (n := 8) dX5_mostMoved_6 rfl rfl rfl rfl ?_
  suffices L : ∀ j, j ≤ np → ∀ q, WP Γ MX5_mostMoved (3, 72, 0, 0) 8 [some (.ref b), some (.int f), some (.int l), some (.int (mstB rw f l ne j).1), some (.int (mstB rw f l ne j).2), some (.int (nI j)), q] [] h Q from L 0 (Nat.zero_le _) none
  refine ax_up np (fun j hj ih => ?_)
  intro q
  refine wp_lo (lo' := [some (.ref b), some (.int f), some (.int l), some (.int (mstB rw f l ne j).1), some (.int (mstB rw f l ne j).2), some (.int (nI j)), none]) (fun k v hk => ?_) ?_
  · match k, hk with
    | 0, hk => exact hk
    | 1, hk => exact hk
    | 2, hk => exact hk
    | 3, hk => exact hk
    | 4, hk => exact hk
    | 5, hk => exact hk
    | 6, hk => exact absurd hk (by simp [ax_gl])
    | k + 7, hk => exact absurd hk (by simp [ax_gl])
  refine wp_iload (n := 10) dX5_mostMoved_8 rfl rfl ?_
  refine wp_aload_n (n := 11) dX5_mostMoved_10 rfl rfl ?_
  refine wp_getf (n := 14) dX5_mostMoved_11 rfl flX5_12 (by repeat first | assumption | exact ax_set_self _ _ _ | exact ax_newA_self _ _ _ | refine (ax_set_ne _ _ (by omega)).trans ?_ | refine (ax_newA_ne _ _ _ (by omega)).trans ?_) (by rfl) ?_
  refine wp_getf (n := 17) dX5_mostMoved_14 rfl flX5_167 (by repeat first | assumption | exact ax_set_self _ _ _ | exact ax_newA_self _ _ _ | refine (ax_set_ne _ _ (by omega)).trans ?_ | refine (ax_newA_ne _ _ _ (by omega)).trans ?_) (by rfl) ?_
  refine wp_icmp_ge (t := 52) (n := 20) dX5_mostMoved_17 (by decide) rfl (fun hc => ?_) (fun hc => ?_)
  · rw [nI_le9 (by omega) (by omega)] at hc
    obtain rfl : j = np := by omega
    refine wp_iload (n := 54) dX5_mostMoved_52 rfl rfl ?_
    exact wp_ireturn dX5_mostMoved_54 rfl rfl (k)
  · rw [nI_le9 (by omega) (by omega)] at hc
    have ih := ih (by omega) (some (.int (trnS rw (nI j) f l ne)))
    refine wp_aload_n (n := 21) dX5_mostMoved_20 rfl rfl ?_
    refine wp_getf (n := 24) dX5_mostMoved_21 rfl flX5_28 (by repeat first | assumption | exact ax_set_self _ _ _ | exact ax_newA_self _ _ _ | refine (ax_set_ne _ _ (by omega)).trans ?_ | refine (ax_newA_ne _ _ _ (by omega)).trans ?_) (by rfl) ?_
    refine wp_iload (n := 26) dX5_mostMoved_24 rfl rfl ?_
    refine wp_iload_n (n := 27) dX5_mostMoved_26 rfl rfl ?_
    refine wp_iload_n (n := 28) dX5_mostMoved_27 rfl rfl ?_
    refine wp_callV3 (n := 31) (rm' := (2, 46, 0, 0)) rfl dX5_mostMoved_28 rfl mlX5_168 (by repeat first | assumption | exact ax_set_self _ _ _ | exact ax_newA_self _ _ _ | refine (ax_set_ne _ _ (by omega)).trans ?_ | refine (ax_newA_ne _ _ _ (by omega)).trans ?_) rfl rfl rfl rfl rfl ?_
    refine s_X4_turnover hJ he ?_
    show WP Γ _ _ _ _ _ _ _
    refine wp_istore (n := 33) dX5_mostMoved_31 rfl rfl rfl rfl ?_
    refine wp_iload (n := 35) dX5_mostMoved_33 rfl rfl ?_
    refine wp_iload_n (n := 36) dX5_mostMoved_35 rfl rfl ?_
    refine wp_icmp_le (t := 46) (n := 39) dX5_mostMoved_36 (by decide) rfl (fun hq => ?_) (fun hq => ?_)
    · refine wp_iinc (n := 49) dX5_mostMoved_46 rfl rfl (nI_inc j) rfl rfl rfl ?_
      refine wp_goto (t := 8) dX5_mostMoved_49 (by decide) ?_
      simp only [mstB, if_neg (Int32.not_lt.mpr hq)] at ih
      exact ih
    · refine wp_iload (n := 41) dX5_mostMoved_39 rfl rfl ?_
      refine wp_istore_n (n := 42) dX5_mostMoved_41 rfl rfl rfl rfl ?_
      refine wp_iload (n := 44) dX5_mostMoved_42 rfl rfl ?_
      refine wp_istore (n := 46) dX5_mostMoved_44 rfl rfl rfl rfl ?_
      refine wp_iinc (n := 49) dX5_mostMoved_46 rfl rfl (nI_inc j) rfl rfl rfl ?_
      refine wp_goto (t := 8) dX5_mostMoved_49 (by decide) ?_
      simp only [mstB, if_pos (i32_not_le hq)] at ih
      exact ih
/-- a set of pools as bits -/
def setB (P : Nat → Bool) : Nat → Int32
  | 0 => 0
  | j + 1 => if P j = true then setB P j ||| (nI 1 <<< (nI j &&& 31)) else setB P j
theorem s_X5_unequalPools (hL : LedP h b np qu ra re le ln nb pl tm ne rw bk nh hw nc cw t y pk) (hn : np ≤ 8) (he : ne ≤ 300) (hb : nb ≤ 200)
    (k : Q (.inl (some (.int (setB (fun j => decide (¬ bkd nb rw (nI j) ne = nI (cnt pl (nI j) nb))) np)))) h) : WP Γ MX5_unequalPools (4, 91, 0, 0) 0 [some (.ref b), none, none] [] h Q := by
  have hL0 := hL
  obtain ⟨hO, hP, hM, hJ, hR, hC, su, hS⟩ := hL
  have hP1 := hP.1
  have hM1 := hM.1
  have hJ1 := hJ.1
  have hR1 := hR.1
  have hC1 := hC.1
  have hP2 := hP.2.1
  have hP3 := hP.2.2.1
  have hP4 := hP.2.2.2.1
  have hM2 := hM.2.1
  have hM3 := hM.2.2.1
  have hM4 := hM.2.2.2
  refine wp_iconst (n := 1) (v := 0) dX5_unequalPools_0 rfl (by decide) ?_
  refine wp_istore_n (n := 2) dX5_unequalPools_1 rfl rfl rfl rfl ?_
  refine wp_iconst (n := 3) (v := 0) dX5_unequalPools_2 rfl (by decide) ?_
  refine wp_istore_n (n := 4) dX5_unequalPools_3 rfl rfl rfl rfl ?_
  suffices L : ∀ j, j ≤ np → WP Γ MX5_unequalPools (4, 91, 0, 0) 4 [some (.ref b), some (.int (setB (fun j => decide (¬ bkd nb rw (nI j) ne = nI (cnt pl (nI j) nb))) j)), some (.int (nI j))] [] h Q from L 0 (Nat.zero_le _)
  refine ax_up np (fun j hj ih => ?_)
  refine wp_iload_n (n := 5) dX5_unequalPools_4 rfl rfl ?_
  refine wp_aload_n (n := 6) dX5_unequalPools_5 rfl rfl ?_
  refine wp_getf (n := 9) dX5_unequalPools_6 rfl flX5_12 (by repeat first | assumption | exact ax_set_self _ _ _ | exact ax_newA_self _ _ _ | refine (ax_set_ne _ _ (by omega)).trans ?_ | refine (ax_newA_ne _ _ _ (by omega)).trans ?_) (by rfl) ?_
  refine wp_getf (n := 12) dX5_unequalPools_9 rfl flX5_167 (by repeat first | assumption | exact ax_set_self _ _ _ | exact ax_newA_self _ _ _ | refine (ax_set_ne _ _ (by omega)).trans ?_ | refine (ax_newA_ne _ _ _ (by omega)).trans ?_) (by rfl) ?_
  refine wp_icmp_ge (t := 43) (n := 15) dX5_unequalPools_12 (by decide) rfl (fun hc => ?_) (fun hc => ?_)
  · rw [nI_le9 (by omega) (by omega)] at hc
    obtain rfl : j = np := by omega
    refine wp_iload_n (n := 44) dX5_unequalPools_43 rfl rfl ?_
    exact wp_ireturn dX5_unequalPools_44 rfl rfl (k)
  · rw [nI_le9 (by omega) (by omega)] at hc
    have ih := ih (by omega)
    refine wp_aload_n (n := 16) dX5_unequalPools_15 rfl rfl ?_
    refine wp_iload_n (n := 17) dX5_unequalPools_16 rfl rfl ?_
    refine wp_callV1 (n := 20) (rm' := (3, 70, 0, 0)) rfl dX5_unequalPools_17 rfl mlX5_200 (by repeat first | assumption | exact ax_set_self _ _ _ | exact ax_newA_self _ _ _ | refine (ax_set_ne _ _ (by omega)).trans ?_ | refine (ax_newA_ne _ _ _ (by omega)).trans ?_) rfl rfl rfl rfl rfl ?_
    refine s_X5_bookedIn hL0 he ?_
    show WP Γ _ _ _ _ _ _ _
    refine wp_aload_n (n := 21) dX5_unequalPools_20 rfl rfl ?_
    refine wp_getf (n := 24) dX5_unequalPools_21 rfl flX5_21 (by repeat first | assumption | exact ax_set_self _ _ _ | exact ax_newA_self _ _ _ | refine (ax_set_ne _ _ (by omega)).trans ?_ | refine (ax_newA_ne _ _ _ (by omega)).trans ?_) (by rfl) ?_
    refine wp_iload_n (n := 25) dX5_unequalPools_24 rfl rfl ?_
    refine wp_callV1 (n := 28) (rm' := (0, 0, 0, 0)) rfl dX5_unequalPools_25 rfl mlX5_83 (by repeat first | assumption | exact ax_set_self _ _ _ | exact ax_newA_self _ _ _ | refine (ax_set_ne _ _ (by omega)).trans ?_ | refine (ax_newA_ne _ _ _ (by omega)).trans ?_) rfl rfl rfl rfl rfl ?_
    refine s_X1_countIn hM hb ?_
    show WP Γ _ _ _ _ _ _ _
    refine wp_icmp_eq (t := 37) (n := 31) dX5_unequalPools_28 (by decide) rfl (fun hq => ?_) (fun hq => ?_)
    · refine wp_iinc (n := 40) dX5_unequalPools_37 rfl rfl (nI_inc j) rfl rfl rfl ?_
      refine wp_goto (t := 4) dX5_unequalPools_40 (by decide) ?_
      simp only [setB, hq, not_true_eq_false, decide_false, Bool.false_eq_true, if_false] at ih
      exact ih
    · refine wp_iload_n (n := 32) dX5_unequalPools_31 rfl rfl ?_
      refine wp_iconst (n := 33) (v := nI 1) dX5_unequalPools_32 rfl (by decide) ?_
      refine wp_iload_n (n := 34) dX5_unequalPools_33 rfl rfl ?_
      refine wp_ishl (n := 35) dX5_unequalPools_34 rfl ?_
      refine wp_ior (n := 36) dX5_unequalPools_35 rfl ?_
      refine wp_istore_n (n := 37) dX5_unequalPools_36 rfl rfl rfl rfl ?_
      refine wp_iinc (n := 40) dX5_unequalPools_37 rfl rfl (nI_inc j) rfl rfl rfl ?_
      refine wp_goto (t := 4) dX5_unequalPools_40 (by decide) ?_
      simp only [setB, hq, not_false_eq_true, decide_true, if_true] at ih
      exact ih
/-- what a pool's checkpoints differ by beyond the journal -/
def audC (rw cw : FI) (c1 c2 m1 m2 j : Nat) : Int32 := (cw (c2 * 9 + j) - cw (c1 * 9 + j)) - sumI (fun i => chgJ rw (nI j) (m1 + i)) (m2 - m1)
theorem s_X5_auditedChange {c1 c2 m1 m2 j : Nat} (hL : LedP h b np qu ra re le ln nb pl tm ne rw bk nh hw nc cw t y pk) (h1 : c1 < 10) (h2 : c2 < 10) (hj : j < 8) (e1 : cw (c1 * 9 + 8) = nI m1) (e2 : cw (c2 * 9 + 8) = nI m2) (hm : m1 ≤ m2) (hm2 : m2 ≤ 300)
    (k : Q (.inl (some (.int (audC rw cw c1 c2 m1 m2 j)))) h) : WP Γ MX5_auditedChange (3, 70, 0, 0) 0 [some (.ref b), some (.int (nI c1)), some (.int (nI c2)), some (.int (nI j)), none, none] [] h Q := by
  have hL0 := hL
  obtain ⟨hO, hP, hM, hJ, hR, hC, su, hS⟩ := hL
  have hP1 := hP.1
  have hM1 := hM.1
  have hJ1 := hJ.1
  have hR1 := hR.1
  have hC1 := hC.1
  have hP2 := hP.2.1
  have hP3 := hP.2.2.1
  have hP4 := hP.2.2.2.1
  have hM2 := hM.2.1
  have hM3 := hM.2.2.1
  have hM4 := hM.2.2.2
  refine wp_aload_n (n := 1) dX5_auditedChange_0 rfl rfl ?_
  refine wp_getf (n := 4) dX5_auditedChange_1 rfl flX5_42 (by repeat first | assumption | exact ax_set_self _ _ _ | exact ax_newA_self _ _ _ | refine (ax_set_ne _ _ (by omega)).trans ?_ | refine (ax_newA_ne _ _ _ (by omega)).trans ?_) (by rfl) ?_
  refine wp_iload_n (n := 5) dX5_auditedChange_4 rfl rfl ?_
  refine wp_iload_n (n := 6) dX5_auditedChange_5 rfl rfl ?_
  refine wp_callV2 (n := 9) (rm' := (0, 0, 0, 0)) rfl dX5_auditedChange_6 rfl mlX5_219 (by repeat first | assumption | exact ax_set_self _ _ _ | exact ax_newA_self _ _ _ | refine (ax_set_ne _ _ (by omega)).trans ?_ | refine (ax_newA_ne _ _ _ (by omega)).trans ?_) rfl rfl rfl rfl rfl ?_
  refine s_X2_blocksOf hC h2 (by omega) ?_
  show WP Γ _ _ _ _ _ _ _
  refine wp_aload_n (n := 10) dX5_auditedChange_9 rfl rfl ?_
  refine wp_getf (n := 13) dX5_auditedChange_10 rfl flX5_42 (by repeat first | assumption | exact ax_set_self _ _ _ | exact ax_newA_self _ _ _ | refine (ax_set_ne _ _ (by omega)).trans ?_ | refine (ax_newA_ne _ _ _ (by omega)).trans ?_) (by rfl) ?_
  refine wp_iload_n (n := 14) dX5_auditedChange_13 rfl rfl ?_
  refine wp_iload_n (n := 15) dX5_auditedChange_14 rfl rfl ?_
  refine wp_callV2 (n := 18) (rm' := (0, 0, 0, 0)) rfl dX5_auditedChange_15 rfl mlX5_219 (by repeat first | assumption | exact ax_set_self _ _ _ | exact ax_newA_self _ _ _ | refine (ax_set_ne _ _ (by omega)).trans ?_ | refine (ax_newA_ne _ _ _ (by omega)).trans ?_) rfl rfl rfl rfl rfl ?_
  refine s_X2_blocksOf hC h1 (by omega) ?_
  show WP Γ _ _ _ _ _ _ _
  refine wp_isub (n := 19) dX5_auditedChange_18 rfl ?_
  refine wp_istore (n := 21) dX5_auditedChange_19 rfl rfl rfl rfl ?_
  refine wp_aload_n (n := 22) dX5_auditedChange_21 rfl rfl ?_
  refine wp_getf (n := 25) dX5_auditedChange_22 rfl flX5_28 (by repeat first | assumption | exact ax_set_self _ _ _ | exact ax_newA_self _ _ _ | refine (ax_set_ne _ _ (by omega)).trans ?_ | refine (ax_newA_ne _ _ _ (by omega)).trans ?_) (by rfl) ?_
  refine wp_iload_n (n := 26) dX5_auditedChange_25 rfl rfl ?_
  refine wp_aload_n (n := 27) dX5_auditedChange_26 rfl rfl ?_
  refine wp_getf (n := 30) dX5_auditedChange_27 rfl flX5_42 (by repeat first | assumption | exact ax_set_self _ _ _ | exact ax_newA_self _ _ _ | refine (ax_set_ne _ _ (by omega)).trans ?_ | refine (ax_newA_ne _ _ _ (by omega)).trans ?_) (by rfl) ?_
  refine wp_iload_n (n := 31) dX5_auditedChange_30 rfl rfl ?_
  refine wp_callV1 (n := 34) (rm' := (0, 0, 0, 0)) rfl dX5_auditedChange_31 rfl mlX5_222 (by repeat first | assumption | exact ax_set_self _ _ _ | exact ax_newA_self _ _ _ | refine (ax_set_ne _ _ (by omega)).trans ?_ | refine (ax_newA_ne _ _ _ (by omega)).trans ?_) rfl rfl rfl rfl rfl ?_
  refine s_X2_entriesOf hC h1 ?_
  show WP Γ _ _ _ _ _ _ _
  refine wp_aload_n (n := 35) dX5_auditedChange_34 rfl rfl ?_
  refine wp_getf (n := 38) dX5_auditedChange_35 rfl flX5_42 (by repeat first | assumption | exact ax_set_self _ _ _ | exact ax_newA_self _ _ _ | refine (ax_set_ne _ _ (by omega)).trans ?_ | refine (ax_newA_ne _ _ _ (by omega)).trans ?_) (by rfl) ?_
  refine wp_iload_n (n := 39) dX5_auditedChange_38 rfl rfl ?_
  refine wp_callV1 (n := 42) (rm' := (0, 0, 0, 0)) rfl dX5_auditedChange_39 rfl mlX5_222 (by repeat first | assumption | exact ax_set_self _ _ _ | exact ax_newA_self _ _ _ | refine (ax_set_ne _ _ (by omega)).trans ?_ | refine (ax_newA_ne _ _ _ (by omega)).trans ?_) rfl rfl rfl rfl rfl ?_
  refine s_X2_entriesOf hC h2 ?_
  show WP Γ _ _ _ _ _ _ _
  rw [e1, e2]
  refine wp_callV3 (n := 45) (rm' := (2, 45, 0, 0)) rfl dX5_auditedChange_42 rfl mlX5_98 (by repeat first | assumption | exact ax_set_self _ _ _ | exact ax_newA_self _ _ _ | refine (ax_set_ne _ _ (by omega)).trans ?_ | refine (ax_newA_ne _ _ _ (by omega)).trans ?_) rfl rfl rfl rfl rfl ?_
  refine s_X4_net hJ hm2 hm ?_
  show WP Γ _ _ _ _ _ _ _
  refine wp_istore (n := 47) dX5_auditedChange_45 rfl rfl rfl rfl ?_
  refine wp_iload (n := 49) dX5_auditedChange_47 rfl rfl ?_
  refine wp_iload (n := 51) dX5_auditedChange_49 rfl rfl ?_
  refine wp_isub (n := 52) dX5_auditedChange_51 rfl ?_
  exact wp_ireturn dX5_auditedChange_52 rfl rfl (k)
theorem s_X5_auditedPools {c1 c2 m1 m2 : Nat} (hL : LedP h b np qu ra re le ln nb pl tm ne rw bk nh hw nc cw t y pk) (hn : np ≤ 8) (h1 : c1 < 10) (h2 : c2 < 10) (e1 : cw (c1 * 9 + 8) = nI m1) (e2 : cw (c2 * 9 + 8) = nI m2) (hm : m1 ≤ m2) (hm2 : m2 ≤ 300)
    (k : Q (.inl (some (.int (setB (fun j => decide (¬ audC rw cw c1 c2 m1 m2 j = 0)) np)))) h) : WP Γ MX5_auditedPools (4, 95, 0, 0) 0 [some (.ref b), some (.int (nI c1)), some (.int (nI c2)), none, none] [] h Q := by
  have hL0 := hL
  obtain ⟨hO, hP, hM, hJ, hR, hC, su, hS⟩ := hL
  have hP1 := hP.1
  have hM1 := hM.1
  have hJ1 := hJ.1
  have hR1 := hR.1
  have hC1 := hC.1
  have hP2 := hP.2.1
  have hP3 := hP.2.2.1
  have hP4 := hP.2.2.2.1
  have hM2 := hM.2.1
  have hM3 := hM.2.2.1
  have hM4 := hM.2.2.2
  refine wp_iconst (n := 1) (v := 0) dX5_auditedPools_0 rfl (by decide) ?_
  refine wp_istore_n (n := 2) dX5_auditedPools_1 rfl rfl rfl rfl ?_
  refine wp_iconst (n := 3) (v := 0) dX5_auditedPools_2 rfl (by decide) ?_
  refine wp_istore (n := 5) dX5_auditedPools_3 rfl rfl rfl rfl ?_
  suffices L : ∀ j, j ≤ np → WP Γ MX5_auditedPools (4, 95, 0, 0) 5 [some (.ref b), some (.int (nI c1)), some (.int (nI c2)), some (.int (setB (fun j => decide (¬ audC rw cw c1 c2 m1 m2 j = 0)) j)), some (.int (nI j))] [] h Q from L 0 (Nat.zero_le _)
  refine ax_up np (fun j hj ih => ?_)
  refine wp_iload (n := 7) dX5_auditedPools_5 rfl rfl ?_
  refine wp_aload_n (n := 8) dX5_auditedPools_7 rfl rfl ?_
  refine wp_getf (n := 11) dX5_auditedPools_8 rfl flX5_12 (by repeat first | assumption | exact ax_set_self _ _ _ | exact ax_newA_self _ _ _ | refine (ax_set_ne _ _ (by omega)).trans ?_ | refine (ax_newA_ne _ _ _ (by omega)).trans ?_) (by rfl) ?_
  refine wp_getf (n := 14) dX5_auditedPools_11 rfl flX5_167 (by repeat first | assumption | exact ax_set_self _ _ _ | exact ax_newA_self _ _ _ | refine (ax_set_ne _ _ (by omega)).trans ?_ | refine (ax_newA_ne _ _ _ (by omega)).trans ?_) (by rfl) ?_
  refine wp_icmp_ge (t := 41) (n := 17) dX5_auditedPools_14 (by decide) rfl (fun hc => ?_) (fun hc => ?_)
  · rw [nI_le9 (by omega) (by omega)] at hc
    obtain rfl : j = np := by omega
    refine wp_iload_n (n := 42) dX5_auditedPools_41 rfl rfl ?_
    exact wp_ireturn dX5_auditedPools_42 rfl rfl (k)
  · rw [nI_le9 (by omega) (by omega)] at hc
    have ih := ih (by omega)
    refine wp_aload_n (n := 18) dX5_auditedPools_17 rfl rfl ?_
    refine wp_iload_n (n := 19) dX5_auditedPools_18 rfl rfl ?_
    refine wp_iload_n (n := 20) dX5_auditedPools_19 rfl rfl ?_
    refine wp_iload (n := 22) dX5_auditedPools_20 rfl rfl ?_
    refine wp_callV3 (n := 25) (rm' := (3, 70, 0, 0)) rfl dX5_auditedPools_22 rfl mlX5_216 (by repeat first | assumption | exact ax_set_self _ _ _ | exact ax_newA_self _ _ _ | refine (ax_set_ne _ _ (by omega)).trans ?_ | refine (ax_newA_ne _ _ _ (by omega)).trans ?_) rfl rfl rfl rfl rfl ?_
    refine s_X5_auditedChange hL0 h1 h2 (by omega) e1 e2 hm hm2 ?_
    show WP Γ _ _ _ _ _ _ _
    refine wp_if_eq (t := 35) (n := 28) dX5_auditedPools_25 (by decide) rfl (fun hq => ?_) (fun hq => ?_)
    · refine wp_iinc (n := 38) dX5_auditedPools_35 rfl rfl (nI_inc j) rfl rfl rfl ?_
      refine wp_goto (t := 5) dX5_auditedPools_38 (by decide) ?_
      simp only [setB, hq, not_true_eq_false, decide_false, Bool.false_eq_true, if_false] at ih
      exact ih
    · refine wp_iload_n (n := 29) dX5_auditedPools_28 rfl rfl ?_
      refine wp_iconst (n := 30) (v := nI 1) dX5_auditedPools_29 rfl (by decide) ?_
      refine wp_iload (n := 32) dX5_auditedPools_30 rfl rfl ?_
      refine wp_ishl (n := 33) dX5_auditedPools_32 rfl ?_
      refine wp_ior (n := 34) dX5_auditedPools_33 rfl ?_
      refine wp_istore_n (n := 35) dX5_auditedPools_34 rfl rfl rfl rfl ?_
      refine wp_iinc (n := 38) dX5_auditedPools_35 rfl rfl (nI_inc j) rfl rfl rfl ?_
      refine wp_goto (t := 5) dX5_auditedPools_38 (by decide) ?_
      simp only [setB, hq, not_false_eq_true, decide_true, if_true] at ih
      exact ih
end
