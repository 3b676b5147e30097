/-! ===== Ledger ===== -/
abbrev FI : Type := Nat → Int32
/-- a ledger at b: 19 cells; its pools, map, journal, reservations, checkpoints, time and way; what is picked -/
def LedP (h : AH) (b : Nat) (np : Nat) (qu ra : FI) (re : Nat → UInt32) (le ln : FI) (nb : Nat) (pl tm : FI) (ne : Nat) (rw : FI) (bk : Nat → Int64) (nh : Nat) (hw : FI) (nc : Nat) (cw : FI) (t : Int32) (y : Nat) (pk : FI) : Prop :=
  h.2 b = some (.inr (5, [.ref (b + 1), .ref (b + 7), .ref (b + 11), .ref (b + 14), .ref (b + 16), .int t, .int (nI y), .ref (b + 18)])) ∧ PoolsAt h (b + 1) np qu ra re le ln ∧ MapAt h (b + 7) nb pl tm pk ∧ JrnAt h (b + 11) ne rw bk ∧ ResAt h (b + 14) nh hw ∧ ChkAt h (b + 16) nc cw ∧ ∃ su : FI, h.2 (b + 18) = some (.inl (.int, 8, .inl su))
def LedAt (h : AH) (b : Nat) (np : Nat) (qu ra : FI) (re : Nat → UInt32) (le ln : FI) (nb : Nat) (pl tm : FI) (ne : Nat) (rw : FI) (bk : Nat → Int64) (nh : Nat) (hw : FI) (nc : Nat) (cw : FI) (t : Int32) (y : Nat) : Prop := ∃ pk, LedP h b np qu ra re le ln nb pl tm ne rw bk nh hw nc cw t y pk
def avl (pl : FI) (nb : Nat) (hw : FI) (nh : Nat) (x : Int32) : Int32 := nI (cnt pl x nb) - pSum hw 0 x nh
def roo (qu pl : FI) (nb : Nat) (hw : FI) (nh : Nat) (j : Nat) : Int32 := qu j - nI (cnt pl (nI j) nb) - pSum hw 1 (nI j) nh
def opn (nb : Nat) (x : Int32) : Int32 := if x = 0 then nI nb else 0
def bkd (nb : Nat) (rw : FI) (x : Int32) (n : Nat) : Int32 := opn nb x + sumI (chgJ rw x) n
/-- what stands against a transfer; own is what a reservation holds for it -/
def obs (qu pl : FI) (nb : Nat) (hw : FI) (nh : Nat) (x : Int32) (j : Nat) (c own : Int32) : Int32 := if avl pl nb hw nh x + own < c then -3 else if roo qu pl nb hw nh j + own < c then -4 else 0
section
variable {Γ : GE} {h : AH} {Q : PO} {b np nb ne nh nc y : Nat} {qu ra le ln pl tm rw hw cw pk : FI} {re : Nat → UInt32} {bk : Nat → Int64} {t x : Int32}
theorem LedP.fr {h' : AH} {lo hi : Nat} (hL : LedP h b np qu ra re le ln nb pl tm ne rw bk nh hw nc cw t y pk) (hF : ax_fr lo hi h h') (hd : hi ≤ b ∨ b + 19 ≤ lo) : LedP h' b np qu ra re le ln nb pl tm ne rw bk nh hw nc cw t y pk := by
  obtain ⟨hO, hP, hM, hJ, hR, hC, su, hS⟩ := hL
  exact ⟨hF.get hO (by omega), hP.fr hF (by omega), hM.fr hF (by omega), hJ.fr hF (by omega), hR.fr hF (by omega), hC.fr hF (by omega), su, hF.get hS (by omega)⟩
theorem LedAt.fr {h' : AH} {lo hi : Nat} (hL : LedAt h b np qu ra re le ln nb pl tm ne rw bk nh hw nc cw t y) (hF : ax_fr lo hi h h') (hd : hi ≤ b ∨ b + 19 ≤ lo) : LedAt h' b np qu ra re le ln nb pl tm ne rw bk nh hw nc cw t y := by
  obtain ⟨pk, hL⟩ := hL
  exact ⟨pk, hL.fr hF hd⟩
theorem LedP.map {h' : AH} {n' : Nat} {pl' tm' pk' : FI} (hL : LedP h b np qu ra re le ln nb pl tm ne rw bk nh hw nc cw t y pk) (hF : ax_fr (b + 7) (b + 11) h h') (hM : MapAt h' (b + 7) n' pl' tm' pk') : LedP h' b np qu ra re le ln n' pl' tm' ne rw bk nh hw nc cw t y pk' := by
  obtain ⟨hO, hP, _, hJ, hR, hC, su, hS⟩ := hL
  exact ⟨hF.get hO (by omega), hP.fr hF (by omega), hM, hJ.fr hF (by omega), hR.fr hF (by omega), hC.fr hF (by omega), su, hF.get hS (by omega)⟩
theorem LedP.jrn {h' : AH} {n' : Nat} {rw' : FI} {bk' : Nat → Int64} (hL : LedP h b np qu ra re le ln nb pl tm ne rw bk nh hw nc cw t y pk) (hF : ax_fr (b + 11) (b + 14) h h') (hJ : JrnAt h' (b + 11) n' rw' bk') : LedP h' b np qu ra re le ln nb pl tm n' rw' bk' nh hw nc cw t y pk := by
  obtain ⟨hO, hP, hM, _, hR, hC, su, hS⟩ := hL
  exact ⟨hF.get hO (by omega), hP.fr hF (by omega), hM.fr hF (by omega), hJ, hR.fr hF (by omega), hC.fr hF (by omega), su, hF.get hS (by omega)⟩
theorem LedP.res {h' : AH} {n' : Nat} {hw' : FI} (hL : LedP h b np qu ra re le ln nb pl tm ne rw bk nh hw nc cw t y pk) (hF : ax_fr (b + 14) (b + 16) h h') (hR : ResAt h' (b + 14) n' hw') : LedP h' b np qu ra re le ln nb pl tm ne rw bk n' hw' nc cw t y pk := by
  obtain ⟨hO, hP, hM, hJ, _, hC, su, hS⟩ := hL
  exact ⟨hF.get hO (by omega), hP.fr hF (by omega), hM.fr hF (by omega), hJ.fr hF (by omega), hR, hC.fr hF (by omega), su, hF.get hS (by omega)⟩
theorem LedP.chk {h' : AH} {n' : Nat} {cw' : FI} (hL : LedP h b np qu ra re le ln nb pl tm ne rw bk nh hw nc cw t y pk) (hF : ax_fr (b + 16) (b + 18) h h') (hC : ChkAt h' (b + 16) n' cw') : LedP h' b np qu ra re le ln nb pl tm ne rw bk nh hw n' cw' t y pk := by
  obtain ⟨hO, hP, hM, hJ, hR, _, su, hS⟩ := hL
  exact ⟨hF.get hO (by omega), hP.fr hF (by omega), hM.fr hF (by omega), hJ.fr hF (by omega), hR.fr hF (by omega), hC, su, hF.get hS (by omega)⟩
theorem LedP.poo {h' : AH} {n' : Nat} {qu' ra' le' ln' : FI} {re' : Nat → UInt32} (hL : LedP h b np qu ra re le ln nb pl tm ne rw bk nh hw nc cw t y pk) (hF : ax_fr (b + 1) (b + 7) h h') (hP : PoolsAt h' (b + 1) n' qu' ra' re' le' ln') : LedP h' b n' qu' ra' re' le' ln' nb pl tm ne rw bk nh hw nc cw t y pk := by
  obtain ⟨hO, _, hM, hJ, hR, hC, su, hS⟩ := hL
  exact ⟨hF.get hO (by omega), hP, hM.fr hF (by omega), hJ.fr hF (by omega), hR.fr hF (by omega), hC.fr hF (by omega), su, hF.get hS (by omega)⟩
theorem LedP.top (hL : LedP h b np qu ra re le ln nb pl tm ne rw bk nh hw nc cw t y pk) (t' : Int32) (y' : Nat) : LedP (ax_set h b (.inr (5, [.ref (b + 1), .ref (b + 7), .ref (b + 11), .ref (b + 14), .ref (b + 16), .int t', .int (nI y'), .ref (b + 18)]))) b np qu ra re le ln nb pl tm ne rw bk nh hw nc cw t' y' pk := by
  obtain ⟨hO, hP, hM, hJ, hR, hC, su, hS⟩ := hL
  have hF : ax_fr b (b + 1) h (ax_set h b (.inr (5, [.ref (b + 1), .ref (b + 7), .ref (b + 11), .ref (b + 14), .ref (b + 16), .int t', .int (nI y'), .ref (b + 18)]))) := ax_fr.set (by omega)
  exact ⟨ax_set_self _ _ _, hP.fr hF (by omega), hM.fr hF (by omega), hJ.fr hF (by omega), hR.fr hF (by omega), hC.fr hF (by omega), su, hF.get hS (by omega)⟩
theorem s_X5_availableIn (hL : LedP h b np qu ra re le ln nb pl tm ne rw bk nh hw nc cw t y pk) (hn : nb ≤ 200) (hh : nh ≤ 60)
    (k : Q (.inl (some (.int (avl pl nb hw nh x)))) h) : WP Γ MX5_availableIn (1, 25, 0, 0) 0 [some (.ref b), some (.int x)] [] h Q := by
  obtain ⟨hO, hP, hM, hJ, hR, hC, su, hS⟩ := hL
  have hP1 := hP.1
  have hM1 := hM.1
  have hJ1 := hJ.1
  have hR1 := hR.1
  have hC1 := hC.1
  have hP2 := hP.2.1
  have hP3 := hP.2.2.1
  have hP4 := hP.2.2.2.1
  have hM2 := hM.2.1
  have hM3 := hM.2.2.1
  have hM4 := hM.2.2.2
  refine wp_aload_n (n := 1) dX5_availableIn_0 rfl rfl ?_
  refine wp_getf (n := 4) dX5_availableIn_1 rfl flX5_21 (by repeat first | assumption | exact ax_set_self _ _ _ | exact ax_newA_self _ _ _ | refine (ax_set_ne _ _ (by omega)).trans ?_ | refine (ax_newA_ne _ _ _ (by omega)).trans ?_) (by rfl) ?_
  refine wp_iload_n (n := 5) dX5_availableIn_4 rfl rfl ?_
  refine wp_callV1 (n := 8) (rm' := (0, 0, 0, 0)) rfl dX5_availableIn_5 rfl mlX5_83 (by repeat first | assumption | exact ax_set_self _ _ _ | exact ax_newA_self _ _ _ | refine (ax_set_ne _ _ (by omega)).trans ?_ | refine (ax_newA_ne _ _ _ (by omega)).trans ?_) rfl rfl rfl rfl rfl ?_
  refine s_X1_countIn hM hn ?_
  show WP Γ _ _ _ _ _ _ _
  refine wp_aload_n (n := 9) dX5_availableIn_8 rfl rfl ?_
  refine wp_getf (n := 12) dX5_availableIn_9 rfl flX5_35 (by repeat first | assumption | exact ax_set_self _ _ _ | exact ax_newA_self _ _ _ | refine (ax_set_ne _ _ (by omega)).trans ?_ | refine (ax_newA_ne _ _ _ (by omega)).trans ?_) (by rfl) ?_
  refine wp_iconst (n := 13) (v := 0) dX5_availableIn_12 rfl (by decide) ?_
  refine wp_iload_n (n := 14) dX5_availableIn_13 rfl rfl ?_
  refine wp_callV2 (n := 17) (rm' := (0, 0, 0, 0)) rfl dX5_availableIn_14 rfl mlX5_87 (by repeat first | assumption | exact ax_set_self _ _ _ | exact ax_newA_self _ _ _ | refine (ax_set_ne _ _ (by omega)).trans ?_ | refine (ax_newA_ne _ _ _ (by omega)).trans ?_) rfl rfl rfl rfl rfl ?_
  refine s_X7_pendingSum (s := 0) hR hh (by omega) ?_
  show WP Γ _ _ _ _ _ _ _
  refine wp_isub (n := 18) dX5_availableIn_17 rfl ?_
  exact wp_ireturn dX5_availableIn_18 rfl rfl (k)
theorem s_X5_roomIn {j : Nat} (hL : LedP h b np qu ra re le ln nb pl tm ne rw bk nh hw nc cw t y pk) (hn : nb ≤ 200) (hh : nh ≤ 60) (hj : j < 8)
    (k : Q (.inl (some (.int (roo qu pl nb hw nh j)))) h) : WP Γ MX5_roomIn (1, 25, 0, 0) 0 [some (.ref b), some (.int (nI j))] [] h Q := by
  obtain ⟨hO, hP, hM, hJ, hR, hC, su, hS⟩ := hL
  have hP1 := hP.1
  have hM1 := hM.1
  have hJ1 := hJ.1
  have hR1 := hR.1
  have hC1 := hC.1
  have hP2 := hP.2.1
  have hP3 := hP.2.2.1
  have hP4 := hP.2.2.2.1
  have hM2 := hM.2.1
  have hM3 := hM.2.2.1
  have hM4 := hM.2.2.2
  refine wp_aload_n (n := 1) dX5_roomIn_0 rfl rfl ?_
  refine wp_getf (n := 4) dX5_roomIn_1 rfl flX5_12 (by repeat first | assumption | exact ax_set_self _ _ _ | exact ax_newA_self _ _ _ | refine (ax_set_ne _ _ (by omega)).trans ?_ | refine (ax_newA_ne _ _ _ (by omega)).trans ?_) (by rfl) ?_
  refine wp_getf (n := 7) dX5_roomIn_4 rfl flX5_91 (by repeat first | assumption | exact ax_set_self _ _ _ | exact ax_newA_self _ _ _ | refine (ax_set_ne _ _ (by omega)).trans ?_ | refine (ax_newA_ne _ _ _ (by omega)).trans ?_) (by rfl) ?_
  refine wp_iload_n (n := 8) dX5_roomIn_7 rfl rfl ?_
  refine wp_iald (n := 9) _ dX5_roomIn_8 rfl (by repeat first | assumption | exact ax_set_self _ _ _ | exact ax_newA_self _ _ _ | refine (ax_set_ne _ _ (by omega)).trans ?_ | refine (ax_newA_ne _ _ _ (by omega)).trans ?_) rfl (by omega) (by decide) ?_
  refine wp_aload_n (n := 10) dX5_roomIn_9 rfl rfl ?_
  refine wp_getf (n := 13) dX5_roomIn_10 rfl flX5_21 (by repeat first | assumption | exact ax_set_self _ _ _ | exact ax_newA_self _ _ _ | refine (ax_set_ne _ _ (by omega)).trans ?_ | refine (ax_newA_ne _ _ _ (by omega)).trans ?_) (by rfl) ?_
  refine wp_iload_n (n := 14) dX5_roomIn_13 rfl rfl ?_
  refine wp_callV1 (n := 17) (rm' := (0, 0, 0, 0)) rfl dX5_roomIn_14 rfl mlX5_83 (by repeat first | assumption | exact ax_set_self _ _ _ | exact ax_newA_self _ _ _ | refine (ax_set_ne _ _ (by omega)).trans ?_ | refine (ax_newA_ne _ _ _ (by omega)).trans ?_) rfl rfl rfl rfl rfl ?_
  refine s_X1_countIn hM hn ?_
  show WP Γ _ _ _ _ _ _ _
  refine wp_isub (n := 18) dX5_roomIn_17 rfl ?_
  refine wp_aload_n (n := 19) dX5_roomIn_18 rfl rfl ?_
  refine wp_getf (n := 22) dX5_roomIn_19 rfl flX5_35 (by repeat first | assumption | exact ax_set_self _ _ _ | exact ax_newA_self _ _ _ | refine (ax_set_ne _ _ (by omega)).trans ?_ | refine (ax_newA_ne _ _ _ (by omega)).trans ?_) (by rfl) ?_
  refine wp_iconst (n := 23) (v := nI 1) dX5_roomIn_22 rfl (by decide) ?_
  refine wp_iload_n (n := 24) dX5_roomIn_23 rfl rfl ?_
  refine wp_callV2 (n := 27) (rm' := (0, 0, 0, 0)) rfl dX5_roomIn_24 rfl mlX5_87 (by repeat first | assumption | exact ax_set_self _ _ _ | exact ax_newA_self _ _ _ | refine (ax_set_ne _ _ (by omega)).trans ?_ | refine (ax_newA_ne _ _ _ (by omega)).trans ?_) rfl rfl rfl rfl rfl ?_
  refine s_X7_pendingSum hR hh (by omega) ?_
  show WP Γ _ _ _ _ _ _ _
  refine wp_isub (n := 28) dX5_roomIn_27 rfl ?_
  exact wp_ireturn dX5_roomIn_28 rfl rfl (k)
theorem s_X5_opening (hL : LedP h b np qu ra re le ln nb pl tm ne rw bk nh hw nc cw t y pk)
    (k : Q (.inl (some (.int (opn nb x)))) h) : WP Γ MX5_opening (0, 0, 0, 0) 0 [some (.ref b), some (.int x)] [] h Q := by
  obtain ⟨hO, hP, hM, hJ, hR, hC, su, hS⟩ := hL
  have hP1 := hP.1
  have hM1 := hM.1
  have hJ1 := hJ.1
  have hR1 := hR.1
  have hC1 := hC.1
  have hP2 := hP.2.1
  have hP3 := hP.2.2.1
  have hP4 := hP.2.2.2.1
  have hM2 := hM.2.1
  have hM3 := hM.2.2.1
  have hM4 := hM.2.2.2
  refine wp_iload_n (n := 1) dX5_opening_0 rfl rfl ?_
  refine wp_if_ne (t := 14) (n := 4) dX5_opening_1 (by decide) rfl (fun hc => ?_) (fun hc => ?_)
  · simp only [opn, if_neg hc] at k
    refine wp_iconst (n := 15) (v := 0) dX5_opening_14 rfl (by decide) ?_
    exact wp_ireturn dX5_opening_15 rfl rfl (k)
  · simp only [opn, if_pos hc] at k
    refine wp_aload_n (n := 5) dX5_opening_4 rfl rfl ?_
    refine wp_getf (n := 8) dX5_opening_5 rfl flX5_21 (by repeat first | assumption | exact ax_set_self _ _ _ | exact ax_newA_self _ _ _ | refine (ax_set_ne _ _ (by omega)).trans ?_ | refine (ax_newA_ne _ _ _ (by omega)).trans ?_) (by rfl) ?_
    refine wp_getf (n := 11) dX5_opening_8 rfl flX5_94 (by repeat first | assumption | exact ax_set_self _ _ _ | exact ax_newA_self _ _ _ | refine (ax_set_ne _ _ (by omega)).trans ?_ | refine (ax_newA_ne _ _ _ (by omega)).trans ?_) (by rfl) ?_
    refine wp_goto (t := 15) dX5_opening_11 (by decide) ?_
    exact wp_ireturn dX5_opening_15 rfl rfl (k)
theorem s_X5_bookedIn (hL : LedP h b np qu ra re le ln nb pl tm ne rw bk nh hw nc cw t y pk) (hn : ne ≤ 300)
    (k : Q (.inl (some (.int (bkd nb rw x ne)))) h) : WP Γ MX5_bookedIn (3, 70, 0, 0) 0 [some (.ref b), some (.int x)] [] h Q := by
  have hL0 := hL
  obtain ⟨hO, hP, hM, hJ, hR, hC, su, hS⟩ := hL
  have hP1 := hP.1
  have hM1 := hM.1
  have hJ1 := hJ.1
  have hR1 := hR.1
  have hC1 := hC.1
  have hP2 := hP.2.1
  have hP3 := hP.2.2.1
  have hP4 := hP.2.2.2.1
  have hM2 := hM.2.1
  have hM3 := hM.2.2.1
  have hM4 := hM.2.2.2
  refine wp_aload_n (n := 1) dX5_bookedIn_0 rfl rfl ?_
  refine wp_iload_n (n := 2) dX5_bookedIn_1 rfl rfl ?_
  refine wp_callV1 (n := 5) (rm' := (0, 0, 0, 0)) rfl dX5_bookedIn_2 rfl mlX5_95 (by repeat first | assumption | exact ax_set_self _ _ _ | exact ax_newA_self _ _ _ | refine (ax_set_ne _ _ (by omega)).trans ?_ | refine (ax_newA_ne _ _ _ (by omega)).trans ?_) rfl rfl rfl rfl rfl ?_
  refine s_X5_opening hL0 ?_
  show WP Γ _ _ _ _ _ _ _
  refine wp_aload_n (n := 6) dX5_bookedIn_5 rfl rfl ?_
  refine wp_getf (n := 9) dX5_bookedIn_6 rfl flX5_28 (by repeat first | assumption | exact ax_set_self _ _ _ | exact ax_newA_self _ _ _ | refine (ax_set_ne _ _ (by omega)).trans ?_ | refine (ax_newA_ne _ _ _ (by omega)).trans ?_) (by rfl) ?_
  refine wp_iload_n (n := 10) dX5_bookedIn_9 rfl rfl ?_
  refine wp_iconst (n := 11) (v := 0) dX5_bookedIn_10 rfl (by decide) ?_
  refine wp_aload_n (n := 12) dX5_bookedIn_11 rfl rfl ?_
  refine wp_getf (n := 15) dX5_bookedIn_12 rfl flX5_28 (by repeat first | assumption | exact ax_set_self _ _ _ | exact ax_newA_self _ _ _ | refine (ax_set_ne _ _ (by omega)).trans ?_ | refine (ax_newA_ne _ _ _ (by omega)).trans ?_) (by rfl) ?_
  refine wp_getf (n := 18) dX5_bookedIn_15 rfl flX5_62 (by repeat first | assumption | exact ax_set_self _ _ _ | exact ax_newA_self _ _ _ | refine (ax_set_ne _ _ (by omega)).trans ?_ | refine (ax_newA_ne _ _ _ (by omega)).trans ?_) (by rfl) ?_
  refine wp_callV3 (n := 21) (rm' := (2, 45, 0, 0)) rfl dX5_bookedIn_18 rfl mlX5_98 (by repeat first | assumption | exact ax_set_self _ _ _ | exact ax_newA_self _ _ _ | refine (ax_set_ne _ _ (by omega)).trans ?_ | refine (ax_newA_ne _ _ _ (by omega)).trans ?_) rfl rfl rfl rfl rfl ?_
  refine s_X4_net (m := 0) hJ hn (Nat.zero_le _) ?_
  show WP Γ _ _ _ _ _ _ _
  refine wp_iadd (n := 22) dX5_bookedIn_21 rfl ?_
  simp only [bkd] at k
  simp only [Nat.zero_add, Nat.sub_zero]
  exact wp_ireturn dX5_bookedIn_22 rfl rfl (k)
theorem s_X5_obstacle {j : Nat} {c own : Int32} (hL : LedP h b np qu ra re le ln nb pl tm ne rw bk nh hw nc cw t y pk) (hn : nb ≤ 200) (hh : nh ≤ 60) (hj : j < 8)
    (k : Q (.inl (some (.int (obs qu pl nb hw nh x j c own)))) h) : WP Γ MX5_obstacle (2, 46, 0, 0) 0 [some (.ref b), some (.int x), some (.int (nI j)), some (.int c), some (.int own)] [] h Q := by
  have hL0 := hL
  obtain ⟨hO, hP, hM, hJ, hR, hC, su, hS⟩ := hL
  have hP1 := hP.1
  have hM1 := hM.1
  have hJ1 := hJ.1
  have hR1 := hR.1
  have hC1 := hC.1
  have hP2 := hP.2.1
  have hP3 := hP.2.2.1
  have hP4 := hP.2.2.2.1
  have hM2 := hM.2.1
  have hM3 := hM.2.2.1
  have hM4 := hM.2.2.2
  refine wp_aload_n (n := 1) dX5_obstacle_0 rfl rfl ?_
  refine wp_iload_n (n := 2) dX5_obstacle_1 rfl rfl ?_
  refine wp_callV1 (n := 5) (rm' := (1, 25, 0, 0)) rfl dX5_obstacle_2 rfl mlX5_151 (by repeat first | assumption | exact ax_set_self _ _ _ | exact ax_newA_self _ _ _ | refine (ax_set_ne _ _ (by omega)).trans ?_ | refine (ax_newA_ne _ _ _ (by omega)).trans ?_) rfl rfl rfl rfl rfl ?_
  refine s_X5_availableIn hL0 hn hh ?_
  show WP Γ _ _ _ _ _ _ _
  refine wp_iload (n := 7) dX5_obstacle_5 rfl rfl ?_
  refine wp_iadd (n := 8) dX5_obstacle_7 rfl ?_
  refine wp_iload_n (n := 9) dX5_obstacle_8 rfl rfl ?_
  unfold obs at k
  refine wp_icmp_ge (t := 15) (n := 12) dX5_obstacle_9 (by decide) rfl (fun hc => ?_) (fun hc => ?_)
  · rw [if_neg (Int32.not_lt.mpr hc)] at k
    refine wp_aload_n (n := 16) dX5_obstacle_15 rfl rfl ?_
    refine wp_iload_n (n := 17) dX5_obstacle_16 rfl rfl ?_
    refine wp_callV1 (n := 20) (rm' := (1, 25, 0, 0)) rfl dX5_obstacle_17 rfl mlX5_154 (by repeat first | assumption | exact ax_set_self _ _ _ | exact ax_newA_self _ _ _ | refine (ax_set_ne _ _ (by omega)).trans ?_ | refine (ax_newA_ne _ _ _ (by omega)).trans ?_) rfl rfl rfl rfl rfl ?_
    refine s_X5_roomIn hL0 hn hh hj ?_
    show WP Γ _ _ _ _ _ _ _
    refine wp_iload (n := 22) dX5_obstacle_20 rfl rfl ?_
    refine wp_iadd (n := 23) dX5_obstacle_22 rfl ?_
    refine wp_iload_n (n := 24) dX5_obstacle_23 rfl rfl ?_
    refine wp_icmp_ge (t := 30) (n := 27) dX5_obstacle_24 (by decide) rfl (fun hq => ?_) (fun hq => ?_)
    · rw [if_neg (Int32.not_lt.mpr hq)] at k
      refine wp_iconst (n := 31) (v := 0) dX5_obstacle_30 rfl (by decide) ?_
      exact wp_ireturn dX5_obstacle_31 rfl rfl (k)
    · rw [if_pos (i32_not_le hq)] at k
      refine wp_bipush (n := 29) (v := (-4)) dX5_obstacle_27 rfl (by decide) ?_
      exact wp_ireturn dX5_obstacle_29 rfl rfl (k)
  · rw [if_pos (i32_not_le hc)] at k
    refine wp_bipush (n := 14) (v := (-3)) dX5_obstacle_12 rfl (by decide) ?_
    exact wp_ireturn dX5_obstacle_14 rfl rfl (k)
/-- the row of bits behind an entry was booked -/
def bokB (bk bk' : Nat → Int64) (ne : Nat) (pk : FI) : Prop := ∀ e d, e ≤ ne → d < 200 → blk bk' e d = if e = ne then decide (¬ pk d = 0) else blk bk e d
def putF (f : FI) (nb : Nat) (pk : FI) (v : Int32) : FI := fun d => if d < nb ∧ ¬ pk d = 0 then v else f d
theorem blk_zero {bk : Nat → Int64} {e d : Nat} (h : ∀ i, e * 4 ≤ i → i < e * 4 + 4 → bk i = 0) (hd : d < 200) : blk bk e d = false := by
  unfold blk
  rw [h _ (by omega) (by omega)]
  unfold testL
  simp
theorem s_X5_book {i j c d g : Int32} (hL : LedP h b np qu ra re le ln nb pl tm ne rw bk nh hw nc cw t y pk) (hA : Γ.2.1 ≤ b) (hn : nb ≤ 200) (he : ne < 300)
    (k : ∀ h' bk', ax_fr b (b + 19) h h' → LedP h' b np qu ra re le ln nb (putF pl nb pk j) (putF tm nb pk t) (ne + 1) (upd7 rw ne i j c d t g (-1)) bk' nh hw nc cw t y pk → bokB bk bk' ne pk → Q (.inl (some (.int (nI ne)))) h') : WP Γ MX5_book (1, 29, 0, 0) 0 [some (.ref b), some (.int i), some (.int j), some (.int c), some (.int d), some (.int g), none] [] h Q := by
  have hL0 := hL
  obtain ⟨hO, hP, hM, hJ, hR, hC, su, hS⟩ := hL
  have hP1 := hP.1
  have hM1 := hM.1
  have hJ1 := hJ.1
  have hR1 := hR.1
  have hC1 := hC.1
  have hP2 := hP.2.1
  have hP3 := hP.2.2.1
  have hP4 := hP.2.2.2.1
  have hM2 := hM.2.1
  have hM3 := hM.2.2.1
  have hM4 := hM.2.2.2
  refine wp_aload_n (n := 1) dX5_book_0 rfl rfl ?_
  refine wp_getf (n := 4) dX5_book_1 rfl flX5_28 (by repeat first | assumption | exact ax_set_self _ _ _ | exact ax_newA_self _ _ _ | refine (ax_set_ne _ _ (by omega)).trans ?_ | refine (ax_newA_ne _ _ _ (by omega)).trans ?_) (by rfl) ?_
  refine wp_iload_n (n := 5) dX5_book_4 rfl rfl ?_
  refine wp_iload_n (n := 6) dX5_book_5 rfl rfl ?_
  refine wp_iload_n (n := 7) dX5_book_6 rfl rfl ?_
  refine wp_iload (n := 9) dX5_book_7 rfl rfl ?_
  refine wp_aload_n (n := 10) dX5_book_9 rfl rfl ?_
  refine wp_getf (n := 13) dX5_book_10 rfl flX5_46 (by repeat first | assumption | exact ax_set_self _ _ _ | exact ax_newA_self _ _ _ | refine (ax_set_ne _ _ (by omega)).trans ?_ | refine (ax_newA_ne _ _ _ (by omega)).trans ?_) (by rfl) ?_
  refine wp_iload (n := 15) dX5_book_13 rfl rfl ?_
  refine wp_callV6 (n := 18) (rm' := (0, 0, 0, 0)) rfl dX5_book_15 rfl mlX5_157 (by repeat first | assumption | exact ax_set_self _ _ _ | exact ax_newA_self _ _ _ | refine (ax_set_ne _ _ (by omega)).trans ?_ | refine (ax_newA_ne _ _ _ (by omega)).trans ?_) rfl rfl rfl rfl rfl ?_
  refine s_X4_add hJ (by omega) he (fun h1 bk1 hF1 hJ1 hz1 => ?_)
  show WP Γ _ _ _ _ _ _ _
  have hL1 := hL0.jrn hF1 hJ1
  clear hL0 hO hP hM hJ hR hC hS hP1 hM1 hJ1 hR1 hC1 hP2 hP3 hP4 hM2 hM3 hM4
  have hL0 := hL1
  obtain ⟨hO, hP, hM, hJ, hR, hC, su, hS⟩ := hL1
  have hP1 := hP.1
  have hM1 := hM.1
  have hJ1 := hJ.1
  have hR1 := hR.1
  have hC1 := hC.1
  have hP2 := hP.2.1
  have hP3 := hP.2.2.1
  have hP4 := hP.2.2.2.1
  have hM2 := hM.2.1
  have hM3 := hM.2.2.1
  have hM4 := hM.2.2.2
  refine wp_istore (n := 20) dX5_book_18 rfl rfl rfl rfl ?_
  refine wp_aload_n (n := 21) dX5_book_20 rfl rfl ?_
  refine wp_getf (n := 24) dX5_book_21 rfl flX5_28 (by repeat first | assumption | exact ax_set_self _ _ _ | exact ax_newA_self _ _ _ | refine (ax_set_ne _ _ (by omega)).trans ?_ | refine (ax_newA_ne _ _ _ (by omega)).trans ?_) (by rfl) ?_
  refine wp_iload (n := 26) dX5_book_24 rfl rfl ?_
  refine wp_aload_n (n := 27) dX5_book_26 rfl rfl ?_
  refine wp_getf (n := 30) dX5_book_27 rfl flX5_21 (by repeat first | assumption | exact ax_set_self _ _ _ | exact ax_newA_self _ _ _ | refine (ax_set_ne _ _ (by omega)).trans ?_ | refine (ax_newA_ne _ _ _ (by omega)).trans ?_) (by rfl) ?_
  refine wp_getf (n := 33) dX5_book_30 rfl flX5_136 (by repeat first | assumption | exact ax_set_self _ _ _ | exact ax_newA_self _ _ _ | refine (ax_set_ne _ _ (by omega)).trans ?_ | refine (ax_newA_ne _ _ _ (by omega)).trans ?_) (by rfl) ?_
  refine wp_callV2 (n := 36) (rm' := (0, 0, 0, 0)) rfl dX5_book_33 rfl mlX5_161 (by repeat first | assumption | exact ax_set_self _ _ _ | exact ax_newA_self _ _ _ | refine (ax_set_ne _ _ (by omega)).trans ?_ | refine (ax_newA_ne _ _ _ (by omega)).trans ?_) rfl rfl rfl rfl rfl ?_
  refine s_X4_keepBlocks hJ hM.2.2.2 (by omega) (by omega) (by omega) (fun h2 bk2 hF2 hJ2 hz2 => ?_)
  show WP Γ _ _ _ _ _ _ _
  have hL2 := hL0.jrn hF2 hJ2
  clear hL0 hO hP hM hJ hR hC hS hP1 hM1 hJ1 hR1 hC1 hP2 hP3 hP4 hM2 hM3 hM4
  have hL0 := hL2
  obtain ⟨hO, hP, hM, hJ, hR, hC, su, hS⟩ := hL2
  have hP1 := hP.1
  have hM1 := hM.1
  have hJ1 := hJ.1
  have hR1 := hR.1
  have hC1 := hC.1
  have hP2 := hP.2.1
  have hP3 := hP.2.2.1
  have hP4 := hP.2.2.2.1
  have hM2 := hM.2.1
  have hM3 := hM.2.2.1
  have hM4 := hM.2.2.2
  refine wp_aload_n (n := 37) dX5_book_36 rfl rfl ?_
  refine wp_getf (n := 40) dX5_book_37 rfl flX5_21 (by repeat first | assumption | exact ax_set_self _ _ _ | exact ax_newA_self _ _ _ | refine (ax_set_ne _ _ (by omega)).trans ?_ | refine (ax_newA_ne _ _ _ (by omega)).trans ?_) (by rfl) ?_
  refine wp_iload_n (n := 41) dX5_book_40 rfl rfl ?_
  refine wp_aload_n (n := 42) dX5_book_41 rfl rfl ?_
  refine wp_getf (n := 45) dX5_book_42 rfl flX5_46 (by repeat first | assumption | exact ax_set_self _ _ _ | exact ax_newA_self _ _ _ | refine (ax_set_ne _ _ (by omega)).trans ?_ | refine (ax_newA_ne _ _ _ (by omega)).trans ?_) (by rfl) ?_
  refine wp_callV2 (n := 48) (rm' := (0, 0, 0, 0)) rfl dX5_book_45 rfl mlX5_164 (by repeat first | assumption | exact ax_set_self _ _ _ | exact ax_newA_self _ _ _ | refine (ax_set_ne _ _ (by omega)).trans ?_ | refine (ax_newA_ne _ _ _ (by omega)).trans ?_) rfl rfl rfl rfl rfl ?_
  refine s_X1_putPicked hM (by omega) hn (fun h3 pl3 tm3 hF3 hM3 hz3 => ?_)
  show WP Γ _ _ _ _ _ _ _
  refine wp_iload (n := 50) dX5_book_48 rfl rfl ?_
  have hL3 := hL0.map hF3 hM3
  have e1 : pl3 = putF pl nb pk j := funext fun a => (hz3 a).1
  have e2 : tm3 = putF tm nb pk t := funext fun a => (hz3 a).2
  rw [e1, e2] at hL3
  refine wp_ireturn dX5_book_50 rfl rfl (k _ bk2 ((((hF1.to (lo := b) (hi := b + 19) (by omega)).tr (lo := b) (hi := b + 19) hF2 (by omega) (by omega))).tr (lo := b) (hi := b + 19) hF3 (by omega) (by omega)) hL3 (fun e9 d9 h8 h9 => ?_))
  rw [hz2 e9 d9 (by omega) h9]
  by_cases q : e9 = ne
  · subst q
    rw [if_pos rfl, blk_zero (fun i h1 h2 => by rw [hz1, if_pos ⟨h1, h2⟩]) h9]
    simp
  · rw [if_neg q]
    have : blk bk1 e9 d9 = blk bk e9 d9 := by
      unfold blk
      rw [hz1, if_neg (by omega)]
    rw [this]
    simp [q]
end
