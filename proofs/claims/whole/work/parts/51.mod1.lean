/-! ===== the reference: its object, its row ===== -/
/-- 11 cells behind the object: now, read, aside, copies, rents, rentsAside, rentsCopied, isSaved, isPicked, buffer, commands; a is the row that is now -/
def ModC (h : AH) (m a : Nat) (th tl at' bg er ea le cm : Int32) : Prop := h.2 m = some (.inr (10, [.ref a, .ref (m + 2), .ref (m + 3), .ref (m + 4), .ref (m + 5), .ref (m + 6), .ref (m + 7), .ref (m + 8), .int th, .ref (m + 9), .ref (m + 10), .int tl, .int at', .int bg, .int er, .int ea, .int le, .ref (m + 11), .int cm]))
def RowS (R : FI) (nb np : Nat) (t : Int32) (y ne nh nc : Nat) : Prop := R 0 = nI nb ∧ R 1 = nI np ∧ R 2 = t ∧ R 3 = nI y ∧ R 4 = nI ne ∧ R 5 = nI nh ∧ R 6 = nI nc
def RowM (R : FI) (nb : Nat) (pl tm : FI) : Prop := ∀ d, d < nb → R (7 + d) = pl d ∧ R (207 + d) = tm d
def RowP (R : FI) (np : Nat) (qu ra le ln : FI) : Prop := ∀ j, j < np → R (407 + 8 * j + 0) = qu j ∧ R (407 + 8 * j + 1) = ra j ∧ ∀ i, i < 6 → R (407 + 8 * j + 2 + i) = if nI i < ln j then le (j * 6 + i) else 0
def RowJ (R : FI) (ne : Nat) (rw : FI) (bk : Nat → Int64) : Prop := ∀ e, e < ne → (∀ q, q < 7 → R (471 + 14 * e + q) = rw (e * 7 + q)) ∧ ∀ d, d < 200 → testI (R (471 + 14 * e + (7 + d / 32))) (d % 32) = blk bk e d
def RowH (R : FI) (nh : Nat) (hw : FI) : Prop := ∀ r, r < nh → ∀ q, q < 5 → R (4671 + 5 * r + q) = hw (r * 5 + q)
def RowC (R : FI) (np nc : Nat) (cw : FI) : Prop := ∀ c, c < nc → (∀ j, j < np → R (4971 + 9 * c + j) = cw (c * 9 + j)) ∧ R (4971 + 9 * c + 8) = cw (c * 9 + 8)
def RowR (R : FI) (np : Nat) (qu ra : FI) (re : Nat → UInt32) (le ln : FI) (nb : Nat) (pl tm : FI) (ne : Nat) (rw : FI) (bk : Nat → Int64) (nh : Nat) (hw : FI) (nc : Nat) (cw : FI) (t : Int32) (y : Nat) : Prop := RowS R nb np t y ne nh nc ∧ RowM R nb pl tm ∧ RowP R np qu ra le ln ∧ RowJ R ne rw bk ∧ RowH R nh hw ∧ RowC R np nc cw
section
variable {Γ : GE} {h : AH} {Q : PO} {m a np nb ne nh nc y : Nat} {R : FI} {qu ra le ln pl tm rw hw cw pk : FI} {re : Nat → UInt32} {bk : Nat → Int64} {t x z w th tl at' bg er ea lr cm : Int32}
theorem s_X10_thrown (hM : ModC h m a th tl at' bg er ea lr cm) (k : Q (.inl (some (.int th))) h) : WP Γ MX10_thrown (0, 0, 0, 0) 0 [some (.ref m)] [] h Q := by
  unfold ModC at hM
  refine wp_aload_n (n := 1) dX10_thrown_0 rfl rfl ?_
  refine wp_getf (n := 4) dX10_thrown_1 rfl flX10_50 (by repeat first | assumption | exact ax_set_self _ _ _ | exact ax_newA_self _ _ _ | refine (ax_set_ne _ _ (by omega)).trans ?_ | refine (ax_newA_ne _ _ _ (by omega)).trans ?_) (by rfl) ?_
  exact wp_ireturn dX10_thrown_4 rfl rfl (k)
theorem s_X10_in (k : Q (.inl (some (.int (bI (decide (z ≤ x ∧ x ≤ w)))))) h) : WP Γ MX10_in (0, 0, 0, 0) 0 [some (.int x), some (.int z), some (.int w)] [] h Q := by
  refine wp_iload_n (n := 1) dX10_in_0 rfl rfl ?_
  refine wp_iload_n (n := 2) dX10_in_1 rfl rfl ?_
  refine wp_icmp_lt (t := 14) (n := 5) dX10_in_2 (by decide) rfl (fun hc => ?_) (fun hc => ?_)
  · rw [decide_eq_false (fun q => absurd hc (Int32.not_lt.mpr q.1))] at k
    refine wp_iconst (n := 15) (v := 0) dX10_in_14 rfl (by decide) ?_
    exact wp_ireturn dX10_in_15 rfl rfl (k)
  · refine wp_iload_n (n := 6) dX10_in_5 rfl rfl ?_
    refine wp_iload_n (n := 7) dX10_in_6 rfl rfl ?_
    refine wp_icmp_gt (t := 14) (n := 10) dX10_in_7 (by decide) rfl (fun hq => ?_) (fun hq => ?_)
    · rw [decide_eq_false (fun q => absurd hq (Int32.not_lt.mpr q.2))] at k
      refine wp_iconst (n := 15) (v := 0) dX10_in_14 rfl (by decide) ?_
      exact wp_ireturn dX10_in_15 rfl rfl (k)
    · rw [decide_eq_true ⟨i32_not_lt hc, i32_not_lt hq⟩] at k
      refine wp_iconst (n := 11) (v := nI 1) dX10_in_10 rfl (by decide) ?_
      refine wp_goto (t := 15) dX10_in_11 (by decide) ?_
      exact wp_ireturn dX10_in_15 rfl rfl (k)
theorem ModC.set (h : AH) (m a : Nat) (th tl at' bg er ea lr cm : Int32) : ModC (ax_set h m (.inr (10, [.ref a, .ref (m + 2), .ref (m + 3), .ref (m + 4), .ref (m + 5), .ref (m + 6), .ref (m + 7), .ref (m + 8), .int th, .ref (m + 9), .ref (m + 10), .int tl, .int at', .int bg, .int er, .int ea, .int lr, .ref (m + 11), .int cm]))) m a th tl at' bg er ea lr cm := ax_set_self _ _ _
theorem ModC.fr {h' : AH} {lo hi : Nat} (hM : ModC h m a th tl at' bg er ea lr cm) (hf : ax_fr lo hi h h') (hd : hi ≤ m ∨ m + 1 ≤ lo) : ModC h' m a th tl at' bg er ea lr cm := hf.get hM (by omega)
theorem s_X10_isThrown {c : Bool} (hM : ModC h m a th tl at' bg er ea lr cm) (hA : Γ.2.1 ≤ m)
    (k : ∀ h', ax_fr m (m + 1) h h' → ModC h' m a (if c = true then 0 else x) tl at' bg er ea lr cm → Q (.inl (some (.int (bI (!c))))) h') : WP Γ MX10_isThrown (0, 0, 0, 0) 0 [some (.ref m), some (.int (bI c)), some (.int x)] [] h Q := by
  unfold ModC at hM
  cases c with
  | true =>
    refine wp_aload_n (n := 1) dX10_isThrown_0 rfl rfl ?_
    refine wp_iload_n (n := 2) dX10_isThrown_1 rfl rfl ?_
    refine wp_if_eq (t := 9) (n := 5) dX10_isThrown_2 (by decide) rfl (fun hc => ?_) (fun hc => ?_)
    · exact absurd hc (by decide)
    · refine wp_iconst (n := 6) (v := 0) dX10_isThrown_5 rfl (by decide) ?_
      refine wp_goto (t := 10) dX10_isThrown_6 (by decide) ?_
      refine wp_putf (n := 13) dX10_isThrown_10 rfl flX10_50 (by repeat first | assumption | exact ax_set_self _ _ _ | exact ax_newA_self _ _ _ | refine (ax_set_ne _ _ (by omega)).trans ?_ | refine (ax_newA_ne _ _ _ (by omega)).trans ?_) (by omega) (by rfl) rfl rfl ?_
      refine wp_iload_n (n := 14) dX10_isThrown_13 rfl rfl ?_
      refine wp_if_ne (t := 21) (n := 17) dX10_isThrown_14 (by decide) rfl (fun hq => ?_) (fun hq => ?_)
      · refine wp_iconst (n := 22) (v := 0) dX10_isThrown_21 rfl (by decide) ?_
        exact wp_ireturn dX10_isThrown_22 rfl rfl (k _ (ax_fr.set (by omega)) (ModC.set _ _ _ _ _ _ _ _ _ _ _))
      · exact absurd hq (by decide)
  | false =>
    refine wp_aload_n (n := 1) dX10_isThrown_0 rfl rfl ?_
    refine wp_iload_n (n := 2) dX10_isThrown_1 rfl rfl ?_
    refine wp_if_eq (t := 9) (n := 5) dX10_isThrown_2 (by decide) rfl (fun hc => ?_) (fun hc => ?_)
    · refine wp_iload_n (n := 10) dX10_isThrown_9 rfl rfl ?_
      refine wp_putf (n := 13) dX10_isThrown_10 rfl flX10_50 (by repeat first | assumption | exact ax_set_self _ _ _ | exact ax_newA_self _ _ _ | refine (ax_set_ne _ _ (by omega)).trans ?_ | refine (ax_newA_ne _ _ _ (by omega)).trans ?_) (by omega) (by rfl) rfl rfl ?_
      refine wp_iload_n (n := 14) dX10_isThrown_13 rfl rfl ?_
      refine wp_if_ne (t := 21) (n := 17) dX10_isThrown_14 (by decide) rfl (fun hq => ?_) (fun hq => ?_)
      · exact absurd rfl hq
      · refine wp_iconst (n := 18) (v := nI 1) dX10_isThrown_17 rfl (by decide) ?_
        refine wp_goto (t := 22) dX10_isThrown_18 (by decide) ?_
        exact wp_ireturn dX10_isThrown_22 rfl rfl (k _ (ax_fr.set (by omega)) (ModC.set _ _ _ _ _ _ _ _ _ _ _))
    · exact absurd rfl hc
theorem in_N {n : Nat} (hn : 1 ≤ n) (hn2 : n < 2147483648) (x : Int32) : decide ((0 : Int32) ≤ x ∧ x ≤ nI n - nI 1) = inN x n := by
  unfold inN
  rw [nI_sub hn, decide_eq_decide]
  constructor
  · rintro ⟨a, b⟩
    obtain ⟨j, hj, rfl⟩ := i32_nat a
    exact ⟨a, (nI_lt9 hj hn2).mpr (by have := (nI_le9 hj (by omega)).mp b; omega)⟩
  · rintro ⟨a, b⟩
    obtain ⟨j, hj, rfl⟩ := i32_nat a
    exact ⟨a, (nI_le9 hj (by omega)).mpr (by have := (nI_lt9 hj hn2).mp b; omega)⟩
theorem in_N0 {n : Nat} (hn2 : n < 2147483648) (x : Int32) : decide ((0 : Int32) ≤ x ∧ x ≤ nI n - nI 1) = inN x n := by
  by_cases hn : 1 ≤ n
  · exact in_N hn hn2 x
  · obtain rfl : n = 0 := by omega
    unfold inN
    rw [decide_eq_false, decide_eq_false]
    · exact fun q => absurd (Int32.lt_of_le_of_lt q.1 q.2) (by decide)
    · exact fun q => absurd (Int32.le_trans q.1 q.2) (by decide)
theorem s_X10_isPool (hM : ModC h m a th tl at' bg er ea lr cm) (hR : h.2 a = some (.inl (.int, 5061, .inl R))) (hS : R 1 = nI np) (hn : np ≤ 8)
    (k : Q (.inl (some (.int (bI (inN x np))))) h) : WP Γ MX10_isPool (1, 22, 0, 0) 0 [some (.ref m), some (.int x)] [] h Q := by
  unfold ModC at hM
  rw [← in_N0 (by omega)] at k
  refine wp_iload_n (n := 1) dX10_isPool_0 rfl rfl ?_
  refine wp_iconst (n := 2) (v := 0) dX10_isPool_1 rfl (by decide) ?_
  refine wp_aload_n (n := 3) dX10_isPool_2 rfl rfl ?_
  refine wp_getf (n := 6) dX10_isPool_3 rfl flX10_9 (by repeat first | assumption | exact ax_set_self _ _ _ | exact ax_newA_self _ _ _ | refine (ax_set_ne _ _ (by omega)).trans ?_ | refine (ax_newA_ne _ _ _ (by omega)).trans ?_) (by rfl) ?_
  refine wp_iconst (n := 7) (v := nI 1) dX10_isPool_6 rfl (by decide) ?_
  refine wp_iald (n := 8) _ dX10_isPool_7 rfl (by repeat first | assumption | exact ax_set_self _ _ _ | exact ax_newA_self _ _ _ | refine (ax_set_ne _ _ (by omega)).trans ?_ | refine (ax_newA_ne _ _ _ (by omega)).trans ?_) rfl (by omega) (by decide) ?_
  rw [hS]
  refine wp_iconst (n := 9) (v := nI 1) dX10_isPool_8 rfl (by decide) ?_
  refine wp_isub (n := 10) dX10_isPool_9 rfl ?_
  refine wp_callS3 (n := 13) (rm' := (0, 0, 0, 0)) rfl dX10_isPool_10 rfl mlX10_54 rfl rfl rfl rfl ?_
  refine s_X10_in ?_
  show WP Γ _ _ _ _ _ _ _
  refine wp_ireturn dX10_isPool_13 rfl (by cases decide ((0 : Int32) ≤ x ∧ x ≤ nI np - nI 1) <;> rfl) k
theorem s_X10_isBlock (hM : ModC h m a th tl at' bg er ea lr cm) (hR : h.2 a = some (.inl (.int, 5061, .inl R))) (hS : R 0 = nI nb) (hn : nb ≤ 200)
    (k : Q (.inl (some (.int (bI (inN x nb))))) h) : WP Γ MX10_isBlock (1, 22, 0, 0) 0 [some (.ref m), some (.int x)] [] h Q := by
  unfold ModC at hM
  rw [← in_N0 (by omega)] at k
  refine wp_iload_n (n := 1) dX10_isBlock_0 rfl rfl ?_
  refine wp_iconst (n := 2) (v := 0) dX10_isBlock_1 rfl (by decide) ?_
  refine wp_aload_n (n := 3) dX10_isBlock_2 rfl rfl ?_
  refine wp_getf (n := 6) dX10_isBlock_3 rfl flX10_9 (by repeat first | assumption | exact ax_set_self _ _ _ | exact ax_newA_self _ _ _ | refine (ax_set_ne _ _ (by omega)).trans ?_ | refine (ax_newA_ne _ _ _ (by omega)).trans ?_) (by rfl) ?_
  refine wp_iconst (n := 7) (v := 0) dX10_isBlock_6 rfl (by decide) ?_
  refine wp_iald (n := 8) 0 dX10_isBlock_7 rfl hR rfl (by omega) (by omega) ?_
  rw [hS]
  refine wp_iconst (n := 9) (v := nI 1) dX10_isBlock_8 rfl (by decide) ?_
  refine wp_isub (n := 10) dX10_isBlock_9 rfl ?_
  refine wp_callS3 (n := 13) (rm' := (0, 0, 0, 0)) rfl dX10_isBlock_10 rfl mlX10_54 rfl rfl rfl rfl ?_
  refine s_X10_in ?_
  show WP Γ _ _ _ _ _ _ _
  refine wp_ireturn dX10_isBlock_13 rfl (by cases decide ((0 : Int32) ≤ x ∧ x ≤ nI nb - nI 1) <;> rfl) k
theorem s_X10_isEntry (hM : ModC h m a th tl at' bg er ea lr cm) (hR : h.2 a = some (.inl (.int, 5061, .inl R))) (hS : R 4 = nI ne) (hn : ne ≤ 300)
    (k : Q (.inl (some (.int (bI (inN x ne))))) h) : WP Γ MX10_isEntry (1, 22, 0, 0) 0 [some (.ref m), some (.int x)] [] h Q := by
  unfold ModC at hM
  rw [← in_N0 (by omega)] at k
  refine wp_iload_n (n := 1) dX10_isEntry_0 rfl rfl ?_
  refine wp_iconst (n := 2) (v := 0) dX10_isEntry_1 rfl (by decide) ?_
  refine wp_aload_n (n := 3) dX10_isEntry_2 rfl rfl ?_
  refine wp_getf (n := 6) dX10_isEntry_3 rfl flX10_9 (by repeat first | assumption | exact ax_set_self _ _ _ | exact ax_newA_self _ _ _ | refine (ax_set_ne _ _ (by omega)).trans ?_ | refine (ax_newA_ne _ _ _ (by omega)).trans ?_) (by rfl) ?_
  refine wp_iconst (n := 7) (v := nI 4) dX10_isEntry_6 rfl (by decide) ?_
  refine wp_iald (n := 8) _ dX10_isEntry_7 rfl (by repeat first | assumption | exact ax_set_self _ _ _ | exact ax_newA_self _ _ _ | refine (ax_set_ne _ _ (by omega)).trans ?_ | refine (ax_newA_ne _ _ _ (by omega)).trans ?_) rfl (by omega) (by decide) ?_
  rw [hS]
  refine wp_iconst (n := 9) (v := nI 1) dX10_isEntry_8 rfl (by decide) ?_
  refine wp_isub (n := 10) dX10_isEntry_9 rfl ?_
  refine wp_callS3 (n := 13) (rm' := (0, 0, 0, 0)) rfl dX10_isEntry_10 rfl mlX10_54 rfl rfl rfl rfl ?_
  refine s_X10_in ?_
  show WP Γ _ _ _ _ _ _ _
  refine wp_ireturn dX10_isEntry_13 rfl (by cases decide ((0 : Int32) ≤ x ∧ x ≤ nI ne - nI 1) <;> rfl) k
theorem s_X10_isHold (hM : ModC h m a th tl at' bg er ea lr cm) (hR : h.2 a = some (.inl (.int, 5061, .inl R))) (hS : R 5 = nI nh) (hn : nh ≤ 60)
    (k : Q (.inl (some (.int (bI (inN x nh))))) h) : WP Γ MX10_isHold (1, 22, 0, 0) 0 [some (.ref m), some (.int x)] [] h Q := by
  unfold ModC at hM
  rw [← in_N0 (by omega)] at k
  refine wp_iload_n (n := 1) dX10_isHold_0 rfl rfl ?_
  refine wp_iconst (n := 2) (v := 0) dX10_isHold_1 rfl (by decide) ?_
  refine wp_aload_n (n := 3) dX10_isHold_2 rfl rfl ?_
  refine wp_getf (n := 6) dX10_isHold_3 rfl flX10_9 (by repeat first | assumption | exact ax_set_self _ _ _ | exact ax_newA_self _ _ _ | refine (ax_set_ne _ _ (by omega)).trans ?_ | refine (ax_newA_ne _ _ _ (by omega)).trans ?_) (by rfl) ?_
  refine wp_iconst (n := 7) (v := nI 5) dX10_isHold_6 rfl (by decide) ?_
  refine wp_iald (n := 8) _ dX10_isHold_7 rfl (by repeat first | assumption | exact ax_set_self _ _ _ | exact ax_newA_self _ _ _ | refine (ax_set_ne _ _ (by omega)).trans ?_ | refine (ax_newA_ne _ _ _ (by omega)).trans ?_) rfl (by omega) (by decide) ?_
  rw [hS]
  refine wp_iconst (n := 9) (v := nI 1) dX10_isHold_8 rfl (by decide) ?_
  refine wp_isub (n := 10) dX10_isHold_9 rfl ?_
  refine wp_callS3 (n := 13) (rm' := (0, 0, 0, 0)) rfl dX10_isHold_10 rfl mlX10_54 rfl rfl rfl rfl ?_
  refine s_X10_in ?_
  show WP Γ _ _ _ _ _ _ _
  refine wp_ireturn dX10_isHold_13 rfl (by cases decide ((0 : Int32) ≤ x ∧ x ≤ nI nh - nI 1) <;> rfl) k
theorem s_X10_pool {j q : Nat} (hM : ModC h m a th tl at' bg er ea lr cm) (hR : h.2 a = some (.inl (.int, 5061, .inl R))) (hj : j < 8) (hq : q < 8)
    (k : Q (.inl (some (.int (R (407 + 8 * j + q))))) h) : WP Γ MX10_pool (0, 0, 0, 0) 0 [some (.ref m), some (.int (nI j)), some (.int (nI q))] [] h Q := by
  unfold ModC at hM
  refine wp_aload_n (n := 1) dX10_pool_0 rfl rfl ?_
  refine wp_getf (n := 4) dX10_pool_1 rfl flX10_9 (by repeat first | assumption | exact ax_set_self _ _ _ | exact ax_newA_self _ _ _ | refine (ax_set_ne _ _ (by omega)).trans ?_ | refine (ax_newA_ne _ _ _ (by omega)).trans ?_) (by rfl) ?_
  refine wp_sipush (n := 7) (v := nI 407) dX10_pool_4 rfl (by decide) ?_
  refine wp_bipush (n := 9) (v := nI 8) dX10_pool_7 rfl (by decide) ?_
  refine wp_iload_n (n := 10) dX10_pool_9 rfl rfl ?_
  refine wp_imul (n := 11) dX10_pool_10 rfl ?_
  refine wp_iadd (n := 12) dX10_pool_11 rfl ?_
  refine wp_iload_n (n := 13) dX10_pool_12 rfl rfl ?_
  refine wp_iadd (n := 14) dX10_pool_13 rfl ?_
  refine wp_iald (n := 15) (407 + 8 * j + q) dX10_pool_14 rfl (by repeat first | assumption | exact ax_set_self _ _ _ | exact ax_newA_self _ _ _ | refine (ax_set_ne _ _ (by omega)).trans ?_ | refine (ax_newA_ne _ _ _ (by omega)).trans ?_) (by simp only [nI_zero, nI_mul, nI_add]) (by omega) (by omega) ?_
  exact wp_ireturn dX10_pool_15 rfl rfl (k)
theorem s_X10_entry {e q : Nat} (hM : ModC h m a th tl at' bg er ea lr cm) (hR : h.2 a = some (.inl (.int, 5061, .inl R))) (he : e < 300) (hq : q < 14)
    (k : Q (.inl (some (.int (R (471 + 14 * e + q))))) h) : WP Γ MX10_entry (0, 0, 0, 0) 0 [some (.ref m), some (.int (nI e)), some (.int (nI q))] [] h Q := by
  unfold ModC at hM
  refine wp_aload_n (n := 1) dX10_entry_0 rfl rfl ?_
  refine wp_getf (n := 4) dX10_entry_1 rfl flX10_9 (by repeat first | assumption | exact ax_set_self _ _ _ | exact ax_newA_self _ _ _ | refine (ax_set_ne _ _ (by omega)).trans ?_ | refine (ax_newA_ne _ _ _ (by omega)).trans ?_) (by rfl) ?_
  refine wp_sipush (n := 7) (v := nI 471) dX10_entry_4 rfl (by decide) ?_
  refine wp_bipush (n := 9) (v := nI 14) dX10_entry_7 rfl (by decide) ?_
  refine wp_iload_n (n := 10) dX10_entry_9 rfl rfl ?_
  refine wp_imul (n := 11) dX10_entry_10 rfl ?_
  refine wp_iadd (n := 12) dX10_entry_11 rfl ?_
  refine wp_iload_n (n := 13) dX10_entry_12 rfl rfl ?_
  refine wp_iadd (n := 14) dX10_entry_13 rfl ?_
  refine wp_iald (n := 15) (471 + 14 * e + q) dX10_entry_14 rfl (by repeat first | assumption | exact ax_set_self _ _ _ | exact ax_newA_self _ _ _ | refine (ax_set_ne _ _ (by omega)).trans ?_ | refine (ax_newA_ne _ _ _ (by omega)).trans ?_) (by simp only [nI_zero, nI_mul, nI_add]) (by omega) (by omega) ?_
  exact wp_ireturn dX10_entry_15 rfl rfl (k)
theorem s_X10_hold {r q : Nat} (hM : ModC h m a th tl at' bg er ea lr cm) (hR : h.2 a = some (.inl (.int, 5061, .inl R))) (hr : r < 60) (hq : q < 5)
    (k : Q (.inl (some (.int (R (4671 + 5 * r + q))))) h) : WP Γ MX10_hold (0, 0, 0, 0) 0 [some (.ref m), some (.int (nI r)), some (.int (nI q))] [] h Q := by
  unfold ModC at hM
  refine wp_aload_n (n := 1) dX10_hold_0 rfl rfl ?_
  refine wp_getf (n := 4) dX10_hold_1 rfl flX10_9 (by repeat first | assumption | exact ax_set_self _ _ _ | exact ax_newA_self _ _ _ | refine (ax_set_ne _ _ (by omega)).trans ?_ | refine (ax_newA_ne _ _ _ (by omega)).trans ?_) (by rfl) ?_
  refine wp_sipush (n := 7) (v := nI 4671) dX10_hold_4 rfl (by decide) ?_
  refine wp_iconst (n := 8) (v := nI 5) dX10_hold_7 rfl (by decide) ?_
  refine wp_iload_n (n := 9) dX10_hold_8 rfl rfl ?_
  refine wp_imul (n := 10) dX10_hold_9 rfl ?_
  refine wp_iadd (n := 11) dX10_hold_10 rfl ?_
  refine wp_iload_n (n := 12) dX10_hold_11 rfl rfl ?_
  refine wp_iadd (n := 13) dX10_hold_12 rfl ?_
  refine wp_iald (n := 14) (4671 + 5 * r + q) dX10_hold_13 rfl (by repeat first | assumption | exact ax_set_self _ _ _ | exact ax_newA_self _ _ _ | refine (ax_set_ne _ _ (by omega)).trans ?_ | refine (ax_newA_ne _ _ _ (by omega)).trans ?_) (by simp only [nI_zero, nI_mul, nI_add]) (by omega) (by omega) ?_
  exact wp_ireturn dX10_hold_14 rfl rfl (k)
theorem s_X10_setsHold {r q : Nat} (hM : ModC h m a th tl at' bg er ea lr cm) (hR : h.2 a = some (.inl (.int, 5061, .inl R))) (hA : Γ.2.1 ≤ a) (hr : r < 60) (hq : q < 5)
    (k : ∀ h', ax_fr a (a + 1) h h' → h'.2 a = some (.inl (.int, 5061, .inl (upd R (4671 + 5 * r + q) x))) → Q (.inl none) h') : WP Γ MX10_setsHold (0, 0, 0, 0) 0 [some (.ref m), some (.int (nI r)), some (.int (nI q)), some (.int x)] [] h Q := by
  unfold ModC at hM
  refine wp_aload_n (n := 1) dX10_setsHold_0 rfl rfl ?_
  refine wp_getf (n := 4) dX10_setsHold_1 rfl flX10_9 (by repeat first | assumption | exact ax_set_self _ _ _ | exact ax_newA_self _ _ _ | refine (ax_set_ne _ _ (by omega)).trans ?_ | refine (ax_newA_ne _ _ _ (by omega)).trans ?_) (by rfl) ?_
  refine wp_sipush (n := 7) (v := nI 4671) dX10_setsHold_4 rfl (by decide) ?_
  refine wp_iconst (n := 8) (v := nI 5) dX10_setsHold_7 rfl (by decide) ?_
  refine wp_iload_n (n := 9) dX10_setsHold_8 rfl rfl ?_
  refine wp_imul (n := 10) dX10_setsHold_9 rfl ?_
  refine wp_iadd (n := 11) dX10_setsHold_10 rfl ?_
  refine wp_iload_n (n := 12) dX10_setsHold_11 rfl rfl ?_
  refine wp_iadd (n := 13) dX10_setsHold_12 rfl ?_
  refine wp_iload_n (n := 14) dX10_setsHold_13 rfl rfl ?_
  refine wp_iast (n := 15) (4671 + 5 * r + q) dX10_setsHold_14 rfl (by repeat first | assumption | exact ax_set_self _ _ _ | exact ax_newA_self _ _ _ | refine (ax_set_ne _ _ (by omega)).trans ?_ | refine (ax_newA_ne _ _ _ (by omega)).trans ?_) (by omega) (by simp only [nI_zero, nI_mul, nI_add]) (by omega) (by omega) ?_
  exact wp_return dX10_setsHold_15 rfl (k _ (ax_fr.set (by omega)) (ax_set_self _ _ _))
theorem s_X10_balanceOf (hM : ModC h m a th tl at' bg er ea lr cm) (hR : h.2 a = some (.inl (.int, 5061, .inl R))) (hS : R 0 = nI nb) (hm : RowM R nb pl tm) (hn : nb ≤ 200)
    (k : Q (.inl (some (.int (nI (cnt pl x nb))))) h) : WP Γ MX10_balanceOf (0, 0, 0, 0) 0 [some (.ref m), some (.int x), none, none] [] h Q := by
  unfold ModC at hM
  refine wp_iconst (n := 1) (v := 0) dX10_balanceOf_0 rfl (by decide) ?_
  refine wp_istore_n (n := 2) dX10_balanceOf_1 rfl rfl rfl rfl ?_
  refine wp_iconst (n := 3) (v := 0) dX10_balanceOf_2 rfl (by decide) ?_
  refine wp_istore_n (n := 4) dX10_balanceOf_3 rfl rfl rfl rfl ?_
  suffices L : ∀ j, j ≤ nb → WP Γ MX10_balanceOf (0, 0, 0, 0) 4 [some (.ref m), some (.int x), some (.int (nI (cnt pl x j))), some (.int (nI j))] [] h Q from L 0 (Nat.zero_le _)
  refine ax_up nb (fun j hj ih => ?_)
  refine wp_iload_n (n := 5) dX10_balanceOf_4 rfl rfl ?_
  refine wp_aload_n (n := 6) dX10_balanceOf_5 rfl rfl ?_
  refine wp_getf (n := 9) dX10_balanceOf_6 rfl flX10_9 (by repeat first | assumption | exact ax_set_self _ _ _ | exact ax_newA_self _ _ _ | refine (ax_set_ne _ _ (by omega)).trans ?_ | refine (ax_newA_ne _ _ _ (by omega)).trans ?_) (by rfl) ?_
  refine wp_iconst (n := 10) (v := 0) dX10_balanceOf_9 rfl (by decide) ?_
  refine wp_iald (n := 11) 0 dX10_balanceOf_10 rfl hR rfl (by omega) (by omega) ?_
  rw [hS]
  refine wp_icmp_ge (t := 41) (n := 14) dX10_balanceOf_11 (by decide) rfl (fun hc => ?_) (fun hc => ?_)
  · rw [nI_le9 (by omega) (by omega)] at hc
    obtain rfl : j = nb := by omega
    refine wp_iload_n (n := 42) dX10_balanceOf_41 rfl rfl ?_
    exact wp_ireturn dX10_balanceOf_42 rfl rfl (k)
  · rw [nI_le9 (by omega) (by omega)] at hc
    have ih := ih (by omega)
    refine wp_iload_n (n := 15) dX10_balanceOf_14 rfl rfl ?_
    refine wp_aload_n (n := 16) dX10_balanceOf_15 rfl rfl ?_
    refine wp_getf (n := 19) dX10_balanceOf_16 rfl flX10_9 (by repeat first | assumption | exact ax_set_self _ _ _ | exact ax_newA_self _ _ _ | refine (ax_set_ne _ _ (by omega)).trans ?_ | refine (ax_newA_ne _ _ _ (by omega)).trans ?_) (by rfl) ?_
    refine wp_bipush (n := 21) (v := nI 7) dX10_balanceOf_19 rfl (by decide) ?_
    refine wp_iload_n (n := 22) dX10_balanceOf_21 rfl rfl ?_
    refine wp_iadd (n := 23) dX10_balanceOf_22 rfl ?_
    refine wp_iald (n := 24) (7 + j) dX10_balanceOf_23 rfl (by repeat first | assumption | exact ax_set_self _ _ _ | exact ax_newA_self _ _ _ | refine (ax_set_ne _ _ (by omega)).trans ?_ | refine (ax_newA_ne _ _ _ (by omega)).trans ?_) (by simp only [nI_zero, nI_mul, nI_add]) (by omega) (by omega) ?_
    refine wp_iload_n (n := 25) dX10_balanceOf_24 rfl rfl ?_
    rw [(hm j (by omega)).1]
    refine wp_icmp_ne (t := 32) (n := 28) dX10_balanceOf_25 (by decide) rfl (fun hq => ?_) (fun hq => ?_)
    · refine wp_iconst (n := 33) (v := 0) dX10_balanceOf_32 rfl (by decide) ?_
      refine wp_iadd (n := 34) dX10_balanceOf_33 rfl ?_
      rw [show nI (cnt pl x j) + 0 = nI (cnt pl x (j + 1)) by simp only [cnt, if_neg hq, Int32.add_zero, Nat.add_zero]]
      refine wp_istore_n (n := 35) dX10_balanceOf_34 rfl rfl rfl rfl ?_
      refine wp_iinc (n := 38) dX10_balanceOf_35 rfl rfl (nI_inc j) rfl rfl rfl ?_
      refine wp_goto (t := 4) dX10_balanceOf_38 (by decide) ?_
      exact ih
    · refine wp_iconst (n := 29) (v := nI 1) dX10_balanceOf_28 rfl (by decide) ?_
      refine wp_goto (t := 33) dX10_balanceOf_29 (by decide) ?_
      refine wp_iadd (n := 34) dX10_balanceOf_33 rfl ?_
      rw [show nI (cnt pl x j) + nI 1 = nI (cnt pl x (j + 1)) by simp only [cnt, if_pos hq, nI_add]]
      refine wp_istore_n (n := 35) dX10_balanceOf_34 rfl rfl rfl rfl ?_
      refine wp_iinc (n := 38) dX10_balanceOf_35 rfl rfl (nI_inc j) rfl rfl rfl ?_
      refine wp_goto (t := 4) dX10_balanceOf_38 (by decide) ?_
      exact ih
theorem s_X10_reserved {s : Nat} (hM : ModC h m a th tl at' bg er ea lr cm) (hR : h.2 a = some (.inl (.int, 5061, .inl R))) (hS : R 5 = nI nh) (hm : RowH R nh hw) (hn : nh ≤ 60) (hs : s < 2)
    (k : Q (.inl (some (.int (pSum hw s x nh)))) h) : WP Γ MX10_reserved (1, 22, 0, 0) 0 [some (.ref m), some (.int x), some (.int (nI s)), none, none] [] h Q := by
  have hM0 := hM
  unfold ModC at hM
  refine wp_iconst (n := 1) (v := 0) dX10_reserved_0 rfl (by decide) ?_
  refine wp_istore_n (n := 2) dX10_reserved_1 rfl rfl rfl rfl ?_
  refine wp_iconst (n := 3) (v := 0) dX10_reserved_2 rfl (by decide) ?_
  refine wp_istore (n := 5) dX10_reserved_3 rfl rfl rfl rfl ?_
  suffices L : ∀ j, j ≤ nh → WP Γ MX10_reserved (1, 22, 0, 0) 5 [some (.ref m), some (.int x), some (.int (nI s)), some (.int (pSum hw s x j)), some (.int (nI j))] [] h Q from L 0 (Nat.zero_le _)
  refine ax_up nh (fun j hj ih => ?_)
  refine wp_iload (n := 7) dX10_reserved_5 rfl rfl ?_
  refine wp_aload_n (n := 8) dX10_reserved_7 rfl rfl ?_
  refine wp_getf (n := 11) dX10_reserved_8 rfl flX10_9 (by repeat first | assumption | exact ax_set_self _ _ _ | exact ax_newA_self _ _ _ | refine (ax_set_ne _ _ (by omega)).trans ?_ | refine (ax_newA_ne _ _ _ (by omega)).trans ?_) (by rfl) ?_
  refine wp_iconst (n := 12) (v := nI 5) dX10_reserved_11 rfl (by decide) ?_
  refine wp_iald (n := 13) _ dX10_reserved_12 rfl (by repeat first | assumption | exact ax_set_self _ _ _ | exact ax_newA_self _ _ _ | refine (ax_set_ne _ _ (by omega)).trans ?_ | refine (ax_newA_ne _ _ _ (by omega)).trans ?_) rfl (by omega) (by decide) ?_
  rw [hS]
  refine wp_icmp_ge (t := 57) (n := 16) dX10_reserved_13 (by decide) rfl (fun hc => ?_) (fun hc => ?_)
  · rw [nI_le9 (by omega) (by omega)] at hc
    obtain rfl : j = nh := by omega
    refine wp_iload_n (n := 58) dX10_reserved_57 rfl rfl ?_
    exact wp_ireturn dX10_reserved_58 rfl rfl (k)
  · rw [nI_le9 (by omega) (by omega)] at hc
    have ih := ih (by omega)
    have N : ¬ (pend hw j = true ∧ hw (j * 5 + s) = x) → WP Γ MX10_reserved (1, 22, 0, 0) 48 [some (.ref m), some (.int x), some (.int (nI s)), some (.int (pSum hw s x j)), some (.int (nI j))] [.int (pSum hw s x j)] h Q := by
      intro hno
      refine wp_iconst (n := 49) (v := 0) dX10_reserved_48 rfl (by decide) ?_
      refine wp_iadd (n := 50) dX10_reserved_49 rfl ?_
      refine wp_istore_n (n := 51) dX10_reserved_50 rfl rfl rfl rfl ?_
      refine wp_iinc (n := 54) dX10_reserved_51 rfl rfl (nI_inc j) rfl rfl rfl ?_
      refine wp_goto (t := 5) dX10_reserved_54 (by decide) ?_
      simp only [pSum, sumI, if_neg hno] at ih
      exact ih
    refine wp_iload_n (n := 17) dX10_reserved_16 rfl rfl ?_
    refine wp_aload_n (n := 18) dX10_reserved_17 rfl rfl ?_
    refine wp_iload (n := 20) dX10_reserved_18 rfl rfl ?_
    refine wp_iconst (n := 21) (v := nI 4) dX10_reserved_20 rfl (by decide) ?_
    refine wp_callV2 (n := 24) (rm' := (0, 0, 0, 0)) rfl dX10_reserved_21 rfl mlX10_58 (by repeat first | assumption | exact ax_set_self _ _ _ | exact ax_newA_self _ _ _ | refine (ax_set_ne _ _ (by omega)).trans ?_ | refine (ax_newA_ne _ _ _ (by omega)).trans ?_) rfl rfl rfl rfl rfl ?_
    refine s_X10_hold hM0 hR (by omega) (by omega) ?_
    show WP Γ _ _ _ _ _ _ _
    rw [hm j (by omega) 4 (by omega)]
    refine wp_if_ne (t := 48) (n := 27) dX10_reserved_24 (by decide) rfl (fun hq => ?_) (fun hq => ?_)
    · exact N (fun q => hq (by simpa [pend] using q.1))
    · have hp : pend hw j = true := by simp [pend, hq]
      refine wp_aload_n (n := 28) dX10_reserved_27 rfl rfl ?_
      refine wp_iload (n := 30) dX10_reserved_28 rfl rfl ?_
      refine wp_iload_n (n := 31) dX10_reserved_30 rfl rfl ?_
      refine wp_callV2 (n := 34) (rm' := (0, 0, 0, 0)) rfl dX10_reserved_31 rfl mlX10_58 (by repeat first | assumption | exact ax_set_self _ _ _ | exact ax_newA_self _ _ _ | refine (ax_set_ne _ _ (by omega)).trans ?_ | refine (ax_newA_ne _ _ _ (by omega)).trans ?_) rfl rfl rfl rfl rfl ?_
      refine s_X10_hold hM0 hR (by omega) (by omega) ?_
      show WP Γ _ _ _ _ _ _ _
      refine wp_iload_n (n := 35) dX10_reserved_34 rfl rfl ?_
      rw [hm j (by omega) s (by omega)]
      refine wp_icmp_ne (t := 48) (n := 38) dX10_reserved_35 (by decide) rfl (fun hr => ?_) (fun hr => ?_)
      · exact N (fun q => hr q.2)
      · refine wp_aload_n (n := 39) dX10_reserved_38 rfl rfl ?_
        refine wp_iload (n := 41) dX10_reserved_39 rfl rfl ?_
        refine wp_iconst (n := 42) (v := nI 2) dX10_reserved_41 rfl (by decide) ?_
        refine wp_callV2 (n := 45) (rm' := (0, 0, 0, 0)) rfl dX10_reserved_42 rfl mlX10_58 (by repeat first | assumption | exact ax_set_self _ _ _ | exact ax_newA_self _ _ _ | refine (ax_set_ne _ _ (by omega)).trans ?_ | refine (ax_newA_ne _ _ _ (by omega)).trans ?_) rfl rfl rfl rfl rfl ?_
        refine s_X10_hold hM0 hR (by omega) (by omega) ?_
        show WP Γ _ _ _ _ _ _ _
        rw [hm j (by omega) 2 (by omega)]
        refine wp_goto (t := 49) dX10_reserved_45 (by decide) ?_
        refine wp_iadd (n := 50) dX10_reserved_49 rfl ?_
        refine wp_istore_n (n := 51) dX10_reserved_50 rfl rfl rfl rfl ?_
        refine wp_iinc (n := 54) dX10_reserved_51 rfl rfl (nI_inc j) rfl rfl rfl ?_
        refine wp_goto (t := 5) dX10_reserved_54 (by decide) ?_
        simp only [pSum, sumI, if_pos (And.intro hp hr)] at ih
        exact ih
end
