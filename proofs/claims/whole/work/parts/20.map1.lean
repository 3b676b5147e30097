/-! ===== BlockMap: what reads ===== -/
def MapAt (h : AH) (p n : Nat) (pl tm pk : Nat → Int32) : Prop :=
  h.2 p = some (.inr (1, [.int (nI n), .ref (p + 1), .ref (p + 2), .ref (p + 3)])) ∧ h.2 (p + 1) = some (.inl (.int, 200, .inl pl)) ∧ h.2 (p + 2) = some (.inl (.int, 200, .inl tm)) ∧ h.2 (p + 3) = some (.inl (.boolean, 200, .inl pk))
theorem MapAt.fr {h h' : AH} {p n lo hi : Nat} {pl tm pk : Nat → Int32} (hM : MapAt h p n pl tm pk) (hF : ax_fr lo hi h h') (hd : hi ≤ p ∨ p + 4 ≤ lo) : MapAt h' p n pl tm pk :=
  ⟨hF.get hM.1 (by omega), hF.get hM.2.1 (by omega), hF.get hM.2.2.1 (by omega), hF.get hM.2.2.2 (by omega)⟩
def cnt (f : Nat → Int32) (x : Int32) : Nat → Nat
  | 0 => 0
  | j + 1 => cnt f x j + (if f j = x then 1 else 0)
theorem cnt_le (f : Nat → Int32) (x : Int32) : ∀ j, cnt f x j ≤ j
  | 0 => Nat.le_refl _
  | j + 1 => by have := cnt_le f x j; simp only [cnt]; split <;> omega
theorem cnt_mono (f : Nat → Int32) (x : Int32) {i j : Nat} (h : i ≤ j) : cnt f x i ≤ cnt f x j := by
  induction j with
  | zero => simp at h; subst h; exact Nat.le_refl _
  | succ j ih =>
    by_cases e : i = j + 1
    · subst e; exact Nat.le_refl _
    · have := ih (by omega); simp only [cnt]; omega
theorem cnt_congr {f g : Nat → Int32} {x : Int32} : ∀ {n : Nat}, (∀ b, b < n → f b = g b) → cnt f x n = cnt g x n
  | 0, _ => rfl
  | n + 1, h => by simp only [cnt, cnt_congr (n := n) (fun b hb => h b (by omega)), h n (by omega)]
theorem cnt_sub (f : Nat → Int32) (x : Int32) (i : Nat) : ∀ j, i ≤ j → cnt f x j ≤ cnt f x i + (j - i)
  | 0, h => by simp at h; subst h; omega
  | j + 1, h => by
    by_cases e : i = j + 1
    · subst e; omega
    · have := cnt_sub f x i j (by omega); simp only [cnt]; split <;> omega
/-- the i-th of those that p takes, from j on, c passed already -/
def nthR (p : Nat → Bool) (i : Int32) : Nat → Nat → Nat → Int32
  | 0, _, _ => -1
  | m + 1, j, c => if p j = true then (if nI c = i then nI j else nthR p i m (j + 1) (c + 1)) else nthR p i m (j + 1) c
section
variable {Γ : GE} {h : AH} {Q : PO} {p n : Nat} {pl tm pk : Nat → Int32} {x : Int32}
theorem s_X1_countIn (hM : MapAt h p n pl tm pk) (hn : n ≤ 200)
    (k : Q (.inl (some (.int (nI (cnt pl x n))))) h) : WP Γ MX1_countIn (0, 0, 0, 0) 0 [some (.ref p), some (.int x), none, none] [] h Q := by
  obtain ⟨hO, hP, hT, hK⟩ := hM
  refine wp_iconst (n := 1) (v := 0) dX1_countIn_0 rfl (by decide) ?_
  refine wp_istore_n (n := 2) dX1_countIn_1 rfl rfl rfl rfl ?_
  refine wp_iconst (n := 3) (v := 0) dX1_countIn_2 rfl (by decide) ?_
  refine wp_istore_n (n := 4) dX1_countIn_3 rfl rfl rfl rfl ?_
  refine ax_up (P := fun j => WP Γ MX1_countIn (0, 0, 0, 0) 4 [some (.ref p), some (.int x), some (.int (nI (cnt pl x j))), some (.int (nI j))] [] h Q) n (fun j hj ih => ?_) 0 (Nat.zero_le _)
  refine wp_iload_n (n := 5) dX1_countIn_4 rfl rfl ?_
  refine wp_aload_n (n := 6) dX1_countIn_5 rfl rfl ?_
  refine wp_getf (n := 9) dX1_countIn_6 rfl flX1_9 (by repeat first | assumption | exact ax_set_self _ _ _ | exact ax_newA_self _ _ _ | refine (ax_set_ne _ _ (by omega)).trans ?_ | refine (ax_newA_ne _ _ _ (by omega)).trans ?_) (by rfl) ?_
  refine wp_icmp_ge (t := 31) (n := 12) dX1_countIn_9 (by decide) rfl (fun hc => ?_) (fun hc => ?_)
  · rw [nI_le9 (by omega) (by omega)] at hc
    obtain rfl : j = n := by omega
    refine wp_iload_n (n := 32) dX1_countIn_31 rfl rfl ?_
    exact wp_ireturn dX1_countIn_32 rfl rfl (k)
  · rw [nI_le9 (by omega) (by omega)] at hc
    have hlt : j < n := by omega
    have ih := ih hlt
    refine wp_aload_n (n := 13) dX1_countIn_12 rfl rfl ?_
    refine wp_getf (n := 16) dX1_countIn_13 rfl flX1_15 (by repeat first | assumption | exact ax_set_self _ _ _ | exact ax_newA_self _ _ _ | refine (ax_set_ne _ _ (by omega)).trans ?_ | refine (ax_newA_ne _ _ _ (by omega)).trans ?_) (by rfl) ?_
    refine wp_iload_n (n := 17) dX1_countIn_16 rfl rfl ?_
    refine wp_iald (n := 18) _ dX1_countIn_17 rfl (by repeat first | assumption | exact ax_set_self _ _ _ | exact ax_newA_self _ _ _ | refine (ax_set_ne _ _ (by omega)).trans ?_ | refine (ax_newA_ne _ _ _ (by omega)).trans ?_) rfl (by omega) (by decide) ?_
    refine wp_iload_n (n := 19) dX1_countIn_18 rfl rfl ?_
    refine wp_icmp_ne (t := 25) (n := 22) dX1_countIn_19 (by decide) rfl (fun hq => ?_) (fun hq => ?_)
    · refine wp_iinc (n := 28) dX1_countIn_25 rfl rfl (nI_inc j) rfl rfl rfl ?_
      refine wp_goto (t := 4) dX1_countIn_28 (by decide) ?_
      simp only [cnt, if_neg hq, Nat.add_zero] at ih
      exact ih
    · refine wp_iinc (n := 25) dX1_countIn_22 rfl rfl (nI_inc _) rfl rfl rfl ?_
      refine wp_iinc (n := 28) dX1_countIn_25 rfl rfl (nI_inc j) rfl rfl rfl ?_
      refine wp_goto (t := 4) dX1_countIn_28 (by decide) ?_
      simp only [cnt, if_pos hq] at ih
      exact ih
theorem s_X1_memberAt {i : Int32} (hM : MapAt h p n pl tm pk) (hn : n ≤ 200)
    (k : Q (.inl (some (.int (nthR (fun b => decide (pl b = x)) i n 0 0)))) h) : WP Γ MX1_memberAt (0, 0, 0, 0) 0 [some (.ref p), some (.int x), some (.int i), none, none] [] h Q := by
  obtain ⟨hO, hP, hT, hK⟩ := hM
  refine wp_iconst (n := 1) (v := 0) dX1_memberAt_0 rfl (by decide) ?_
  refine wp_istore_n (n := 2) dX1_memberAt_1 rfl rfl rfl rfl ?_
  refine wp_iconst (n := 3) (v := 0) dX1_memberAt_2 rfl (by decide) ?_
  refine wp_istore (n := 5) dX1_memberAt_3 rfl rfl rfl rfl ?_
  have L : ∀ m j c, j + m = n → Q (.inl (some (.int (nthR (fun b => decide (pl b = x)) i m j c)))) h → WP Γ MX1_memberAt (0, 0, 0, 0) 5 [some (.ref p), some (.int x), some (.int i), some (.int (nI c)), some (.int (nI j))] [] h Q := by
    intro m
    induction m with
    | zero =>
      intro j c hj k
      refine wp_iload (n := 7) dX1_memberAt_5 rfl rfl ?_
      refine wp_aload_n (n := 8) dX1_memberAt_7 rfl rfl ?_
      refine wp_getf (n := 11) dX1_memberAt_8 rfl flX1_9 (by repeat first | assumption | exact ax_set_self _ _ _ | exact ax_newA_self _ _ _ | refine (ax_set_ne _ _ (by omega)).trans ?_ | refine (ax_newA_ne _ _ _ (by omega)).trans ?_) (by rfl) ?_
      refine wp_icmp_ge (t := 42) (n := 14) dX1_memberAt_11 (by decide) rfl (fun hc => ?_) (fun hc => ?_)
      · refine wp_iconst (n := 43) (v := (-1)) dX1_memberAt_42 rfl (by decide) ?_
        exact wp_ireturn dX1_memberAt_43 rfl rfl (k)
      · rw [nI_le9 (by omega) (by omega)] at hc
        omega
    | succ m ih =>
      intro j c hj k
      refine wp_iload (n := 7) dX1_memberAt_5 rfl rfl ?_
      refine wp_aload_n (n := 8) dX1_memberAt_7 rfl rfl ?_
      refine wp_getf (n := 11) dX1_memberAt_8 rfl flX1_9 (by repeat first | assumption | exact ax_set_self _ _ _ | exact ax_newA_self _ _ _ | refine (ax_set_ne _ _ (by omega)).trans ?_ | refine (ax_newA_ne _ _ _ (by omega)).trans ?_) (by rfl) ?_
      refine wp_icmp_ge (t := 42) (n := 14) dX1_memberAt_11 (by decide) rfl (fun hc => ?_) (fun hc => ?_)
      · rw [nI_le9 (by omega) (by omega)] at hc
        omega
      · refine wp_aload_n (n := 15) dX1_memberAt_14 rfl rfl ?_
        refine wp_getf (n := 18) dX1_memberAt_15 rfl flX1_15 (by repeat first | assumption | exact ax_set_self _ _ _ | exact ax_newA_self _ _ _ | refine (ax_set_ne _ _ (by omega)).trans ?_ | refine (ax_newA_ne _ _ _ (by omega)).trans ?_) (by rfl) ?_
        refine wp_iload (n := 20) dX1_memberAt_18 rfl rfl ?_
        refine wp_iald (n := 21) _ dX1_memberAt_20 rfl (by repeat first | assumption | exact ax_set_self _ _ _ | exact ax_newA_self _ _ _ | refine (ax_set_ne _ _ (by omega)).trans ?_ | refine (ax_newA_ne _ _ _ (by omega)).trans ?_) rfl (by omega) (by decide) ?_
        refine wp_iload_n (n := 22) dX1_memberAt_21 rfl rfl ?_
        refine wp_icmp_ne (t := 36) (n := 25) dX1_memberAt_22 (by decide) rfl (fun hq => ?_) (fun hq => ?_)
        · refine wp_iinc (n := 39) dX1_memberAt_36 rfl rfl (nI_inc j) rfl rfl rfl ?_
          refine wp_goto (t := 5) dX1_memberAt_39 (by decide) ?_
          refine ih (j + 1) c (by omega) ?_
          simp only [nthR, decide_eq_true_eq, if_neg hq] at k
          exact k
        · refine wp_iload_n (n := 26) dX1_memberAt_25 rfl rfl ?_
          refine wp_iload_n (n := 27) dX1_memberAt_26 rfl rfl ?_
          refine wp_icmp_ne (t := 33) (n := 30) dX1_memberAt_27 (by decide) rfl (fun hr => ?_) (fun hr => ?_)
          · refine wp_iinc (n := 36) dX1_memberAt_33 rfl rfl (nI_inc c) rfl rfl rfl ?_
            refine wp_iinc (n := 39) dX1_memberAt_36 rfl rfl (nI_inc j) rfl rfl rfl ?_
            refine wp_goto (t := 5) dX1_memberAt_39 (by decide) ?_
            refine ih (j + 1) (c + 1) (by omega) ?_
            simp only [nthR, decide_eq_true_eq, if_pos hq, if_neg hr] at k
            exact k
          · refine wp_iload (n := 32) dX1_memberAt_30 rfl rfl ?_
            simp only [nthR, decide_eq_true_eq, if_pos hq, if_pos hr] at k
            exact wp_ireturn dX1_memberAt_32 rfl rfl (k)
  exact L n 0 0 (by omega) k
theorem s_X1_pickedAt {i : Int32} (hM : MapAt h p n pl tm pk) (hn : n ≤ 200)
    (k : Q (.inl (some (.int (nthR (fun b => decide (¬ pk b = 0)) i n 0 0)))) h) : WP Γ MX1_pickedAt (0, 0, 0, 0) 0 [some (.ref p), some (.int i), none, none] [] h Q := by
  obtain ⟨hO, hP, hT, hK⟩ := hM
  refine wp_iconst (n := 1) (v := 0) dX1_pickedAt_0 rfl (by decide) ?_
  refine wp_istore_n (n := 2) dX1_pickedAt_1 rfl rfl rfl rfl ?_
  refine wp_iconst (n := 3) (v := 0) dX1_pickedAt_2 rfl (by decide) ?_
  refine wp_istore_n (n := 4) dX1_pickedAt_3 rfl rfl rfl rfl ?_
  have L : ∀ m j c, j + m = n → Q (.inl (some (.int (nthR (fun b => decide (¬ pk b = 0)) i m j c)))) h → WP Γ MX1_pickedAt (0, 0, 0, 0) 4 [some (.ref p), some (.int i), some (.int (nI c)), some (.int (nI j))] [] h Q := by
    intro m
    induction m with
    | zero =>
      intro j c hj k
      refine wp_iload_n (n := 5) dX1_pickedAt_4 rfl rfl ?_
      refine wp_aload_n (n := 6) dX1_pickedAt_5 rfl rfl ?_
      refine wp_getf (n := 9) dX1_pickedAt_6 rfl flX1_9 (by repeat first | assumption | exact ax_set_self _ _ _ | exact ax_newA_self _ _ _ | refine (ax_set_ne _ _ (by omega)).trans ?_ | refine (ax_newA_ne _ _ _ (by omega)).trans ?_) (by rfl) ?_
      refine wp_icmp_ge (t := 37) (n := 12) dX1_pickedAt_9 (by decide) rfl (fun hc => ?_) (fun hc => ?_)
      · refine wp_iconst (n := 38) (v := (-1)) dX1_pickedAt_37 rfl (by decide) ?_
        exact wp_ireturn dX1_pickedAt_38 rfl rfl (k)
      · rw [nI_le9 (by omega) (by omega)] at hc
        omega
    | succ m ih =>
      intro j c hj k
      refine wp_iload_n (n := 5) dX1_pickedAt_4 rfl rfl ?_
      refine wp_aload_n (n := 6) dX1_pickedAt_5 rfl rfl ?_
      refine wp_getf (n := 9) dX1_pickedAt_6 rfl flX1_9 (by repeat first | assumption | exact ax_set_self _ _ _ | exact ax_newA_self _ _ _ | refine (ax_set_ne _ _ (by omega)).trans ?_ | refine (ax_newA_ne _ _ _ (by omega)).trans ?_) (by rfl) ?_
      refine wp_icmp_ge (t := 37) (n := 12) dX1_pickedAt_9 (by decide) rfl (fun hc => ?_) (fun hc => ?_)
      · rw [nI_le9 (by omega) (by omega)] at hc
        omega
      · refine wp_aload_n (n := 13) dX1_pickedAt_12 rfl rfl ?_
        refine wp_getf (n := 16) dX1_pickedAt_13 rfl flX1_22 (by repeat first | assumption | exact ax_set_self _ _ _ | exact ax_newA_self _ _ _ | refine (ax_set_ne _ _ (by omega)).trans ?_ | refine (ax_newA_ne _ _ _ (by omega)).trans ?_) (by rfl) ?_
        refine wp_iload_n (n := 17) dX1_pickedAt_16 rfl rfl ?_
        refine wp_zald (n := 18) _ dX1_pickedAt_17 rfl (by repeat first | assumption | exact ax_set_self _ _ _ | exact ax_newA_self _ _ _ | refine (ax_set_ne _ _ (by omega)).trans ?_ | refine (ax_newA_ne _ _ _ (by omega)).trans ?_) rfl (by omega) (by decide) ?_
        refine wp_if_eq (t := 31) (n := 21) dX1_pickedAt_18 (by decide) rfl (fun hq => ?_) (fun hq => ?_)
        · refine wp_iinc (n := 34) dX1_pickedAt_31 rfl rfl (nI_inc j) rfl rfl rfl ?_
          refine wp_goto (t := 4) dX1_pickedAt_34 (by decide) ?_
          refine ih (j + 1) c (by omega) ?_
          simp only [nthR, decide_eq_true_eq, hq, not_true_eq_false, if_false] at k
          exact k
        · refine wp_iload_n (n := 22) dX1_pickedAt_21 rfl rfl ?_
          refine wp_iload_n (n := 23) dX1_pickedAt_22 rfl rfl ?_
          refine wp_icmp_ne (t := 28) (n := 26) dX1_pickedAt_23 (by decide) rfl (fun hr => ?_) (fun hr => ?_)
          · refine wp_iinc (n := 31) dX1_pickedAt_28 rfl rfl (nI_inc c) rfl rfl rfl ?_
            refine wp_iinc (n := 34) dX1_pickedAt_31 rfl rfl (nI_inc j) rfl rfl rfl ?_
            refine wp_goto (t := 4) dX1_pickedAt_34 (by decide) ?_
            refine ih (j + 1) (c + 1) (by omega) ?_
            simp only [nthR, decide_eq_true_eq, if_pos hq, if_neg hr] at k
            exact k
          · refine wp_iload_n (n := 27) dX1_pickedAt_26 rfl rfl ?_
            simp only [nthR, decide_eq_true_eq, if_pos hq, if_pos hr] at k
            exact wp_ireturn dX1_pickedAt_27 rfl rfl (k)
  exact L n 0 0 (by omega) k
theorem s_X1_allPickedAreIn (hM : MapAt h p n pl tm pk) (hn : n ≤ 200)
    (k1 : (∀ b, b < n → ¬ pk b = 0 → pl b = x) → Q (.inl (some (.int (nI 1)))) h) (k0 : (∃ b, b < n ∧ ¬ pk b = 0 ∧ ¬ pl b = x) → Q (.inl (some (.int 0))) h) : WP Γ MX1_allPickedAreIn (0, 0, 0, 0) 0 [some (.ref p), some (.int x), none] [] h Q := by
  obtain ⟨hO, hP, hT, hK⟩ := hM
  refine wp_iconst (n := 1) (v := 0) dX1_allPickedAreIn_0 rfl (by decide) ?_
  refine wp_istore_n (n := 2) dX1_allPickedAreIn_1 rfl rfl rfl rfl ?_
  refine ax_up (P := fun j => (∀ b, b < j → ¬ pk b = 0 → pl b = x) → WP Γ MX1_allPickedAreIn (0, 0, 0, 0) 2 [some (.ref p), some (.int x), some (.int (nI j))] [] h Q) n (fun j hj ih => ?_) 0 (Nat.zero_le _) (fun b hb => absurd hb (Nat.not_lt_zero b))
  intro hall
  refine wp_iload_n (n := 3) dX1_allPickedAreIn_2 rfl rfl ?_
  refine wp_aload_n (n := 4) dX1_allPickedAreIn_3 rfl rfl ?_
  refine wp_getf (n := 7) dX1_allPickedAreIn_4 rfl flX1_9 (by repeat first | assumption | exact ax_set_self _ _ _ | exact ax_newA_self _ _ _ | refine (ax_set_ne _ _ (by omega)).trans ?_ | refine (ax_newA_ne _ _ _ (by omega)).trans ?_) (by rfl) ?_
  refine wp_icmp_ge (t := 37) (n := 10) dX1_allPickedAreIn_7 (by decide) rfl (fun hc => ?_) (fun hc => ?_)
  · rw [nI_le9 (by omega) (by omega)] at hc
    obtain rfl : j = n := by omega
    refine wp_iconst (n := 38) (v := nI 1) dX1_allPickedAreIn_37 rfl (by decide) ?_
    exact wp_ireturn dX1_allPickedAreIn_38 rfl rfl (k1 hall)
  · rw [nI_le9 (by omega) (by omega)] at hc
    have hlt : j < n := by omega
    refine wp_aload_n (n := 11) dX1_allPickedAreIn_10 rfl rfl ?_
    refine wp_getf (n := 14) dX1_allPickedAreIn_11 rfl flX1_22 (by repeat first | assumption | exact ax_set_self _ _ _ | exact ax_newA_self _ _ _ | refine (ax_set_ne _ _ (by omega)).trans ?_ | refine (ax_newA_ne _ _ _ (by omega)).trans ?_) (by rfl) ?_
    refine wp_iload_n (n := 15) dX1_allPickedAreIn_14 rfl rfl ?_
    refine wp_zald (n := 16) _ dX1_allPickedAreIn_15 rfl (by repeat first | assumption | exact ax_set_self _ _ _ | exact ax_newA_self _ _ _ | refine (ax_set_ne _ _ (by omega)).trans ?_ | refine (ax_newA_ne _ _ _ (by omega)).trans ?_) rfl (by omega) (by decide) ?_
    refine wp_if_eq (t := 31) (n := 19) dX1_allPickedAreIn_16 (by decide) rfl (fun hq => ?_) (fun hq => ?_)
    · refine wp_iinc (n := 34) dX1_allPickedAreIn_31 rfl rfl (nI_inc j) rfl rfl rfl ?_
      refine wp_goto (t := 2) dX1_allPickedAreIn_34 (by decide) ?_
      refine ih hlt (fun b hb hp => ?_)
      by_cases e : b = j
      · subst e; exact absurd hq hp
      · exact hall b (by omega) hp
    · refine wp_aload_n (n := 20) dX1_allPickedAreIn_19 rfl rfl ?_
      refine wp_getf (n := 23) dX1_allPickedAreIn_20 rfl flX1_15 (by repeat first | assumption | exact ax_set_self _ _ _ | exact ax_newA_self _ _ _ | refine (ax_set_ne _ _ (by omega)).trans ?_ | refine (ax_newA_ne _ _ _ (by omega)).trans ?_) (by rfl) ?_
      refine wp_iload_n (n := 24) dX1_allPickedAreIn_23 rfl rfl ?_
      refine wp_iald (n := 25) _ dX1_allPickedAreIn_24 rfl (by repeat first | assumption | exact ax_set_self _ _ _ | exact ax_newA_self _ _ _ | refine (ax_set_ne _ _ (by omega)).trans ?_ | refine (ax_newA_ne _ _ _ (by omega)).trans ?_) rfl (by omega) (by decide) ?_
      refine wp_iload_n (n := 26) dX1_allPickedAreIn_25 rfl rfl ?_
      refine wp_icmp_eq (t := 31) (n := 29) dX1_allPickedAreIn_26 (by decide) rfl (fun hr => ?_) (fun hr => ?_)
      · refine wp_iinc (n := 34) dX1_allPickedAreIn_31 rfl rfl (nI_inc j) rfl rfl rfl ?_
        refine wp_goto (t := 2) dX1_allPickedAreIn_34 (by decide) ?_
        refine ih hlt (fun b hb hp => ?_)
        by_cases e : b = j
        · subst e; exact hr
        · exact hall b (by omega) hp
      · refine wp_iconst (n := 30) (v := 0) dX1_allPickedAreIn_29 rfl (by decide) ?_
        exact wp_ireturn dX1_allPickedAreIn_30 rfl rfl (k0 ⟨j, hlt, hq, hr⟩)
/-- b is the last block of a run of the pool x -/
def endsR (pl : Nat → Int32) (n : Nat) (x : Int32) (b : Nat) : Bool := decide (pl b = x ∧ (n ≤ b + 1 ∨ ¬ pl (b + 1) = x))
def bI (b : Bool) : Int32 := if b then nI 1 else 0
theorem s_X1_endsRun {b : Nat} (hM : MapAt h p n pl tm pk) (hn : n ≤ 200) (hb : b < n)
    (k : Q (.inl (some (.int (bI (endsR pl n x b))))) h) : WP Γ MX1_endsRun (0, 0, 0, 0) 0 [some (.ref p), some (.int x), some (.int (nI b))] [] h Q := by
  obtain ⟨hO, hP, hT, hK⟩ := hM
  refine wp_aload_n (n := 1) dX1_endsRun_0 rfl rfl ?_
  refine wp_getf (n := 4) dX1_endsRun_1 rfl flX1_15 (by repeat first | assumption | exact ax_set_self _ _ _ | exact ax_newA_self _ _ _ | refine (ax_set_ne _ _ (by omega)).trans ?_ | refine (ax_newA_ne _ _ _ (by omega)).trans ?_) (by rfl) ?_
  refine wp_iload_n (n := 5) dX1_endsRun_4 rfl rfl ?_
  refine wp_iald (n := 6) _ dX1_endsRun_5 rfl (by repeat first | assumption | exact ax_set_self _ _ _ | exact ax_newA_self _ _ _ | refine (ax_set_ne _ _ (by omega)).trans ?_ | refine (ax_newA_ne _ _ _ (by omega)).trans ?_) rfl (by omega) (by decide) ?_
  refine wp_iload_n (n := 7) dX1_endsRun_6 rfl rfl ?_
  refine wp_icmp_ne (t := 36) (n := 10) dX1_endsRun_7 (by decide) rfl (fun hc => ?_) (fun hc => ?_)
  · refine wp_iconst (n := 37) (v := 0) dX1_endsRun_36 rfl (by decide) ?_
    have e : endsR pl n x b = false := by simp [endsR, hc]
    rw [e] at k
    exact wp_ireturn dX1_endsRun_37 rfl rfl (k)
  · refine wp_iload_n (n := 11) dX1_endsRun_10 rfl rfl ?_
    refine wp_iconst (n := 12) (v := nI 1) dX1_endsRun_11 rfl (by decide) ?_
    refine wp_iadd (n := 13) dX1_endsRun_12 rfl ?_
    refine wp_aload_n (n := 14) dX1_endsRun_13 rfl rfl ?_
    refine wp_getf (n := 17) dX1_endsRun_14 rfl flX1_9 (by repeat first | assumption | exact ax_set_self _ _ _ | exact ax_newA_self _ _ _ | refine (ax_set_ne _ _ (by omega)).trans ?_ | refine (ax_newA_ne _ _ _ (by omega)).trans ?_) (by rfl) ?_
    refine wp_icmp_ge (t := 32) (n := 20) dX1_endsRun_17 (by decide) rfl (fun hq => ?_) (fun hq => ?_)
    · rw [nI_add, nI_le9 (by omega) (by omega)] at hq
      refine wp_iconst (n := 33) (v := nI 1) dX1_endsRun_32 rfl (by decide) ?_
      refine wp_goto (t := 37) dX1_endsRun_33 (by decide) ?_
      have e : endsR pl n x b = true := by simp [endsR, hc, hq]
      rw [e] at k
      exact wp_ireturn dX1_endsRun_37 rfl rfl (k)
    · rw [nI_add, nI_le9 (by omega) (by omega)] at hq
      refine wp_aload_n (n := 21) dX1_endsRun_20 rfl rfl ?_
      refine wp_getf (n := 24) dX1_endsRun_21 rfl flX1_15 (by repeat first | assumption | exact ax_set_self _ _ _ | exact ax_newA_self _ _ _ | refine (ax_set_ne _ _ (by omega)).trans ?_ | refine (ax_newA_ne _ _ _ (by omega)).trans ?_) (by rfl) ?_
      refine wp_iload_n (n := 25) dX1_endsRun_24 rfl rfl ?_
      refine wp_iconst (n := 26) (v := nI 1) dX1_endsRun_25 rfl (by decide) ?_
      refine wp_iadd (n := 27) dX1_endsRun_26 rfl ?_
      refine wp_iald (n := 28) (b + 1) dX1_endsRun_27 rfl (by assumption) (nI_add b 1) (by omega) (by decide) ?_
      refine wp_iload_n (n := 29) dX1_endsRun_28 rfl rfl ?_
      refine wp_icmp_eq (t := 36) (n := 32) dX1_endsRun_29 (by decide) rfl (fun hr => ?_) (fun hr => ?_)
      · refine wp_iconst (n := 37) (v := 0) dX1_endsRun_36 rfl (by decide) ?_
        have e : endsR pl n x b = false := by simp [endsR, hc, hr]; omega
        rw [e] at k
        exact wp_ireturn dX1_endsRun_37 rfl rfl (k)
      · refine wp_iconst (n := 33) (v := nI 1) dX1_endsRun_32 rfl (by decide) ?_
        refine wp_goto (t := 37) dX1_endsRun_33 (by decide) ?_
        have e : endsR pl n x b = true := by simp [endsR, hc, hr]
        rw [e] at k
        exact wp_ireturn dX1_endsRun_37 rfl rfl (k)
def cntB (p : Nat → Bool) : Nat → Nat
  | 0 => 0
  | j + 1 => cntB p j + (if p j = true then 1 else 0)
theorem cntB_le (p : Nat → Bool) : ∀ j, cntB p j ≤ j
  | 0 => Nat.le_refl _
  | j + 1 => by have := cntB_le p j; simp only [cntB]; split <;> omega
theorem s_X1_runsOf (hM : MapAt h p n pl tm pk) (hn : n ≤ 200)
    (k : Q (.inl (some (.int (nI (cntB (endsR pl n x) n))))) h) : WP Γ MX1_runsOf (1, 22, 0, 0) 0 [some (.ref p), some (.int x), none, none] [] h Q := by
  have hM0 := hM
  obtain ⟨hO, hP, hT, hK⟩ := hM
  refine wp_iconst (n := 1) (v := 0) dX1_runsOf_0 rfl (by decide) ?_
  refine wp_istore_n (n := 2) dX1_runsOf_1 rfl rfl rfl rfl ?_
  refine wp_iconst (n := 3) (v := 0) dX1_runsOf_2 rfl (by decide) ?_
  refine wp_istore_n (n := 4) dX1_runsOf_3 rfl rfl rfl rfl ?_
  refine ax_up (P := fun j => WP Γ MX1_runsOf (1, 22, 0, 0) 4 [some (.ref p), some (.int x), some (.int (nI (cntB (endsR pl n x) j))), some (.int (nI j))] [] h Q) n (fun j hj ih => ?_) 0 (Nat.zero_le _)
  refine wp_iload_n (n := 5) dX1_runsOf_4 rfl rfl ?_
  refine wp_aload_n (n := 6) dX1_runsOf_5 rfl rfl ?_
  refine wp_getf (n := 9) dX1_runsOf_6 rfl flX1_9 (by repeat first | assumption | exact ax_set_self _ _ _ | exact ax_newA_self _ _ _ | refine (ax_set_ne _ _ (by omega)).trans ?_ | refine (ax_newA_ne _ _ _ (by omega)).trans ?_) (by rfl) ?_
  refine wp_icmp_ge (t := 30) (n := 12) dX1_runsOf_9 (by decide) rfl (fun hc => ?_) (fun hc => ?_)
  · rw [nI_le9 (by omega) (by omega)] at hc
    obtain rfl : j = n := by omega
    refine wp_iload_n (n := 31) dX1_runsOf_30 rfl rfl ?_
    exact wp_ireturn dX1_runsOf_31 rfl rfl (k)
  · rw [nI_le9 (by omega) (by omega)] at hc
    have hlt : j < n := by omega
    have ih := ih hlt
    refine wp_aload_n (n := 13) dX1_runsOf_12 rfl rfl ?_
    refine wp_iload_n (n := 14) dX1_runsOf_13 rfl rfl ?_
    refine wp_iload_n (n := 15) dX1_runsOf_14 rfl rfl ?_
    refine wp_callV2 (n := 18) (rm' := (0, 0, 0, 0)) rfl dX1_runsOf_15 rfl mlX1_56 (by assumption) rfl rfl rfl rfl rfl ?_
    refine s_X1_endsRun hM0 hn hlt ?_
    show WP Γ _ _ _ _ _ _ _
    refine wp_if_eq (t := 24) (n := 21) dX1_runsOf_18 (by decide) rfl (fun hq => ?_) (fun hq => ?_)
    · refine wp_iinc (n := 27) dX1_runsOf_24 rfl rfl (nI_inc j) rfl rfl rfl ?_
      refine wp_goto (t := 4) dX1_runsOf_27 (by decide) ?_
      cases e : endsR pl n x j with
      | true => rw [e] at hq; exact absurd hq (by decide)
      | false =>
        simp only [cntB, e, Nat.add_zero, if_false, Bool.false_eq_true] at ih
        exact ih
    · refine wp_iinc (n := 24) dX1_runsOf_21 rfl rfl (nI_inc _) rfl rfl rfl ?_
      refine wp_iinc (n := 27) dX1_runsOf_24 rfl rfl (nI_inc j) rfl rfl rfl ?_
      refine wp_goto (t := 4) dX1_runsOf_27 (by decide) ?_
      cases e : endsR pl n x j with
      | false => rw [e] at hq; exact absurd rfl hq
      | true =>
        simp only [cntB, e, if_true] at ih
        exact ih
/-- length of the run that ends ahead of j -/
def runL (pl : Nat → Int32) (x : Int32) : Nat → Nat
  | 0 => 0
  | j + 1 => if pl j = x then runL pl x j + 1 else 0
def longR (pl : Nat → Int32) (x : Int32) : Nat → Nat
  | 0 => 0
  | j + 1 => max (longR pl x j) (runL pl x (j + 1))
theorem runL_le (pl : Nat → Int32) (x : Int32) : ∀ j, runL pl x j ≤ j
  | 0 => Nat.le_refl _
  | j + 1 => by have := runL_le pl x j; simp only [runL]; split <;> omega
theorem longR_le (pl : Nat → Int32) (x : Int32) : ∀ j, longR pl x j ≤ j
  | 0 => Nat.le_refl _
  | j + 1 => by have := longR_le pl x j; have := runL_le pl x (j + 1); simp only [longR]; omega
theorem nI_max {a b : Nat} (ha : a < 2147483648) (hb : b < 2147483648) : (if nI a < nI b then nI b else nI a) = nI (max a b) := by
  by_cases h : a < b
  · rw [if_pos ((nI_lt9 ha hb).mpr h), Nat.max_eq_right (by omega)]
  · rw [if_neg (mt (nI_lt9 ha hb).mp h), Nat.max_eq_left (by omega)]
theorem nI_min {a b : Nat} (ha : a < 2147483648) (hb : b < 2147483648) : (if nI b < nI a then nI b else nI a) = nI (min a b) := by
  by_cases h : b < a
  · rw [if_pos ((nI_lt9 hb ha).mpr h), Nat.min_eq_right (by omega)]
  · rw [if_neg (mt (nI_lt9 hb ha).mp h), Nat.min_eq_left (by omega)]
theorem s_X1_longestOf (hM : MapAt h p n pl tm pk) (hn : n ≤ 200)
    (k : Q (.inl (some (.int (nI (longR pl x n))))) h) : WP Γ MX1_longestOf (1, 60, 0, 0) 0 [some (.ref p), some (.int x), none, none, none] [] h Q := by
  obtain ⟨hO, hP, hT, hK⟩ := hM
  refine wp_iconst (n := 1) (v := 0) dX1_longestOf_0 rfl (by decide) ?_
  refine wp_istore_n (n := 2) dX1_longestOf_1 rfl rfl rfl rfl ?_
  refine wp_iconst (n := 3) (v := 0) dX1_longestOf_2 rfl (by decide) ?_
  refine wp_istore_n (n := 4) dX1_longestOf_3 rfl rfl rfl rfl ?_
  refine wp_iconst (n := 5) (v := 0) dX1_longestOf_4 rfl (by decide) ?_
  refine wp_istore (n := 7) dX1_longestOf_5 rfl rfl rfl rfl ?_
  refine ax_up (P := fun j => WP Γ MX1_longestOf (1, 60, 0, 0) 7 [some (.ref p), some (.int x), some (.int (nI (longR pl x j))), some (.int (nI (runL pl x j))), some (.int (nI j))] [] h Q) n (fun j hj ih => ?_) 0 (Nat.zero_le _)
  refine wp_iload (n := 9) dX1_longestOf_7 rfl rfl ?_
  refine wp_aload_n (n := 10) dX1_longestOf_9 rfl rfl ?_
  refine wp_getf (n := 13) dX1_longestOf_10 rfl flX1_9 (by repeat first | assumption | exact ax_set_self _ _ _ | exact ax_newA_self _ _ _ | refine (ax_set_ne _ _ (by omega)).trans ?_ | refine (ax_newA_ne _ _ _ (by omega)).trans ?_) (by rfl) ?_
  refine wp_icmp_ge (t := 47) (n := 16) dX1_longestOf_13 (by decide) rfl (fun hc => ?_) (fun hc => ?_)
  · rw [nI_le9 (by omega) (by omega)] at hc
    obtain rfl : j = n := by omega
    refine wp_iload_n (n := 48) dX1_longestOf_47 rfl rfl ?_
    exact wp_ireturn dX1_longestOf_48 rfl rfl (k)
  · rw [nI_le9 (by omega) (by omega)] at hc
    have hlt : j < n := by omega
    have ih := ih hlt
    have b1 := longR_le pl x j
    have b2 := runL_le pl x j
    have J : ∀ v, v = nI (runL pl x (j + 1)) → WP Γ MX1_longestOf (1, 60, 0, 0) 34 [some (.ref p), some (.int x), some (.int (nI (longR pl x j))), some (.int (nI (runL pl x j))), some (.int (nI j))] [.int v] h Q := by
      intro v hv
      subst hv
      have b3 := runL_le pl x (j + 1)
      refine wp_istore_n (n := 35) dX1_longestOf_34 rfl rfl rfl rfl ?_
      refine wp_iload_n (n := 36) dX1_longestOf_35 rfl rfl ?_
      refine wp_iload_n (n := 37) dX1_longestOf_36 rfl rfl ?_
      refine wp_mmax (n := 40) dX1_longestOf_37 rfl mxX1_60 ax_mxs ax_mi ax_mxc rfl rfl ?_
      rw [nI_max (by omega) (by omega)]
      refine wp_istore_n (n := 41) dX1_longestOf_40 rfl rfl rfl rfl ?_
      refine wp_iinc (n := 44) dX1_longestOf_41 rfl rfl (nI_inc j) rfl rfl rfl ?_
      refine wp_goto (t := 7) dX1_longestOf_44 (by decide) ?_
      exact ih
    refine wp_aload_n (n := 17) dX1_longestOf_16 rfl rfl ?_
    refine wp_getf (n := 20) dX1_longestOf_17 rfl flX1_15 (by repeat first | assumption | exact ax_set_self _ _ _ | exact ax_newA_self _ _ _ | refine (ax_set_ne _ _ (by omega)).trans ?_ | refine (ax_newA_ne _ _ _ (by omega)).trans ?_) (by rfl) ?_
    refine wp_iload (n := 22) dX1_longestOf_20 rfl rfl ?_
    refine wp_iald (n := 23) _ dX1_longestOf_22 rfl (by repeat first | assumption | exact ax_set_self _ _ _ | exact ax_newA_self _ _ _ | refine (ax_set_ne _ _ (by omega)).trans ?_ | refine (ax_newA_ne _ _ _ (by omega)).trans ?_) rfl (by omega) (by decide) ?_
    refine wp_iload_n (n := 24) dX1_longestOf_23 rfl rfl ?_
    refine wp_icmp_ne (t := 33) (n := 27) dX1_longestOf_24 (by decide) rfl (fun hq => ?_) (fun hq => ?_)
    · refine wp_iconst (n := 34) (v := 0) dX1_longestOf_33 rfl (by decide) ?_
      exact J _ (by simp only [runL, if_neg hq]; rfl)
    · refine wp_iload_n (n := 28) dX1_longestOf_27 rfl rfl ?_
      refine wp_iconst (n := 29) (v := nI 1) dX1_longestOf_28 rfl (by decide) ?_
      refine wp_iadd (n := 30) dX1_longestOf_29 rfl ?_
      refine wp_goto (t := 34) dX1_longestOf_30 (by decide) ?_
      exact J _ (by simp only [runL, if_pos hq]; exact nI_add _ 1)
end
