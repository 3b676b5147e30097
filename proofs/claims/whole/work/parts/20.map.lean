def cnt (f : Nat → Int32) (x : Int32) : Nat → Nat
  | 0 => 0
  | j + 1 => cnt f x j + (if f j = x then 1 else 0)
theorem ax_up {P : Nat → Prop} (n : Nat) (hs : ∀ j, j ≤ n → (j < n → P (j + 1)) → P j) : ∀ j, j ≤ n → P j := by
  have h : ∀ m j, j + m = n → P j := by
    intro m
    induction m with
    | zero => exact fun j hj => hs j (by omega) (fun q => absurd q (by omega))
    | succ m ih => exact fun j hj => hs j (by omega) (fun q => ih (j + 1) (by omega))
  exact fun j hj => h (n - j) j (by omega)
theorem nI_inc (j : Nat) : nI j + Int32.ofInt 1 = nI (j + 1) := nI_1 j
/-- countIn: how many of the first n blocks are in the pool x -/
theorem wp_X1_countIn {Γ : GE} {h : AH} {Q : PO} {p n : Nat} {f : Nat → Int32} {x : Int32} (hO : h.2 p = some (.inr (1, [.int (nI n), .ref (p + 1), .ref (p + 2), .ref (p + 3)]))) (hP : h.2 (p + 1) = some (.inl (.int, 200, .inl f))) (hn : n ≤ 200)
    (k : Q (.inl (some (.int (nI (cnt f x n))))) h) : WP Γ MX1_countIn (0, 0, 0, 0) 0 [some (.ref p), some (.int x), none, none] [] h Q := by
  refine wp_iconst (n := 1) (v := 0) dX1_countIn_0 rfl (by decide) ?_
  refine wp_istore_n (n := 2) dX1_countIn_1 rfl rfl rfl rfl ?_
  refine wp_iconst (n := 3) (v := 0) dX1_countIn_2 rfl (by decide) ?_
  refine wp_istore_n (n := 4) dX1_countIn_3 rfl rfl rfl rfl ?_
  refine ax_up (P := fun j => WP Γ MX1_countIn (0, 0, 0, 0) 4 [some (.ref p), some (.int x), some (.int (nI (cnt f x j))), some (.int (nI j))] [] h Q) n (fun j hj ih => ?_) 0 (Nat.zero_le _)
  refine wp_iload_n (n := 5) dX1_countIn_4 rfl rfl ?_
  refine wp_aload_n (n := 6) dX1_countIn_5 rfl rfl ?_
  refine wp_getf (n := 9) dX1_countIn_6 rfl flX1_9 (by assumption) (by rfl) ?_
  refine wp_icmp_ge (t := 31) (n := 12) dX1_countIn_9 (by decide) rfl (fun hc => ?_) (fun hc => ?_)
  · have e : j = n := by
      have := (nI_leI (by omega) (by omega)).mp hc
      omega
    subst e
    refine wp_iload_n (n := 32) dX1_countIn_31 rfl rfl ?_
    exact wp_ireturn dX1_countIn_32 rfl rfl (k)
  · have hlt : j < n := by
      have := mt (nI_leI (by omega) (by omega)).mpr hc
      omega
    refine wp_aload_n (n := 13) dX1_countIn_12 rfl rfl ?_
    refine wp_getf (n := 16) dX1_countIn_13 rfl flX1_15 (by assumption) (by rfl) ?_
    refine wp_iload_n (n := 17) dX1_countIn_16 rfl rfl ?_
    refine wp_iald (n := 18) _ dX1_countIn_17 rfl (by assumption) rfl (by omega) (by decide) ?_
    refine wp_iload_n (n := 19) dX1_countIn_18 rfl rfl ?_
    refine wp_icmp_ne (t := 25) (n := 22) dX1_countIn_19 (by decide) rfl (fun hc => ?_) (fun hc => ?_)
    · refine wp_iinc (n := 28) dX1_countIn_25 rfl rfl (nI_inc j) rfl rfl rfl ?_
      refine wp_goto (t := 4) dX1_countIn_28 (by decide) ?_
      have := ih hlt
      simp only [cnt, if_neg hc, Nat.add_zero] at this
      exact this
    · refine wp_iinc (n := 25) dX1_countIn_22 rfl rfl (nI_inc (cnt f x j)) rfl rfl rfl ?_
      refine wp_iinc (n := 28) dX1_countIn_25 rfl rfl (nI_inc j) rfl rfl rfl ?_
      refine wp_goto (t := 4) dX1_countIn_28 (by decide) ?_
      have := ih hlt
      simp only [cnt, if_pos hc] at this
      exact this
