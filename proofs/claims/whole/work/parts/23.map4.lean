/-! ===== BlockMap: exchanges, copies, the constructor ===== -/
/-- the run of x that ends ahead of j, the block o left out -/
def leftJ (pl : Nat → Int32) (x : Int32) (o : Nat) : Nat → Nat
  | 0 => 0
  | j + 1 => if pl j = x ∧ ¬ j = o then leftJ pl x o j + 1 else 0
/-- the run of x that begins at j, the block o left out -/
def rightJ (pl : Nat → Int32) (x : Int32) (o : Nat) : Nat → Nat → Nat
  | 0, _ => 0
  | m + 1, j => if pl j = x ∧ ¬ j = o then rightJ pl x o m (j + 1) + 1 else 0
theorem leftJ_le (pl : Nat → Int32) (x : Int32) (o : Nat) : ∀ j, leftJ pl x o j ≤ j
  | 0 => Nat.le_refl _
  | j + 1 => by have := leftJ_le pl x o j; simp only [leftJ]; split <;> omega
theorem rightJ_le (pl : Nat → Int32) (x : Int32) (o : Nat) : ∀ m j, rightJ pl x o m j ≤ m
  | 0, _ => Nat.le_refl _
  | m + 1, j => by have := rightJ_le pl x o m (j + 1); simp only [rightJ]; split <;> omega
def joinL (pl : Nat → Int32) (n : Nat) (x : Int32) (o t : Nat) : Nat := 1 + leftJ pl x o t + rightJ pl x o (n - (t + 1)) (t + 1)
section
variable {Γ : GE} {h : AH} {Q : PO} {p n : Nat} {pl tm pk : Nat → Int32} {x : Int32}
theorem s_X1_joinedLength {o t : Nat} (hM : MapAt h p n pl tm pk) (hn : n ≤ 200) (ho : o < n) (ht : t < n)
    (k : Q (.inl (some (.int (nI (joinL pl n x o t))))) h) : WP Γ MX1_joinedLength (0, 0, 0, 0) 0 [some (.ref p), some (.int x), some (.int (nI o)), some (.int (nI t)), none, none] [] h Q := by
  obtain ⟨hO, hP, hT, hK⟩ := hM
  refine wp_iconst (n := 1) (v := nI 1) dX1_joinedLength_0 rfl (by decide) ?_
  refine wp_istore (n := 3) dX1_joinedLength_1 rfl rfl rfl rfl ?_
  refine wp_iload_n (n := 4) dX1_joinedLength_3 rfl rfl ?_
  refine wp_iconst (n := 5) (v := nI 1) dX1_joinedLength_4 rfl (by decide) ?_
  refine wp_isub (n := 6) dX1_joinedLength_5 rfl ?_
  refine wp_istore (n := 8) dX1_joinedLength_6 rfl rfl rfl rfl ?_
  have hl9 := leftJ_le pl x o t
  have R : ∀ m j l, j + m = n → l + rightJ pl x o m j = joinL pl n x o t → WP Γ MX1_joinedLength (0, 0, 0, 0) 44 [some (.ref p), some (.int x), some (.int (nI o)), some (.int (nI t)), some (.int (nI l)), some (.int (nI j))] [] h Q := by
    intro m
    induction m with
    | zero =>
      intro j l hj hl
      have : l = joinL pl n x o t := by simpa [rightJ] using hl
      refine wp_iload (n := 46) dX1_joinedLength_44 rfl rfl ?_
      refine wp_aload_n (n := 47) dX1_joinedLength_46 rfl rfl ?_
      refine wp_getf (n := 50) dX1_joinedLength_47 rfl flX1_9 (by repeat first | assumption | exact ax_set_self _ _ _ | exact ax_newA_self _ _ _ | refine (ax_set_ne _ _ (by omega)).trans ?_ | refine (ax_newA_ne _ _ _ (by omega)).trans ?_) (by rfl) ?_
      refine wp_icmp_ge (t := 79) (n := 53) dX1_joinedLength_50 (by decide) rfl (fun hc => ?_) (fun hc => ?_)
      · refine wp_iload (n := 81) dX1_joinedLength_79 rfl rfl ?_
        rw [this]
        exact wp_ireturn dX1_joinedLength_81 rfl rfl (k)
      · rw [nI_le9 (by omega) (by omega)] at hc
        omega
    | succ m ih =>
      intro j l hj hl
      refine wp_iload (n := 46) dX1_joinedLength_44 rfl rfl ?_
      refine wp_aload_n (n := 47) dX1_joinedLength_46 rfl rfl ?_
      refine wp_getf (n := 50) dX1_joinedLength_47 rfl flX1_9 (by repeat first | assumption | exact ax_set_self _ _ _ | exact ax_newA_self _ _ _ | refine (ax_set_ne _ _ (by omega)).trans ?_ | refine (ax_newA_ne _ _ _ (by omega)).trans ?_) (by rfl) ?_
      refine wp_icmp_ge (t := 79) (n := 53) dX1_joinedLength_50 (by decide) rfl (fun hc => ?_) (fun hc => ?_)
      · rw [nI_le9 (by omega) (by omega)] at hc
        omega
      · have E : ¬ (pl j = x ∧ ¬ j = o) → WP Γ MX1_joinedLength (0, 0, 0, 0) 79 [some (.ref p), some (.int x), some (.int (nI o)), some (.int (nI t)), some (.int (nI l)), some (.int (nI j))] [] h Q := by
          intro hno
          simp only [rightJ, if_neg hno, Nat.add_zero] at hl
          refine wp_iload (n := 81) dX1_joinedLength_79 rfl rfl ?_
          rw [hl]
          exact wp_ireturn dX1_joinedLength_81 rfl rfl (k)
        refine wp_aload_n (n := 54) dX1_joinedLength_53 rfl rfl ?_
        refine wp_getf (n := 57) dX1_joinedLength_54 rfl flX1_15 (by repeat first | assumption | exact ax_set_self _ _ _ | exact ax_newA_self _ _ _ | refine (ax_set_ne _ _ (by omega)).trans ?_ | refine (ax_newA_ne _ _ _ (by omega)).trans ?_) (by rfl) ?_
        refine wp_iload (n := 59) dX1_joinedLength_57 rfl rfl ?_
        refine wp_iald (n := 60) _ dX1_joinedLength_59 rfl (by repeat first | assumption | exact ax_set_self _ _ _ | exact ax_newA_self _ _ _ | refine (ax_set_ne _ _ (by omega)).trans ?_ | refine (ax_newA_ne _ _ _ (by omega)).trans ?_) rfl (by omega) (by decide) ?_
        refine wp_iload_n (n := 61) dX1_joinedLength_60 rfl rfl ?_
        refine wp_icmp_ne (t := 79) (n := 64) dX1_joinedLength_61 (by decide) rfl (fun hq => ?_) (fun hq => ?_)
        · exact E (fun q => hq q.1)
        · refine wp_iload (n := 66) dX1_joinedLength_64 rfl rfl ?_
          refine wp_iload_n (n := 67) dX1_joinedLength_66 rfl rfl ?_
          refine wp_icmp_eq (t := 79) (n := 70) dX1_joinedLength_67 (by decide) rfl (fun hr => ?_) (fun hr => ?_)
          · rw [nI_eq9 (by omega) (by omega)] at hr
            exact E (fun q => q.2 hr)
          · rw [nI_eq9 (by omega) (by omega)] at hr
            refine wp_iinc (n := 73) dX1_joinedLength_70 rfl rfl (nI_inc l) rfl rfl rfl ?_
            refine wp_iinc (n := 76) dX1_joinedLength_73 rfl rfl (nI_inc j) rfl rfl rfl ?_
            refine wp_goto (t := 44) dX1_joinedLength_76 (by decide) ?_
            refine ih (j + 1) (l + 1) (by omega) ?_
            simp only [rightJ, if_pos (And.intro hq hr)] at hl
            omega
  have Lf : ∀ j l v, j ≤ t → v = nI j - nI 1 → l + leftJ pl x o j = 1 + leftJ pl x o t → WP Γ MX1_joinedLength (0, 0, 0, 0) 8 [some (.ref p), some (.int x), some (.int (nI o)), some (.int (nI t)), some (.int (nI l)), some (.int v)] [] h Q := by
    intro j
    induction j with
    | zero =>
      intro l v hj hv hl
      subst hv
      refine wp_iload (n := 10) dX1_joinedLength_8 rfl rfl ?_
      refine wp_if_lt (t := 39) (n := 13) dX1_joinedLength_10 (by decide) rfl (fun hc => ?_) (fun hc => ?_)
      · refine wp_iload_n (n := 40) dX1_joinedLength_39 rfl rfl ?_
        refine wp_iconst (n := 41) (v := nI 1) dX1_joinedLength_40 rfl (by decide) ?_
        refine wp_iadd (n := 42) dX1_joinedLength_41 rfl ?_
        rw [nI_add]
        refine wp_istore (n := 44) dX1_joinedLength_42 rfl rfl rfl rfl ?_
        refine R (n - (t + 1)) (t + 1) l (by omega) ?_
        simp only [joinL, leftJ] at hl ⊢
        omega
      · exact absurd (by decide) hc
    | succ j ih =>
      intro l v hj hv hl
      rw [nI_sub (by omega)] at hv
      subst hv
      refine wp_iload (n := 10) dX1_joinedLength_8 rfl rfl ?_
      refine wp_if_lt (t := 39) (n := 13) dX1_joinedLength_10 (by decide) rfl (fun hc => ?_) (fun hc => ?_)
      · exact absurd hc (nI_pos (by omega))
      · have E : ¬ (pl j = x ∧ ¬ j = o) → WP Γ MX1_joinedLength (0, 0, 0, 0) 39 [some (.ref p), some (.int x), some (.int (nI o)), some (.int (nI t)), some (.int (nI l)), some (.int (nI (j + 1 - 1)))] [] h Q := by
          intro hno
          simp only [leftJ, if_neg hno, Nat.add_zero] at hl
          refine wp_iload_n (n := 40) dX1_joinedLength_39 rfl rfl ?_
          refine wp_iconst (n := 41) (v := nI 1) dX1_joinedLength_40 rfl (by decide) ?_
          refine wp_iadd (n := 42) dX1_joinedLength_41 rfl ?_
          rw [nI_add]
          refine wp_istore (n := 44) dX1_joinedLength_42 rfl rfl rfl rfl ?_
          refine R (n - (t + 1)) (t + 1) l (by omega) ?_
          simp only [joinL]
          omega
        refine wp_aload_n (n := 14) dX1_joinedLength_13 rfl rfl ?_
        refine wp_getf (n := 17) dX1_joinedLength_14 rfl flX1_15 (by repeat first | assumption | exact ax_set_self _ _ _ | exact ax_newA_self _ _ _ | refine (ax_set_ne _ _ (by omega)).trans ?_ | refine (ax_newA_ne _ _ _ (by omega)).trans ?_) (by rfl) ?_
        refine wp_iload (n := 19) dX1_joinedLength_17 rfl rfl ?_
        refine wp_iald (n := 20) j dX1_joinedLength_19 rfl (by assumption) (by rw [Nat.add_sub_cancel]) (by omega) (by decide) ?_
        refine wp_iload_n (n := 21) dX1_joinedLength_20 rfl rfl ?_
        refine wp_icmp_ne (t := 39) (n := 24) dX1_joinedLength_21 (by decide) rfl (fun hq => ?_) (fun hq => ?_)
        · exact E (fun q => hq q.1)
        · refine wp_iload (n := 26) dX1_joinedLength_24 rfl rfl ?_
          refine wp_iload_n (n := 27) dX1_joinedLength_26 rfl rfl ?_
          refine wp_icmp_eq (t := 39) (n := 30) dX1_joinedLength_27 (by decide) rfl (fun hr => ?_) (fun hr => ?_)
          · rw [nI_eq9 (by omega) (by omega)] at hr
            exact E (fun q => q.2 (by omega))
          · rw [nI_eq9 (by omega) (by omega)] at hr
            refine wp_iinc (n := 33) dX1_joinedLength_30 rfl rfl (nI_inc l) rfl rfl rfl ?_
            refine wp_iinc (n := 36) dX1_joinedLength_33 rfl rfl rfl rfl rfl rfl ?_
            refine wp_goto (t := 8) dX1_joinedLength_36 (by decide) ?_
            refine ih (l + 1) _ (by omega) (by rw [Nat.add_sub_cancel]; exact nI_dec1 j) ?_
            have hr2 : ¬ j = o := by omega
            simp only [leftJ, if_pos (And.intro hq hr2)] at hl
            omega
  exact Lf t 1 _ (Nat.le_refl _) rfl rfl
/-- the best exchange with a measure of exchanges: of own o, others ahead of j -/
def binS (val : Nat → Nat → Nat) (pl : Nat → Int32) (x : Int32) (o : Nat) (s : Int32 × Nat) : Nat → Int32 × Nat
  | 0 => s
  | j + 1 => if ¬ pl j = x ∧ (binS val pl x o s j).2 < val o j then (nI (1000 * o + j), val o j) else binS val pl x o s j
def boutS (val : Nat → Nat → Nat) (pl : Nat → Int32) (n : Nat) (x : Int32) : Nat → Int32 × Nat
  | 0 => (-1, longR pl x n)
  | j + 1 => if pl j = x then binS val pl x j (boutS val pl n x j) n else boutS val pl n x j
theorem joinL_le {o t : Nat} (ht : t < n) : joinL pl n x o t ≤ n := by
  have h1 := leftJ_le pl x o t
  have h2 := rightJ_le pl x o (n - (t + 1)) (t + 1)
  simp only [joinL]
  omega
theorem binS_le {o : Nat} {s : Int32 × Nat} (hs : s.2 ≤ n) (j : Nat) (hj : j ≤ n) : (binS (joinL pl n x) pl x o s j).2 ≤ n := by
  induction j with
  | zero => exact hs
  | succ j ih =>
    have := ih (by omega)
    simp only [binS]
    split
    · exact joinL_le (by omega)
    · exact this
theorem boutS_le (j : Nat) (hj : j ≤ n) : (boutS (joinL pl n x) pl n x j).2 ≤ n := by
  induction j with
  | zero => exact longR_le pl x n
  | succ j ih =>
    have := ih (by omega)
    simp only [boutS]
    split
    · exact binS_le this n (Nat.le_refl _)
    · exact this
theorem s_X1_bestExchange (hM : MapAt h p n pl tm pk) (hn : n ≤ 200)
    (k : Q (.inl (some (.int (boutS (joinL pl n x) pl n x n).1))) h) : WP Γ MX1_bestExchange (2, 84, 0, 0) 0 [some (.ref p), some (.int x), none, none, none, none, none] [] h Q := by
  have hM0 := hM
  obtain ⟨hO, hP, hT, hK⟩ := hM
  refine wp_iconst (n := 1) (v := (-1)) dX1_bestExchange_0 rfl (by decide) ?_
  refine wp_istore_n (n := 2) dX1_bestExchange_1 rfl rfl rfl rfl ?_
  refine wp_aload_n (n := 3) dX1_bestExchange_2 rfl rfl ?_
  refine wp_iload_n (n := 4) dX1_bestExchange_3 rfl rfl ?_
  refine wp_callV1 (n := 7) (rm' := (1, 60, 0, 0)) rfl dX1_bestExchange_4 rfl mlX1_65 (by assumption) rfl rfl rfl rfl rfl ?_
  refine s_X1_longestOf hM0 hn ?_
  show WP Γ _ _ _ _ _ _ _
  refine wp_istore_n (n := 8) dX1_bestExchange_7 rfl rfl rfl rfl ?_
  refine wp_iconst (n := 9) (v := 0) dX1_bestExchange_8 rfl (by decide) ?_
  refine wp_istore (n := 11) dX1_bestExchange_9 rfl rfl rfl rfl ?_
  have F : ∀ {a b c d e : Value} {u v u' v' : Option Value} {pc : Nat} {st : List Value} {h : AH}, (∀ z, u' = some z → u = some z) → (∀ z, v' = some z → v = some z) → WP Γ MX1_bestExchange (2, 84, 0, 0) pc [some a, some b, some c, some d, some e, u', v'] st h Q → WP Γ MX1_bestExchange (2, 84, 0, 0) pc [some a, some b, some c, some d, some e, u, v] st h Q := by
    intro a b c d e u v u' v' pc st h hu hv hk
    refine wp_lo (fun k z hz => ?_) hk
    match k, hz with
    | 0, hk => exact hk
    | 1, hk => exact hk
    | 2, hk => exact hk
    | 3, hk => exact hk
    | 4, hk => exact hk
    | 5, hk => exact hu _ hk
    | 6, hk => exact hv _ hk
    | k + 7, hk => exact absurd hk (by simp [ax_gl])
  refine ax_up (P := fun j => WP Γ MX1_bestExchange (2, 84, 0, 0) 11 [some (.ref p), some (.int x), some (.int (boutS (joinL pl n x) pl n x j).1), some (.int (nI (boutS (joinL pl n x) pl n x j).2)), some (.int (nI j)), none, none] [] h Q) n (fun j hj ih => ?_) 0 (Nat.zero_le _)
  have hb0 := boutS_le (pl := pl) (x := x) j hj
  refine wp_iload (n := 13) dX1_bestExchange_11 rfl rfl ?_
  refine wp_aload_n (n := 14) dX1_bestExchange_13 rfl rfl ?_
  refine wp_getf (n := 17) dX1_bestExchange_14 rfl flX1_9 (by repeat first | assumption | exact ax_set_self _ _ _ | exact ax_newA_self _ _ _ | refine (ax_set_ne _ _ (by omega)).trans ?_ | refine (ax_newA_ne _ _ _ (by omega)).trans ?_) (by rfl) ?_
  refine wp_icmp_ge (t := 103) (n := 20) dX1_bestExchange_17 (by decide) rfl (fun hc => ?_) (fun hc => ?_)
  · rw [nI_le9 (by omega) (by omega)] at hc
    obtain rfl : j = n := by omega
    refine wp_iload_n (n := 104) dX1_bestExchange_103 rfl rfl ?_
    exact wp_ireturn dX1_bestExchange_104 rfl rfl (k)
  · rw [nI_le9 (by omega) (by omega)] at hc
    have hlt : j < n := by omega
    have ih := ih hlt
    refine wp_aload_n (n := 21) dX1_bestExchange_20 rfl rfl ?_
    refine wp_getf (n := 24) dX1_bestExchange_21 rfl flX1_15 (by repeat first | assumption | exact ax_set_self _ _ _ | exact ax_newA_self _ _ _ | refine (ax_set_ne _ _ (by omega)).trans ?_ | refine (ax_newA_ne _ _ _ (by omega)).trans ?_) (by rfl) ?_
    refine wp_iload (n := 26) dX1_bestExchange_24 rfl rfl ?_
    refine wp_iald (n := 27) _ dX1_bestExchange_26 rfl (by repeat first | assumption | exact ax_set_self _ _ _ | exact ax_newA_self _ _ _ | refine (ax_set_ne _ _ (by omega)).trans ?_ | refine (ax_newA_ne _ _ _ (by omega)).trans ?_) rfl (by omega) (by decide) ?_
    refine wp_iload_n (n := 28) dX1_bestExchange_27 rfl rfl ?_
    refine wp_icmp_eq (t := 34) (n := 31) dX1_bestExchange_28 (by decide) rfl (fun hq => ?_) (fun hq => ?_)
    · simp only [boutS, if_pos hq] at ih
      refine wp_iconst (n := 35) (v := 0) dX1_bestExchange_34 rfl (by decide) ?_
      refine wp_istore (n := 37) dX1_bestExchange_35 rfl rfl rfl rfl ?_
      generalize boutS (joinL pl n x) pl n x j = s0 at ih hb0 ⊢
      refine ax_up (P := fun i => WP Γ MX1_bestExchange (2, 84, 0, 0) 37 [some (.ref p), some (.int x), some (.int (binS (joinL pl n x) pl x j s0 i).1), some (.int (nI (binS (joinL pl n x) pl x j s0 i).2)), some (.int (nI j)), some (.int (nI i)), none] [] h Q) n (fun i hi ihi => ?_) 0 (Nat.zero_le _)
      have hb1 := binS_le (pl := pl) (x := x) (o := j) hb0 i hi
      refine wp_iload (n := 39) dX1_bestExchange_37 rfl rfl ?_
      refine wp_aload_n (n := 40) dX1_bestExchange_39 rfl rfl ?_
      refine wp_getf (n := 43) dX1_bestExchange_40 rfl flX1_9 (by repeat first | assumption | exact ax_set_self _ _ _ | exact ax_newA_self _ _ _ | refine (ax_set_ne _ _ (by omega)).trans ?_ | refine (ax_newA_ne _ _ _ (by omega)).trans ?_) (by rfl) ?_
      refine wp_icmp_ge (t := 97) (n := 46) dX1_bestExchange_43 (by decide) rfl (fun hr => ?_) (fun hr => ?_)
      · rw [nI_le9 (by omega) (by omega)] at hr
        obtain rfl : i = n := by omega
        refine wp_iinc (n := 100) dX1_bestExchange_97 rfl rfl (nI_inc j) rfl rfl rfl ?_
        refine wp_goto (t := 11) dX1_bestExchange_100 (by decide) ?_
        exact F (fun z hz => by cases hz) (fun z hz => by cases hz) ih
      · rw [nI_le9 (by omega) (by omega)] at hr
        have hlti : i < n := by omega
        have ihi := ihi hlti
        have J : ∀ v, (if pl i = x then v = 0 else v = joinL pl n x j i) → WP Γ MX1_bestExchange (2, 84, 0, 0) 70 [some (.ref p), some (.int x), some (.int (binS (joinL pl n x) pl x j s0 i).1), some (.int (nI (binS (joinL pl n x) pl x j s0 i).2)), some (.int (nI j)), some (.int (nI i)), none] [.int (nI v)] h Q := by
          intro v hv
          have hvn : v ≤ n := by
            by_cases e : pl i = x
            · rw [if_pos e] at hv; omega
            · rw [if_neg e] at hv; rw [hv]; exact joinL_le hlti
          refine wp_istore (n := 72) dX1_bestExchange_70 rfl rfl rfl rfl ?_
          refine wp_iload (n := 74) dX1_bestExchange_72 rfl rfl ?_
          refine wp_iload_n (n := 75) dX1_bestExchange_74 rfl rfl ?_
          refine wp_icmp_le (t := 91) (n := 78) dX1_bestExchange_75 (by decide) rfl (fun hs => ?_) (fun hs => ?_)
          · rw [nI_le9 (by omega) (by omega)] at hs
            refine wp_iinc (n := 94) dX1_bestExchange_91 rfl rfl (nI_inc i) rfl rfl rfl ?_
            refine wp_goto (t := 37) dX1_bestExchange_94 (by decide) ?_
            simp only [binS] at ihi
            rw [if_neg (fun q => by rw [if_neg q.1] at hv; omega)] at ihi
            exact F (fun z hz => hz) (fun z hz => by cases hz) ihi
          · rw [nI_le9 (by omega) (by omega)] at hs
            have e : ¬ pl i = x := fun e => by rw [if_pos e] at hv; omega
            rw [if_neg e] at hv
            subst hv
            refine wp_iload (n := 80) dX1_bestExchange_78 rfl rfl ?_
            refine wp_istore_n (n := 81) dX1_bestExchange_80 rfl rfl rfl rfl ?_
            refine wp_sipush (n := 84) (v := nI 1000) dX1_bestExchange_81 rfl (by decide) ?_
            refine wp_iload (n := 86) dX1_bestExchange_84 rfl rfl ?_
            refine wp_imul (n := 87) dX1_bestExchange_86 rfl ?_
            refine wp_iload (n := 89) dX1_bestExchange_87 rfl rfl ?_
            refine wp_iadd (n := 90) dX1_bestExchange_89 rfl ?_
            rw [nI_mul, nI_add]
            refine wp_istore_n (n := 91) dX1_bestExchange_90 rfl rfl rfl rfl ?_
            refine wp_iinc (n := 94) dX1_bestExchange_91 rfl rfl (nI_inc i) rfl rfl rfl ?_
            refine wp_goto (t := 37) dX1_bestExchange_94 (by decide) ?_
            simp only [binS] at ihi
            rw [if_pos ⟨e, by omega⟩] at ihi
            exact F (fun z hz => hz) (fun z hz => by cases hz) ihi
        refine wp_aload_n (n := 47) dX1_bestExchange_46 rfl rfl ?_
        refine wp_getf (n := 50) dX1_bestExchange_47 rfl flX1_15 (by repeat first | assumption | exact ax_set_self _ _ _ | exact ax_newA_self _ _ _ | refine (ax_set_ne _ _ (by omega)).trans ?_ | refine (ax_newA_ne _ _ _ (by omega)).trans ?_) (by rfl) ?_
        refine wp_iload (n := 52) dX1_bestExchange_50 rfl rfl ?_
        refine wp_iald (n := 53) _ dX1_bestExchange_52 rfl (by repeat first | assumption | exact ax_set_self _ _ _ | exact ax_newA_self _ _ _ | refine (ax_set_ne _ _ (by omega)).trans ?_ | refine (ax_newA_ne _ _ _ (by omega)).trans ?_) rfl (by omega) (by decide) ?_
        refine wp_iload_n (n := 54) dX1_bestExchange_53 rfl rfl ?_
        refine wp_icmp_ne (t := 61) (n := 57) dX1_bestExchange_54 (by decide) rfl (fun hs => ?_) (fun hs => ?_)
        · refine wp_aload_n (n := 62) dX1_bestExchange_61 rfl rfl ?_
          refine wp_iload_n (n := 63) dX1_bestExchange_62 rfl rfl ?_
          refine wp_iload (n := 65) dX1_bestExchange_63 rfl rfl ?_
          refine wp_iload (n := 67) dX1_bestExchange_65 rfl rfl ?_
          refine wp_callV3 (n := 70) (rm' := (0, 0, 0, 0)) rfl dX1_bestExchange_67 rfl mlX1_69 (by assumption) rfl rfl rfl rfl rfl ?_
          refine s_X1_joinedLength hM0 hn hlt hlti ?_
          show WP Γ _ _ _ _ _ _ _
          exact J _ (by rw [if_neg hs])
        · refine wp_iconst (n := 58) (v := 0) dX1_bestExchange_57 rfl (by decide) ?_
          refine wp_goto (t := 70) dX1_bestExchange_58 (by decide) ?_
          exact J 0 (by rw [if_pos hs])
    · simp only [boutS, if_neg hq] at ih
      refine wp_goto (t := 97) dX1_bestExchange_31 (by decide) ?_
      refine wp_iinc (n := 100) dX1_bestExchange_97 rfl rfl (nI_inc j) rfl rfl rfl ?_
      refine wp_goto (t := 11) dX1_bestExchange_100 (by decide) ?_
      exact ih
theorem s_X1_copyFrom {q m : Nat} {pl2 tm2 pk2 : Nat → Int32} (hM : MapAt h p n pl tm pk) (hM2 : MapAt h q m pl2 tm2 pk2) (hA : Γ.2.1 ≤ p) (hd : q + 4 ≤ p ∨ p + 4 ≤ q)
    (k : ∀ h', ax_fr p (p + 4) h h' → MapAt h' p m pl2 tm2 pk → Q (.inl none) h') : WP Γ MX1_copyFrom (1, 60, 0, 0) 0 [some (.ref p), some (.ref q)] [] h Q := by
  have hM0 := hM
  obtain ⟨hO, hP, hT, hK⟩ := hM
  have hM20 := hM2
  obtain ⟨hO2, hP2, hT2, hK2⟩ := hM2
  refine wp_aload_n (n := 1) dX1_copyFrom_0 rfl rfl ?_
  refine wp_aload_n (n := 2) dX1_copyFrom_1 rfl rfl ?_
  refine wp_getf (n := 5) dX1_copyFrom_2 rfl flX1_9 (by repeat first | assumption | exact ax_set_self _ _ _ | exact ax_newA_self _ _ _ | refine (ax_set_ne _ _ (by omega)).trans ?_ | refine (ax_newA_ne _ _ _ (by omega)).trans ?_) (by rfl) ?_
  refine wp_putf (n := 8) dX1_copyFrom_5 rfl flX1_9 (by repeat first | assumption | exact ax_set_self _ _ _ | exact ax_newA_self _ _ _ | refine (ax_set_ne _ _ (by omega)).trans ?_ | refine (ax_newA_ne _ _ _ (by omega)).trans ?_) (by omega) (by rfl) rfl rfl ?_
  have hM1 := hM0.setN m
  have hF1 : ax_fr p (p + 4) h (ax_set h p (.inr (1, [.int (nI m), .ref (p + 1), .ref (p + 2), .ref (p + 3)]))) := ax_fr.set (by omega)
  generalize ax_set h p (.inr (1, [.int (nI m), .ref (p + 1), .ref (p + 2), .ref (p + 3)])) = h1 at hM1 hF1 ⊢
  have hN1 := hM20.fr hF1 (by omega)
  have hM10 := hM1
  have hN10 := hN1
  obtain ⟨hO, hP, hT, hK⟩ := hM1
  obtain ⟨hO2, hP2, hT2, hK2⟩ := hN1
  refine wp_aload_n (n := 9) dX1_copyFrom_8 rfl rfl ?_
  refine wp_getf (n := 12) dX1_copyFrom_9 rfl flX1_15 (by repeat first | assumption | exact ax_set_self _ _ _ | exact ax_newA_self _ _ _ | refine (ax_set_ne _ _ (by omega)).trans ?_ | refine (ax_newA_ne _ _ _ (by omega)).trans ?_) (by rfl) ?_
  refine wp_iconst (n := 13) (v := 0) dX1_copyFrom_12 rfl (by decide) ?_
  refine wp_aload_n (n := 14) dX1_copyFrom_13 rfl rfl ?_
  refine wp_getf (n := 17) dX1_copyFrom_14 rfl flX1_15 (by repeat first | assumption | exact ax_set_self _ _ _ | exact ax_newA_self _ _ _ | refine (ax_set_ne _ _ (by omega)).trans ?_ | refine (ax_newA_ne _ _ _ (by omega)).trans ?_) (by rfl) ?_
  refine wp_iconst (n := 18) (v := 0) dX1_copyFrom_17 rfl (by decide) ?_
  refine wp_sipush (n := 21) (v := nI 200) dX1_copyFrom_18 rfl (by decide) ?_
  refine wp_copyAll (n := 24) (N := 200) dX1_copyFrom_21 rfl cpX1_30 ax_cn ax_cs ax_ci (by repeat first | assumption | exact ax_set_self _ _ _ | exact ax_newA_self _ _ _ | refine (ax_set_ne _ _ (by omega)).trans ?_ | refine (ax_newA_ne _ _ _ (by omega)).trans ?_) (by repeat first | assumption | exact ax_set_self _ _ _ | exact ax_newA_self _ _ _ | refine (ax_set_ne _ _ (by omega)).trans ?_ | refine (ax_newA_ne _ _ _ (by omega)).trans ?_) (by rfl) (by rfl) (by omega) rfl (fun _ => by rfl) (fun _ _ _ => by trivial) rfl rfl rfl (by decide) rfl rfl ?_
  have hM2 := hM10.setPl pl2
  have hF2 := hF1.put (a := p + 1) (e := .inl (.int, 200, .inl pl2)) (by omega)
  generalize ax_set h1 (p + 1) (.inl (.int, 200, .inl pl2)) = h2 at hM2 hF2 ⊢
  have hN2 := hM20.fr hF2 (by omega)
  have hM20 := hM2
  obtain ⟨hO, hP, hT, hK⟩ := hM2
  obtain ⟨hO2, hP2, hT2, hK2⟩ := hN2
  refine wp_aload_n (n := 25) dX1_copyFrom_24 rfl rfl ?_
  refine wp_getf (n := 28) dX1_copyFrom_25 rfl flX1_19 (by repeat first | assumption | exact ax_set_self _ _ _ | exact ax_newA_self _ _ _ | refine (ax_set_ne _ _ (by omega)).trans ?_ | refine (ax_newA_ne _ _ _ (by omega)).trans ?_) (by rfl) ?_
  refine wp_iconst (n := 29) (v := 0) dX1_copyFrom_28 rfl (by decide) ?_
  refine wp_aload_n (n := 30) dX1_copyFrom_29 rfl rfl ?_
  refine wp_getf (n := 33) dX1_copyFrom_30 rfl flX1_19 (by repeat first | assumption | exact ax_set_self _ _ _ | exact ax_newA_self _ _ _ | refine (ax_set_ne _ _ (by omega)).trans ?_ | refine (ax_newA_ne _ _ _ (by omega)).trans ?_) (by rfl) ?_
  refine wp_iconst (n := 34) (v := 0) dX1_copyFrom_33 rfl (by decide) ?_
  refine wp_sipush (n := 37) (v := nI 200) dX1_copyFrom_34 rfl (by decide) ?_
  refine wp_copyAll (n := 40) (N := 200) dX1_copyFrom_37 rfl cpX1_30 ax_cn ax_cs ax_ci (by repeat first | assumption | exact ax_set_self _ _ _ | exact ax_newA_self _ _ _ | refine (ax_set_ne _ _ (by omega)).trans ?_ | refine (ax_newA_ne _ _ _ (by omega)).trans ?_) (by repeat first | assumption | exact ax_set_self _ _ _ | exact ax_newA_self _ _ _ | refine (ax_set_ne _ _ (by omega)).trans ?_ | refine (ax_newA_ne _ _ _ (by omega)).trans ?_) (by rfl) (by rfl) (by omega) rfl (fun _ => by rfl) (fun _ _ _ => by trivial) rfl rfl rfl (by decide) rfl rfl ?_
  exact wp_return dX1_copyFrom_40 rfl (k _ (hF2.put (by omega)) (hM20.setTm _))
theorem s_X1_init (hO : h.2 p = some (.inr (1, [.int 0, .null, .null, .null]))) (hz : h.1 = p + 1) (hA : Γ.2.1 ≤ p)
    (k : ∀ h', h'.1 = p + 4 → (∀ a, a < p → h'.2 a = h.2 a) → MapAt h' p 0 (fun _ => 0) (fun _ => 0) (fun _ => 0) → Q (.inl none) h') : WP Γ MX1_init (1, 60, 3, 600) 0 [some (.ref p)] [] h Q := by
  refine wp_aload_n (n := 1) dX1_init_0 rfl rfl ?_
  refine wp_objInit (n := 4) dX1_init_1 rfl olX1_3 ax_oi ax_oc rfl rfl ?_
  refine wp_aload_n (n := 5) dX1_init_4 rfl rfl ?_
  refine wp_iconst (n := 6) (v := 0) dX1_init_5 rfl (by decide) ?_
  refine wp_putf (n := 9) dX1_init_6 rfl flX1_9 (by repeat first | assumption | exact ax_set_self _ _ _ | exact ax_newA_self _ _ _ | refine (ax_set_ne _ _ (by omega)).trans ?_ | refine (ax_newA_ne _ _ _ (by omega)).trans ?_) (by omega) (by rfl) rfl rfl ?_
  refine wp_aload_n (n := 10) dX1_init_9 rfl rfl ?_
  refine wp_sipush (n := 13) (v := nI 200) dX1_init_10 rfl (by decide) ?_
  refine wp_newaA (n := 15) (p + 1) 200 (ty := .int) (200, .inl (fun _ => 0)) dX1_init_13 rfl hz rfl ac_int rfl (by decide) rfl (fun _ => rfl) (fun _ q => by cases q) (by decide) rfl rfl ?_
  refine wp_putF (n := 18) dX1_init_15 rfl flX1_15 rfl rfl (by repeat first | assumption | exact ax_set_self _ _ _ | exact ax_newA_self _ _ _ | refine (ax_set_ne _ _ (by omega)).trans ?_ | refine (ax_newA_ne _ _ _ (by omega)).trans ?_) (by omega) (by rfl) rfl rfl ?_
  refine wp_aload_n (n := 19) dX1_init_18 rfl rfl ?_
  refine wp_sipush (n := 22) (v := nI 200) dX1_init_19 rfl (by decide) ?_
  refine wp_newaA (n := 24) (p + 2) 200 (ty := .int) (200, .inl (fun _ => 0)) dX1_init_22 rfl rfl rfl ac_int rfl (by decide) rfl (fun _ => rfl) (fun _ q => by cases q) (by decide) rfl rfl ?_
  refine wp_putF (n := 27) dX1_init_24 rfl flX1_19 rfl rfl (by repeat first | assumption | exact ax_set_self _ _ _ | exact ax_newA_self _ _ _ | refine (ax_set_ne _ _ (by omega)).trans ?_ | refine (ax_newA_ne _ _ _ (by omega)).trans ?_) (by omega) (by rfl) rfl rfl ?_
  refine wp_aload_n (n := 28) dX1_init_27 rfl rfl ?_
  refine wp_sipush (n := 31) (v := nI 200) dX1_init_28 rfl (by decide) ?_
  refine wp_newaA (n := 33) (p + 3) 200 (ty := .boolean) (200, .inl (fun _ => 0)) dX1_init_31 rfl rfl rfl ac_boolean rfl (by decide) rfl (fun _ => rfl) (fun _ q => by cases q) (by decide) rfl rfl ?_
  refine wp_putF (n := 36) dX1_init_33 rfl flX1_22 rfl rfl (by repeat first | assumption | exact ax_set_self _ _ _ | exact ax_newA_self _ _ _ | refine (ax_set_ne _ _ (by omega)).trans ?_ | refine (ax_newA_ne _ _ _ (by omega)).trans ?_) (by omega) (by rfl) rfl rfl ?_
  refine wp_return dX1_init_36 rfl (k _ rfl (fun a ha => ?_) ⟨?_, ?_, ?_, ?_⟩)
  · repeat first | rfl | refine (ax_set_ne _ _ (by omega)).trans ?_ | refine (ax_newA_ne _ _ _ (by omega)).trans ?_
  · repeat first | assumption | exact ax_set_self _ _ _ | exact ax_newA_self _ _ _ | refine (ax_set_ne _ _ (by omega)).trans ?_ | refine (ax_newA_ne _ _ _ (by omega)).trans ?_
  · repeat first | assumption | exact ax_set_self _ _ _ | exact ax_newA_self _ _ _ | refine (ax_set_ne _ _ (by omega)).trans ?_ | refine (ax_newA_ne _ _ _ (by omega)).trans ?_
  · repeat first | assumption | exact ax_set_self _ _ _ | exact ax_newA_self _ _ _ | refine (ax_set_ne _ _ (by omega)).trans ?_ | refine (ax_newA_ne _ _ _ (by omega)).trans ?_
  · repeat first | assumption | exact ax_set_self _ _ _ | exact ax_newA_self _ _ _ | refine (ax_set_ne _ _ (by omega)).trans ?_ | refine (ax_newA_ne _ _ _ (by omega)).trans ?_
end
