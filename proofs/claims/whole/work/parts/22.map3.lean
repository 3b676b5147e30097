/-! ===== BlockMap: the oldest, the fitting run ===== -/
theorem cntB_imp {p q : Nat → Bool} : ∀ {n : Nat}, (∀ b, b < n → p b = true → q b = true) → cntB p n ≤ cntB q n
  | 0, _ => Nat.le_refl _
  | n + 1, h => by
    have := cntB_imp (n := n) (fun b hb => h b (by omega))
    simp only [cntB]
    by_cases e : p n = true
    · simp only [e, h n (by omega) e, if_true]; omega
    · simp only [e, if_false, Bool.false_eq_true]; omega
theorem cntB_congr {p q : Nat → Bool} {n : Nat} (h : ∀ b, b < n → p b = q b) : cntB p n = cntB q n :=
  Nat.le_antisymm (cntB_imp fun b hb e => by rw [← h b hb]; exact e) (cntB_imp fun b hb e => by rw [h b hb]; exact e)
theorem cntB_or {p q r : Nat → Bool} : ∀ {n : Nat}, (∀ b, b < n → (r b = true ↔ (p b = true ∨ q b = true)) ∧ ¬ (p b = true ∧ q b = true)) → cntB r n = cntB p n + cntB q n
  | 0, _ => rfl
  | n + 1, h => by
    have ih := cntB_or (n := n) (fun b hb => h b (by omega))
    obtain ⟨h1, h2⟩ := h n (by omega)
    simp only [cntB]
    by_cases e : p n = true
    · have e2 : ¬ q n = true := fun q => h2 ⟨e, q⟩
      simp only [e, e2, h1.mpr (Or.inl e), if_true, if_false, Bool.false_eq_true]; omega
    · by_cases e2 : q n = true
      · simp only [e, e2, h1.mpr (Or.inr e2), if_true, if_false, Bool.false_eq_true]; omega
      · have e3 : ¬ r n = true := fun q => (h1.mp q).elim e e2
        simp only [e, e2, e3, if_false, Bool.false_eq_true]; omega
theorem cntB_lt {p q : Nat → Bool} {n b0 : Nat} (hb : b0 < n) (h : ∀ b, b < n → p b = true → q b = true) (hq : q b0 = true) (hp : ¬ p b0 = true) : cntB p n < cntB q n := by
  have e := cntB_or (n := n) (p := p) (q := fun b => q b && !p b) (r := q) (fun b hb => by
    constructor
    · constructor
      · intro hq
        by_cases e : p b = true
        · exact Or.inl e
        · right; simp [hq, e]
      · rintro (e | e)
        · exact h b hb e
        · simp only [Bool.and_eq_true] at e; exact e.1
    · rintro ⟨a, b⟩
      simp [a] at b)
  have h1 : 0 < cntB (fun b => q b && !p b) n := by
    have : ∀ m, b0 < m → 0 < cntB (fun b => q b && !p b) m := by
      intro m
      induction m with
      | zero => intro h; omega
      | succ m ih =>
        intro h
        simp only [cntB]
        by_cases e : b0 = m
        · subst e
          simp [hq, hp]
        · have := ih (by omega)
          omega
    exact this n hb
  omega
theorem cntB_0 {p : Nat → Bool} : ∀ {n : Nat}, (∀ b, b < n → p b = false) → cntB p n = 0
  | 0, _ => rfl
  | n + 1, h => by
    simp only [cntB, cntB_0 (n := n) (fun b hb => h b (by omega)), h n (by omega)]
    rfl
/-- blocks of the pool x whose time is less than t -/
def cLt (pl tm : Nat → Int32) (x t : Int32) (n : Nat) : Nat := cntB (fun b => decide (pl b = x ∧ tm b < t)) n
def cEq (pl tm : Nat → Int32) (x t : Int32) (n : Nat) : Nat := cntB (fun b => decide (pl b = x ∧ tm b = t)) n
def rank (pl tm : Nat → Int32) (n : Nat) (x : Int32) (b : Nat) : Nat := cntB (fun c => decide (pl c = x ∧ (tm c < tm b ∨ (tm c = tm b ∧ c < b)))) n
/-- the w oldest blocks of the pool x -/
def selO (pl tm : Nat → Int32) (n : Nat) (x : Int32) (w b : Nat) : Bool := decide (b < n ∧ pl b = x ∧ rank pl tm n x b < w)
theorem i32_lt_irrefl (a : Int32) : ¬ a < a := Int32.lt_irrefl
theorem i32_lt_trans {a b c : Int32} (h : a < b) (g : b < c) : a < c := Int32.lt_trans h g
theorem i32_lt_asymm {a b : Int32} (h : a < b) : ¬ b < a := Int32.lt_asymm h
theorem i32_tri (a b : Int32) : a < b ∨ a = b ∨ b < a := by
  rw [Int32.lt_iff_toInt_lt, Int32.lt_iff_toInt_lt, ← Int32.toInt_inj]
  omega
theorem i32_not_lt {a b : Int32} (h : ¬ a < b) : b ≤ a := Int32.not_lt.mp h
theorem i32_not_le {a b : Int32} (h : ¬ a ≤ b) : b < a := Int32.not_le.mp h
theorem cEq_mid (pl tm : Nat → Int32) (x : Int32) {n b : Nat} (hb : b ≤ n) : cntB (fun c => decide (pl c = x ∧ tm c = tm b ∧ c < b)) n = cEq pl tm x (tm b) b := by
  induction n with
  | zero =>
    have : b = 0 := by omega
    subst this
    rfl
  | succ n ih =>
    by_cases e : b = n + 1
    · subst e
      exact cntB_congr (fun c hc => by rw [decide_eq_decide]; constructor <;> rintro ⟨a, b⟩ <;> simp_all)
    · have := ih (by omega)
      simp only [cntB, this]
      rw [if_neg (by simp; omega), Nat.add_zero]
theorem rank_eq (pl tm : Nat → Int32) (x : Int32) {n b : Nat} (hb : b < n) : rank pl tm n x b = cLt pl tm x (tm b) n + cEq pl tm x (tm b) b := by
  rw [rank, cLt, ← cEq_mid pl tm x (Nat.le_of_lt hb)]
  refine cntB_or (fun c hc => ?_)
  simp only [decide_eq_true_eq]
  constructor
  · constructor
    · rintro ⟨a, b | b⟩
      · exact Or.inl ⟨a, b⟩
      · exact Or.inr ⟨a, b.1, b.2⟩
    · rintro (⟨a, b⟩ | ⟨a, b, c⟩)
      · exact ⟨a, Or.inl b⟩
      · exact ⟨a, Or.inr ⟨b, c⟩⟩
  · rintro ⟨⟨a, b⟩, c, d, e⟩
    rw [d] at b
    exact i32_lt_irrefl _ b
theorem rank_lt (pl tm : Nat → Int32) (x t : Int32) {n b : Nat} (hb : b < n) (hp : pl b = x) (ht : tm b < t) : rank pl tm n x b < cLt pl tm x t n := by
  refine cntB_lt hb (fun c hc hq => ?_) (by simp [hp, ht]) (by simp [i32_lt_irrefl])
  simp only [decide_eq_true_eq] at hq ⊢
  obtain ⟨a, b | ⟨b, -⟩⟩ := hq
  · exact ⟨a, i32_lt_trans b ht⟩
  · exact ⟨a, by rw [b]; exact ht⟩
theorem rank_ge (pl tm : Nat → Int32) (x t : Int32) {n b : Nat} (ht : t < tm b) : cLt pl tm x t n + cEq pl tm x t n ≤ rank pl tm n x b := by
  have e := cntB_or (n := n) (p := fun c => decide (pl c = x ∧ tm c < t)) (q := fun c => decide (pl c = x ∧ tm c = t)) (r := fun c => decide (pl c = x ∧ (tm c < t ∨ tm c = t))) (fun c hc => by
    simp only [decide_eq_true_eq]
    constructor
    · constructor
      · rintro ⟨a, b | b⟩
        · exact Or.inl ⟨a, b⟩
        · exact Or.inr ⟨a, b⟩
      · rintro (⟨a, b⟩ | ⟨a, b⟩)
        · exact ⟨a, Or.inl b⟩
        · exact ⟨a, Or.inr b⟩
    · rintro ⟨⟨a, b⟩, c, d⟩
      rw [d] at b
      exact i32_lt_irrefl _ b)
  show cntB _ n + cntB _ n ≤ _
  rw [← e]
  refine cntB_imp (fun c hc hq => ?_)
  simp only [decide_eq_true_eq] at hq ⊢
  obtain ⟨a, b | b⟩ := hq
  · exact ⟨a, Or.inl (i32_lt_trans b ht)⟩
  · exact ⟨a, Or.inl (by rw [b]; exact ht)⟩
theorem cEq_le (pl tm : Nat → Int32) (x t : Int32) {i j : Nat} (h : i ≤ j) : cEq pl tm x t i ≤ cEq pl tm x t j := by
  induction j with
  | zero => have : i = 0 := by omega
            subst this; exact Nat.le_refl _
  | succ j ih =>
    by_cases e : i = j + 1
    · subst e; exact Nat.le_refl _
    · have := ih (by omega)
      unfold cEq at this ⊢
      simp only [cntB]
      omega
/-- the smallest time behind t of a block of the pool x; -1 without one -/
def nxt (pl tm : Nat → Int32) (x t : Int32) : Nat → Int32
  | 0 => -1
  | j + 1 => if pl j = x ∧ t < tm j ∧ (nxt pl tm x t j = -1 ∨ tm j < nxt pl tm x t j) then tm j else nxt pl tm x t j
theorem nxt_none {pl tm : Nat → Int32} {x t : Int32} : ∀ {n : Nat}, (∀ b, b < n → 0 ≤ tm b) → nxt pl tm x t n = -1 → ∀ b, b < n → pl b = x → ¬ t < tm b
  | 0, _, _, b, hb, _ => absurd hb (Nat.not_lt_zero b)
  | n + 1, h0, he, b, hb, hp => by
    simp only [nxt] at he
    by_cases hc : pl n = x ∧ t < tm n ∧ (nxt pl tm x t n = -1 ∨ tm n < nxt pl tm x t n)
    · rw [if_pos hc] at he
      have := h0 n (by omega)
      rw [he] at this
      exact absurd this (by decide)
    · rw [if_neg hc] at he
      by_cases e : b = n
      · subst e
        intro hlt
        exact hc ⟨hp, hlt, Or.inl he⟩
      · exact nxt_none (fun b hb => h0 b (by omega)) he b (by omega) hp
theorem nxt_some {pl tm : Nat → Int32} {x t : Int32} : ∀ {n : Nat}, (∀ b, b < n → 0 ≤ tm b) → ¬ nxt pl tm x t n = -1 → (∃ b, b < n ∧ pl b = x ∧ tm b = nxt pl tm x t n) ∧ t < nxt pl tm x t n ∧ ∀ b, b < n → pl b = x → t < tm b → ¬ tm b < nxt pl tm x t n
  | 0, _, he => absurd rfl he
  | n + 1, h0, he => by
    simp only [nxt] at he ⊢
    by_cases hc : pl n = x ∧ t < tm n ∧ (nxt pl tm x t n = -1 ∨ tm n < nxt pl tm x t n)
    · rw [if_pos hc] at he ⊢
      refine ⟨⟨n, by omega, hc.1, rfl⟩, hc.2.1, fun b hb hp hlt => ?_⟩
      by_cases e : b = n
      · subst e; exact i32_lt_irrefl _
      · rcases hc.2.2 with q | q
        · exact absurd hlt (nxt_none (fun b hb => h0 b (by omega)) q b (by omega) hp)
        · by_cases q1 : nxt pl tm x t n = -1
          · exact absurd hlt (nxt_none (fun b hb => h0 b (by omega)) q1 b (by omega) hp)
          · obtain ⟨-, -, h3⟩ := nxt_some (n := n) (fun b hb => h0 b (by omega)) q1
            intro hh
            exact h3 b (by omega) hp hlt (i32_lt_trans hh q)
    · rw [if_neg hc] at he ⊢
      obtain ⟨⟨b0, g1, g2, g3⟩, h2, h3⟩ := nxt_some (n := n) (fun b hb => h0 b (by omega)) he
      refine ⟨⟨b0, by omega, g2, g3⟩, h2, fun b hb hp hlt => ?_⟩
      by_cases e : b = n
      · subst e
        intro hh
        exact hc ⟨hp, hlt, Or.inr hh⟩
      · exact h3 b (by omega) hp hlt
section
variable {Γ : GE} {h : AH} {Q : PO} {p n : Nat} {pl tm pk : Nat → Int32} {x : Int32}
theorem s_X1_nextTime {t : Int32} (hM : MapAt h p n pl tm pk) (hn : n ≤ 200)
    (k : Q (.inl (some (.int (nxt pl tm x t n)))) h) : WP Γ MX1_nextTime (0, 0, 0, 0) 0 [some (.ref p), some (.int x), some (.int t), none, none, none] [] h Q := by
  obtain ⟨hO, hP, hT, hK⟩ := hM
  refine wp_iconst (n := 1) (v := (-1)) dX1_nextTime_0 rfl (by decide) ?_
  refine wp_istore_n (n := 2) dX1_nextTime_1 rfl rfl rfl rfl ?_
  refine wp_iconst (n := 3) (v := 0) dX1_nextTime_2 rfl (by decide) ?_
  refine wp_istore (n := 5) dX1_nextTime_3 rfl rfl rfl rfl ?_
  suffices L : ∀ j, j ≤ n → ∀ q5, WP Γ MX1_nextTime (0, 0, 0, 0) 5 [some (.ref p), some (.int x), some (.int t), some (.int (nxt pl tm x t j)), some (.int (nI j)), q5] [] h Q from L 0 (Nat.zero_le _) none
  refine ax_up n (fun j hj ih => ?_)
  intro q5
  refine wp_lo (lo' := [some (.ref p), some (.int x), some (.int t), some (.int (nxt pl tm x t j)), some (.int (nI j)), none]) (fun k v hk => ?_) ?_
  · match k, hk with
    | 0, hk => exact hk
    | 1, hk => exact hk
    | 2, hk => exact hk
    | 3, hk => exact hk
    | 4, hk => exact hk
    | 5, hk => exact absurd hk (by simp [ax_gl])
    | k + 6, hk => exact absurd hk (by simp [ax_gl])
  refine wp_iload (n := 7) dX1_nextTime_5 rfl rfl ?_
  refine wp_aload_n (n := 8) dX1_nextTime_7 rfl rfl ?_
  refine wp_getf (n := 11) dX1_nextTime_8 rfl flX1_9 (by repeat first | assumption | exact ax_set_self _ _ _ | exact ax_newA_self _ _ _ | refine (ax_set_ne _ _ (by omega)).trans ?_ | refine (ax_newA_ne _ _ _ (by omega)).trans ?_) (by rfl) ?_
  refine wp_icmp_ge (t := 78) (n := 14) dX1_nextTime_11 (by decide) rfl (fun hc => ?_) (fun hc => ?_)
  · rw [nI_le9 (by omega) (by omega)] at hc
    obtain rfl : j = n := by omega
    refine wp_iload_n (n := 79) dX1_nextTime_78 rfl rfl ?_
    exact wp_ireturn dX1_nextTime_79 rfl rfl (k)
  · rw [nI_le9 (by omega) (by omega)] at hc
    have hlt : j < n := by omega
    have ih := ih hlt
    have J0 : ¬ (pl j = x ∧ t < tm j) → ∀ v, v = 0 → WP Γ MX1_nextTime (0, 0, 0, 0) 41 [some (.ref p), some (.int x), some (.int t), some (.int (nxt pl tm x t j)), some (.int (nI j)), none] [.int v] h Q := by
      intro hno v hv
      subst hv
      refine wp_istore (n := 43) dX1_nextTime_41 rfl rfl rfl rfl ?_
      refine wp_iload (n := 45) dX1_nextTime_43 rfl rfl ?_
      refine wp_if_eq (t := 72) (n := 48) dX1_nextTime_45 (by decide) rfl (fun h9 => ?_) (fun h9 => ?_)
      · refine wp_iinc (n := 75) dX1_nextTime_72 rfl rfl (nI_inc j) rfl rfl rfl ?_
        refine wp_goto (t := 5) dX1_nextTime_75 (by decide) ?_
        have := ih (some (.int 0))
        simp only [nxt] at this
        rw [if_neg (fun q => hno ⟨q.1, q.2.1⟩)] at this
        exact this
      · exact absurd rfl h9
    refine wp_aload_n (n := 15) dX1_nextTime_14 rfl rfl ?_
    refine wp_getf (n := 18) dX1_nextTime_15 rfl flX1_15 (by repeat first | assumption | exact ax_set_self _ _ _ | exact ax_newA_self _ _ _ | refine (ax_set_ne _ _ (by omega)).trans ?_ | refine (ax_newA_ne _ _ _ (by omega)).trans ?_) (by rfl) ?_
    refine wp_iload (n := 20) dX1_nextTime_18 rfl rfl ?_
    refine wp_iald (n := 21) _ dX1_nextTime_20 rfl (by repeat first | assumption | exact ax_set_self _ _ _ | exact ax_newA_self _ _ _ | refine (ax_set_ne _ _ (by omega)).trans ?_ | refine (ax_newA_ne _ _ _ (by omega)).trans ?_) rfl (by omega) (by decide) ?_
    refine wp_iload_n (n := 22) dX1_nextTime_21 rfl rfl ?_
    refine wp_icmp_ne (t := 40) (n := 25) dX1_nextTime_22 (by decide) rfl (fun hq => ?_) (fun hq => ?_)
    · refine wp_iconst (n := 41) (v := 0) dX1_nextTime_40 rfl (by decide) ?_
      exact J0 (fun q => hq q.1) _ rfl
    · refine wp_aload_n (n := 26) dX1_nextTime_25 rfl rfl ?_
      refine wp_getf (n := 29) dX1_nextTime_26 rfl flX1_19 (by repeat first | assumption | exact ax_set_self _ _ _ | exact ax_newA_self _ _ _ | refine (ax_set_ne _ _ (by omega)).trans ?_ | refine (ax_newA_ne _ _ _ (by omega)).trans ?_) (by rfl) ?_
      refine wp_iload (n := 31) dX1_nextTime_29 rfl rfl ?_
      refine wp_iald (n := 32) _ dX1_nextTime_31 rfl (by repeat first | assumption | exact ax_set_self _ _ _ | exact ax_newA_self _ _ _ | refine (ax_set_ne _ _ (by omega)).trans ?_ | refine (ax_newA_ne _ _ _ (by omega)).trans ?_) rfl (by omega) (by decide) ?_
      refine wp_iload_n (n := 33) dX1_nextTime_32 rfl rfl ?_
      refine wp_icmp_le (t := 40) (n := 36) dX1_nextTime_33 (by decide) rfl (fun hr => ?_) (fun hr => ?_)
      · refine wp_iconst (n := 41) (v := 0) dX1_nextTime_40 rfl (by decide) ?_
        exact J0 (fun q => absurd q.2 (Int32.not_lt.mpr hr)) _ rfl
      · have hr := i32_not_le hr
        have U : (nxt pl tm x t j = -1 ∨ tm j < nxt pl tm x t j) → WP Γ MX1_nextTime (0, 0, 0, 0) 64 [some (.ref p), some (.int x), some (.int t), some (.int (nxt pl tm x t j)), some (.int (nI j)), some (.int (nI 1))] [] h Q := by
          intro hu
          refine wp_aload_n (n := 65) dX1_nextTime_64 rfl rfl ?_
          refine wp_getf (n := 68) dX1_nextTime_65 rfl flX1_19 (by repeat first | assumption | exact ax_set_self _ _ _ | exact ax_newA_self _ _ _ | refine (ax_set_ne _ _ (by omega)).trans ?_ | refine (ax_newA_ne _ _ _ (by omega)).trans ?_) (by rfl) ?_
          refine wp_iload (n := 70) dX1_nextTime_68 rfl rfl ?_
          refine wp_iald (n := 71) _ dX1_nextTime_70 rfl (by repeat first | assumption | exact ax_set_self _ _ _ | exact ax_newA_self _ _ _ | refine (ax_set_ne _ _ (by omega)).trans ?_ | refine (ax_newA_ne _ _ _ (by omega)).trans ?_) rfl (by omega) (by decide) ?_
          refine wp_istore_n (n := 72) dX1_nextTime_71 rfl rfl rfl rfl ?_
          refine wp_iinc (n := 75) dX1_nextTime_72 rfl rfl (nI_inc j) rfl rfl rfl ?_
          refine wp_goto (t := 5) dX1_nextTime_75 (by decide) ?_
          have := ih (some (.int (nI 1)))
          simp only [nxt] at this
          rw [if_pos ⟨hq, hr, hu⟩] at this
          exact this
        refine wp_iconst (n := 37) (v := nI 1) dX1_nextTime_36 rfl (by decide) ?_
        refine wp_goto (t := 41) dX1_nextTime_37 (by decide) ?_
        refine wp_istore (n := 43) dX1_nextTime_41 rfl rfl rfl rfl ?_
        refine wp_iload (n := 45) dX1_nextTime_43 rfl rfl ?_
        refine wp_if_eq (t := 72) (n := 48) dX1_nextTime_45 (by decide) rfl (fun h9 => ?_) (fun h9 => ?_)
        · exact absurd h9 (by decide)
        · refine wp_iload_n (n := 49) dX1_nextTime_48 rfl rfl ?_
          refine wp_iconst (n := 50) (v := (-1)) dX1_nextTime_49 rfl (by decide) ?_
          refine wp_icmp_eq (t := 64) (n := 53) dX1_nextTime_50 (by decide) rfl (fun hs => ?_) (fun hs => ?_)
          · exact U (Or.inl hs)
          · refine wp_aload_n (n := 54) dX1_nextTime_53 rfl rfl ?_
            refine wp_getf (n := 57) dX1_nextTime_54 rfl flX1_19 (by repeat first | assumption | exact ax_set_self _ _ _ | exact ax_newA_self _ _ _ | refine (ax_set_ne _ _ (by omega)).trans ?_ | refine (ax_newA_ne _ _ _ (by omega)).trans ?_) (by rfl) ?_
            refine wp_iload (n := 59) dX1_nextTime_57 rfl rfl ?_
            refine wp_iald (n := 60) _ dX1_nextTime_59 rfl (by repeat first | assumption | exact ax_set_self _ _ _ | exact ax_newA_self _ _ _ | refine (ax_set_ne _ _ (by omega)).trans ?_ | refine (ax_newA_ne _ _ _ (by omega)).trans ?_) rfl (by omega) (by decide) ?_
            refine wp_iload_n (n := 61) dX1_nextTime_60 rfl rfl ?_
            refine wp_icmp_ge (t := 72) (n := 64) dX1_nextTime_61 (by decide) rfl (fun hu => ?_) (fun hu => ?_)
            · refine wp_iinc (n := 75) dX1_nextTime_72 rfl rfl (nI_inc j) rfl rfl rfl ?_
              refine wp_goto (t := 5) dX1_nextTime_75 (by decide) ?_
              have := ih (some (.int (nI 1)))
              simp only [nxt] at this
              rw [if_neg (fun q => q.2.2.elim hs (fun q => absurd q (Int32.not_lt.mpr hu)))] at this
              exact this
            · exact U (Or.inr (i32_not_le hu))
theorem s_X1_pickOldest {w : Nat} (hM : MapAt h p n pl tm pk) (hA : Γ.2.1 ≤ p) (hn : n ≤ 200) (hw : w ≤ 200) (h0 : ∀ b, b < 200 → pk b = 0) (ht : ∀ b, b < n → 0 ≤ tm b)
    (k : ∀ h' pk', ax_fr p (p + 4) h h' → MapAt h' p n pl tm pk' → (∀ b, b < 200 → pk' b = bI (selO pl tm n x w b)) → Q (.inl none) h') : WP Γ MX1_pickOldest (1, 25, 0, 0) 0 [some (.ref p), some (.int x), some (.int (nI w)), none, none, none, none] [] h Q := by
  have hM0 := hM
  obtain ⟨hO, hP, hT, hK⟩ := hM
  refine wp_iload_n (n := 1) dX1_pickOldest_0 rfl rfl ?_
  refine wp_istore_n (n := 2) dX1_pickOldest_1 rfl rfl rfl rfl ?_
  refine wp_aload_n (n := 3) dX1_pickOldest_2 rfl rfl ?_
  refine wp_iload_n (n := 4) dX1_pickOldest_3 rfl rfl ?_
  refine wp_iconst (n := 5) (v := (-1)) dX1_pickOldest_4 rfl (by decide) ?_
  refine wp_callV2 (n := 8) (rm' := (0, 0, 0, 0)) rfl dX1_pickOldest_5 rfl mlX1_53 (by assumption) rfl rfl rfl rfl rfl ?_
  refine s_X1_nextTime hM0 hn ?_
  show WP Γ _ _ _ _ _ _ _
  refine wp_istore (n := 10) dX1_pickOldest_8 rfl rfl rfl rfl ?_
  refine wp_iconst (n := 11) (v := 0) dX1_pickOldest_10 rfl (by decide) ?_
  refine wp_istore (n := 13) dX1_pickOldest_11 rfl rfl rfl rfl ?_
  -- the outer loop
  have L : ∀ d t, t + d = 200 → ∀ l h1 pk1 τ q6, (τ = -1 → ∀ b, b < 200 → pk1 b = bI (selO pl tm n x w b)) → (¬ τ = -1 → ¬ l = 0 → l + cLt pl tm x τ n = w ∧ t ≤ cLt pl tm x τ n ∧ (∃ b, b < n ∧ pl b = x ∧ tm b = τ) ∧ ∀ b, b < 200 → pk1 b = bI (selO pl tm n x w b && decide (tm b < τ))) → (l = 0 → ∀ b, b < 200 → pk1 b = bI (selO pl tm n x w b)) → l ≤ 200 → ax_fr p (p + 4) h h1 → MapAt h1 p n pl tm pk1 → WP Γ MX1_pickOldest (1, 25, 0, 0) 13 [some (.ref p), some (.int x), some (.int (nI w)), some (.int (nI l)), some (.int τ), some (.int (nI t)), q6] [] h1 Q := by
    intro d
    induction d with
    | zero =>
      intro t hd l h1 pk1 τ q6 H1 H2 H3 hl hF1 hM1
      refine wp_lo (lo' := [some (.ref p), some (.int x), some (.int (nI w)), some (.int (nI l)), some (.int τ), some (.int (nI t)), none]) (fun k v hk => ?_) ?_
      · match k, hk with
        | 0, hk => exact hk
        | 1, hk => exact hk
        | 2, hk => exact hk
        | 3, hk => exact hk
        | 4, hk => exact hk
        | 5, hk => exact hk
        | 6, hk => exact absurd hk (by simp [ax_gl])
        | k + 7, hk => exact absurd hk (by simp [ax_gl])
      have hM0 := hM1
      obtain ⟨hO, hP, hT, hK⟩ := hM1
      refine wp_iload (n := 15) dX1_pickOldest_13 rfl rfl ?_
      refine wp_sipush (n := 18) (v := nI 200) dX1_pickOldest_15 rfl (by decide) ?_
      refine wp_icmp_ge (t := 102) (n := 21) dX1_pickOldest_18 (by decide) rfl (fun hc => ?_) (fun hc => ?_)
      · refine wp_return dX1_pickOldest_102 rfl (k h1 pk1 hF1 hM0 ?_)
        by_cases e : τ = -1
        · exact H1 e
        · by_cases e2 : l = 0
          · exact H3 e2
          obtain ⟨g1, g2, ⟨b, g3, g4, g5⟩, -⟩ := H2 e e2
          exfalso
          have : cLt pl tm x τ n < n := by
            refine Nat.lt_of_lt_of_le (cntB_lt (q := fun _ => true) g3 (fun _ _ _ => rfl) rfl (by simp [g5, i32_lt_irrefl])) (cntB_le _ n)
          omega
      · rw [nI_le9 (by omega) (by omega)] at hc
        omega
    | succ d ih =>
      intro t hd l h1 pk1 τ q6 H1 H2 H3 hl hF1 hM1
      refine wp_lo (lo' := [some (.ref p), some (.int x), some (.int (nI w)), some (.int (nI l)), some (.int τ), some (.int (nI t)), none]) (fun k v hk => ?_) ?_
      · match k, hk with
        | 0, hk => exact hk
        | 1, hk => exact hk
        | 2, hk => exact hk
        | 3, hk => exact hk
        | 4, hk => exact hk
        | 5, hk => exact hk
        | 6, hk => exact absurd hk (by simp [ax_gl])
        | k + 7, hk => exact absurd hk (by simp [ax_gl])
      have hM0 := hM1
      obtain ⟨hO, hP, hT, hK⟩ := hM1
      refine wp_iload (n := 15) dX1_pickOldest_13 rfl rfl ?_
      refine wp_sipush (n := 18) (v := nI 200) dX1_pickOldest_15 rfl (by decide) ?_
      refine wp_icmp_ge (t := 102) (n := 21) dX1_pickOldest_18 (by decide) rfl (fun hc => ?_) (fun hc => ?_)
      · rw [nI_le9 (by omega) (by omega)] at hc
        omega
      · refine wp_iload_n (n := 22) dX1_pickOldest_21 rfl rfl ?_
        refine wp_if_le (t := 102) (n := 25) dX1_pickOldest_22 (by decide) rfl (fun hq => ?_) (fun hq => ?_)
        · rw [nI_zero, nI_le9 (by omega) (by omega)] at hq
          exact wp_return dX1_pickOldest_102 rfl (k h1 pk1 hF1 hM0 (H3 (by omega)))
        · rw [nI_zero, nI_le9 (by omega) (by omega)] at hq
          refine wp_iload (n := 27) dX1_pickOldest_25 rfl rfl ?_
          refine wp_iconst (n := 28) (v := (-1)) dX1_pickOldest_27 rfl (by decide) ?_
          refine wp_icmp_eq (t := 102) (n := 31) dX1_pickOldest_28 (by decide) rfl (fun hr => ?_) (fun hr => ?_)
          · exact wp_return dX1_pickOldest_102 rfl (k h1 pk1 hF1 hM0 (H1 hr))
          · obtain ⟨g1, g2, ⟨b0, g3, g4, g5⟩, g6⟩ := H2 hr (by omega)
            refine wp_iconst (n := 32) (v := 0) dX1_pickOldest_31 rfl (by decide) ?_
            refine wp_istore (n := 34) dX1_pickOldest_32 rfl rfl rfl rfl ?_
            -- the inner loop
            have I : ∀ j, j ≤ n → ∀ l2 h2 pk2, l2 + (cLt pl tm x τ n + cEq pl tm x τ j) = w → ax_fr p (p + 4) h h2 → MapAt h2 p n pl tm pk2 → (∀ b, b < 200 → pk2 b = bI (selO pl tm n x w b && decide (tm b < τ ∨ (tm b = τ ∧ b < j)))) → WP Γ MX1_pickOldest (1, 25, 0, 0) 34 [some (.ref p), some (.int x), some (.int (nI w)), some (.int (nI l2)), some (.int τ), some (.int (nI t)), some (.int (nI j))] [] h2 Q := by
              refine ax_up n (fun j hj ihj => ?_)
              intro l2 h2 pk2 i1 hF2 hM2 i2
              have hM0 := hM2
              obtain ⟨hO, hP, hT, hK⟩ := hM2
              -- behind the inner loop
              have E : (j = n ∨ l2 = 0) → WP Γ MX1_pickOldest (1, 25, 0, 0) 87 [some (.ref p), some (.int x), some (.int (nI w)), some (.int (nI l2)), some (.int τ), some (.int (nI t)), some (.int (nI j))] [] h2 Q := by
                intro he
                refine wp_aload_n (n := 88) dX1_pickOldest_87 rfl rfl ?_
                refine wp_iload_n (n := 89) dX1_pickOldest_88 rfl rfl ?_
                refine wp_iload (n := 91) dX1_pickOldest_89 rfl rfl ?_
                refine wp_callV2 (n := 94) (rm' := (0, 0, 0, 0)) rfl dX1_pickOldest_91 rfl mlX1_53 (by assumption) rfl rfl rfl rfl rfl ?_
                refine s_X1_nextTime hM0 hn ?_
                show WP Γ _ _ _ _ _ _ _
                refine wp_istore (n := 96) dX1_pickOldest_94 rfl rfl rfl rfl ?_
                refine wp_iinc (n := 99) dX1_pickOldest_96 rfl rfl (nI_inc t) rfl rfl rfl ?_
                refine wp_goto (t := 13) dX1_pickOldest_99 (by decide) ?_
                have hfin : (l2 = 0 ∨ nxt pl tm x τ n = -1) → ∀ b, b < 200 → pk2 b = bI (selO pl tm n x w b) := by
                  intro hh b hb
                  rw [i2 b hb]
                  cases hs : selO pl tm n x w b with
                  | false => rfl
                  | true =>
                    rw [selO, decide_eq_true_eq] at hs
                    obtain ⟨s1, s2, s3⟩ := hs
                    congr 1
                    rw [Bool.true_and, decide_eq_true_eq]
                    rcases i32_tri (tm b) τ with q | q | q
                    · exact Or.inl q
                    · refine Or.inr ⟨q, ?_⟩
                      rcases he with e | e
                      · omega
                      · rw [rank_eq pl tm x s1, q] at s3
                        by_cases q2 : b < j
                        · exact q2
                        · have := cEq_le pl tm x τ (Nat.le_of_not_lt q2)
                          omega
                    · exfalso
                      rcases hh with e | e
                      · have h5 := rank_ge pl tm x τ (n := n) q
                        have h6 := cEq_le pl tm x τ hj
                        omega
                      · exact nxt_none ht e b s1 s2 q
                refine ih (t + 1) (by omega) l2 h2 pk2 _ _ (fun e => hfin (Or.inr e)) (fun e hl9 => ?_) (fun e => hfin (Or.inl e)) (by omega) hF2 hM0
                obtain ⟨⟨b1, n1, n2, n3⟩, n4, n5⟩ := nxt_some ht e
                have hC : cLt pl tm x (nxt pl tm x τ n) n = cLt pl tm x τ n + cEq pl tm x τ n := by
                  refine cntB_or (fun c hc => ?_)
                  simp only [decide_eq_true_eq]
                  constructor
                  · constructor
                    · rintro ⟨a, b⟩
                      rcases i32_tri (tm c) τ with q | q | q
                      · exact Or.inl ⟨a, q⟩
                      · exact Or.inr ⟨a, q⟩
                      · exact absurd b (n5 c hc a q)
                    · rintro (⟨a, b⟩ | ⟨a, b⟩)
                      · exact ⟨a, i32_lt_trans b n4⟩
                      · exact ⟨a, by rw [b]; exact n4⟩
                  · rintro ⟨⟨a, b⟩, c, d⟩
                    rw [d] at b
                    exact i32_lt_irrefl _ b
                have hpos : 1 ≤ cEq pl tm x τ n := Nat.lt_of_le_of_lt (Nat.zero_le _) (cntB_lt (p := fun _ => false) g3 (fun _ _ q => absurd q (by decide)) (by simp [g4, g5]) (by decide))
                rcases he with e9 | e9
                · subst e9
                  refine ⟨by omega, by omega, ⟨b1, n1, n2, n3⟩, fun b hb => ?_⟩
                  rw [i2 b hb]
                  cases hs : selO pl tm j x w b with
                  | false => rfl
                  | true =>
                    rw [selO, decide_eq_true_eq] at hs
                    obtain ⟨s1, s2, s3⟩ := hs
                    congr 2
                    rw [decide_eq_decide]
                    constructor
                    · rintro (q | ⟨q, -⟩)
                      · exact i32_lt_trans q n4
                      · rw [q]; exact n4
                    · intro q
                      rcases i32_tri (tm b) τ with r | r | r
                      · exact Or.inl r
                      · exact Or.inr ⟨r, s1⟩
                      · exact absurd q (n5 b s1 s2 r)
                · exact absurd e9 hl9
              refine wp_iload (n := 36) dX1_pickOldest_34 rfl rfl ?_
              refine wp_aload_n (n := 37) dX1_pickOldest_36 rfl rfl ?_
              refine wp_getf (n := 40) dX1_pickOldest_37 rfl flX1_9 (by repeat first | assumption | exact ax_set_self _ _ _ | exact ax_newA_self _ _ _ | refine (ax_set_ne _ _ (by omega)).trans ?_ | refine (ax_newA_ne _ _ _ (by omega)).trans ?_) (by rfl) ?_
              refine wp_icmp_ge (t := 87) (n := 43) dX1_pickOldest_40 (by decide) rfl (fun hs => ?_) (fun hs => ?_)
              · rw [nI_le9 (by omega) (by omega)] at hs
                exact E (Or.inl (by omega))
              · rw [nI_le9 (by omega) (by omega)] at hs
                have hlt : j < n := by omega
                refine wp_iload_n (n := 44) dX1_pickOldest_43 rfl rfl ?_
                refine wp_if_le (t := 87) (n := 47) dX1_pickOldest_44 (by decide) rfl (fun hu => ?_) (fun hu => ?_)
                · rw [nI_zero, nI_le9 (by omega) (by omega)] at hu
                  exact E (Or.inr (by omega))
                · rw [nI_zero, nI_le9 (by omega) (by omega)] at hu
                  have N : ¬ (pl j = x ∧ tm j = τ) → WP Γ MX1_pickOldest (1, 25, 0, 0) 81 [some (.ref p), some (.int x), some (.int (nI w)), some (.int (nI l2)), some (.int τ), some (.int (nI t)), some (.int (nI j))] [] h2 Q := by
                    intro hno
                    refine wp_iinc (n := 84) dX1_pickOldest_81 rfl rfl (nI_inc j) rfl rfl rfl ?_
                    refine wp_goto (t := 34) dX1_pickOldest_84 (by decide) ?_
                    refine ihj hlt l2 h2 pk2 ?_ hF2 hM0 (fun b hb => ?_)
                    · have : cEq pl tm x τ (j + 1) = cEq pl tm x τ j := by
                        unfold cEq
                        simp only [cntB, decide_eq_true_eq, if_neg hno, Nat.add_zero]
                      omega
                    · rw [i2 b hb]
                      cases hs9 : selO pl tm n x w b with
                      | false => rfl
                      | true =>
                        rw [selO, decide_eq_true_eq] at hs9
                        congr 2
                        rw [decide_eq_decide]
                        constructor
                        · rintro (q | ⟨q, r⟩)
                          · exact Or.inl q
                          · exact Or.inr ⟨q, by omega⟩
                        · rintro (q | ⟨q, r⟩)
                          · exact Or.inl q
                          · refine Or.inr ⟨q, ?_⟩
                            by_cases e : b = j
                            · subst e; exact absurd ⟨hs9.2.1, q⟩ hno
                            · omega
                  refine wp_aload_n (n := 48) dX1_pickOldest_47 rfl rfl ?_
                  refine wp_getf (n := 51) dX1_pickOldest_48 rfl flX1_15 (by repeat first | assumption | exact ax_set_self _ _ _ | exact ax_newA_self _ _ _ | refine (ax_set_ne _ _ (by omega)).trans ?_ | refine (ax_newA_ne _ _ _ (by omega)).trans ?_) (by rfl) ?_
                  refine wp_iload (n := 53) dX1_pickOldest_51 rfl rfl ?_
                  refine wp_iald (n := 54) _ dX1_pickOldest_53 rfl (by repeat first | assumption | exact ax_set_self _ _ _ | exact ax_newA_self _ _ _ | refine (ax_set_ne _ _ (by omega)).trans ?_ | refine (ax_newA_ne _ _ _ (by omega)).trans ?_) rfl (by omega) (by decide) ?_
                  refine wp_iload_n (n := 55) dX1_pickOldest_54 rfl rfl ?_
                  refine wp_icmp_ne (t := 81) (n := 58) dX1_pickOldest_55 (by decide) rfl (fun hv => ?_) (fun hv => ?_)
                  · exact N (fun q => hv q.1)
                  · refine wp_aload_n (n := 59) dX1_pickOldest_58 rfl rfl ?_
                    refine wp_getf (n := 62) dX1_pickOldest_59 rfl flX1_19 (by repeat first | assumption | exact ax_set_self _ _ _ | exact ax_newA_self _ _ _ | refine (ax_set_ne _ _ (by omega)).trans ?_ | refine (ax_newA_ne _ _ _ (by omega)).trans ?_) (by rfl) ?_
                    refine wp_iload (n := 64) dX1_pickOldest_62 rfl rfl ?_
                    refine wp_iald (n := 65) _ dX1_pickOldest_64 rfl (by repeat first | assumption | exact ax_set_self _ _ _ | exact ax_newA_self _ _ _ | refine (ax_set_ne _ _ (by omega)).trans ?_ | refine (ax_newA_ne _ _ _ (by omega)).trans ?_) rfl (by omega) (by decide) ?_
                    refine wp_iload (n := 67) dX1_pickOldest_65 rfl rfl ?_
                    refine wp_icmp_ne (t := 81) (n := 70) dX1_pickOldest_67 (by decide) rfl (fun hx => ?_) (fun hx => ?_)
                    · exact N (fun q => hx q.2)
                    · obtain ⟨l2, rfl⟩ : ∃ l', l2 = l' + 1 := ⟨l2 - 1, by omega⟩
                      refine wp_aload_n (n := 71) dX1_pickOldest_70 rfl rfl ?_
                      refine wp_getf (n := 74) dX1_pickOldest_71 rfl flX1_22 (by repeat first | assumption | exact ax_set_self _ _ _ | exact ax_newA_self _ _ _ | refine (ax_set_ne _ _ (by omega)).trans ?_ | refine (ax_newA_ne _ _ _ (by omega)).trans ?_) (by rfl) ?_
                      refine wp_iload (n := 76) dX1_pickOldest_74 rfl rfl ?_
                      refine wp_iconst (n := 77) (v := nI 1) dX1_pickOldest_76 rfl (by decide) ?_
                      refine wp_zast (n := 78) _ dX1_pickOldest_77 rfl (by repeat first | assumption | exact ax_set_self _ _ _ | exact ax_newA_self _ _ _ | refine (ax_set_ne _ _ (by omega)).trans ?_ | refine (ax_newA_ne _ _ _ (by omega)).trans ?_) (by omega) rfl (by omega) (by decide) rfl ?_
                      refine wp_iinc (n := 81) dX1_pickOldest_78 rfl rfl (nI_dec l2) rfl rfl rfl ?_
                      refine wp_iinc (n := 84) dX1_pickOldest_81 rfl rfl (nI_inc j) rfl rfl rfl ?_
                      refine wp_goto (t := 34) dX1_pickOldest_84 (by decide) ?_
                      have hC : cEq pl tm x τ (j + 1) = cEq pl tm x τ j + 1 := by
                        unfold cEq
                        simp only [cntB, decide_eq_true_eq, if_pos (And.intro hv hx)]
                      refine ihj hlt l2 _ _ (by omega) (hF2.put (by omega)) (hM0.setPk _) (fun b hb => ?_)
                      simp only [upd]
                      by_cases e : b = j
                      · subst e
                        have : selO pl tm n x w b = true := by
                          rw [selO, decide_eq_true_eq]
                          refine ⟨hlt, hv, ?_⟩
                          rw [rank_eq pl tm x hlt, hx]
                          omega
                        rw [if_pos rfl, this]
                        simp [hx, bI]
                      · rw [if_neg e, i2 b hb]
                        cases hs : selO pl tm n x w b with
                        | false => rfl
                        | true =>
                          congr 2
                          rw [decide_eq_decide]
                          constructor
                          · rintro (q | ⟨q, r⟩)
                            · exact Or.inl q
                            · exact Or.inr ⟨q, by omega⟩
                          · rintro (q | ⟨q, r⟩)
                            · exact Or.inl q
                            · exact Or.inr ⟨q, by omega⟩
            refine I 0 (Nat.zero_le _) l h1 pk1 (by show l + (cLt pl tm x τ n + 0) = w; omega) hF1 hM0 (fun b hb => ?_)
            rw [g6 b hb]
            congr 2
            rw [decide_eq_decide]
            constructor
            · exact Or.inl
            · rintro (q | ⟨-, q⟩)
              · exact q
              · omega
  have hneg : ∀ b, b < n → (-1 : Int32) < tm b := fun b hb => Int32.lt_of_lt_of_le (by decide) (ht b hb)
  refine L 200 0 rfl w h pk (nxt pl tm x (-1) n) none (fun e b hb => ?_) (fun e _ => ?_) (fun e b hb => ?_) hw ax_fr.rf hM0
  · rw [h0 b hb]
    have : selO pl tm n x w b = false := by
      rw [selO, decide_eq_false_iff_not]
      rintro ⟨q1, q2, -⟩
      exact nxt_none ht e b q1 q2 (hneg b q1)
    rw [this]
    rfl
  · obtain ⟨⟨b1, n1, n2, n3⟩, n4, n5⟩ := nxt_some ht e
    have hC : cLt pl tm x (nxt pl tm x (-1) n) n = 0 := cntB_0 (fun b hb => by
      rw [decide_eq_false_iff_not]
      rintro ⟨q1, q2⟩
      exact n5 b hb q1 (hneg b hb) q2)
    refine ⟨by omega, by omega, ⟨b1, n1, n2, n3⟩, fun b hb => ?_⟩
    rw [h0 b hb]
    cases hs : selO pl tm n x w b with
    | false => rfl
    | true =>
      rw [selO, decide_eq_true_eq] at hs
      simp [n5 b hs.1 hs.2.1 (hneg b hs.1), bI]
  · rw [h0 b hb]
    have : selO pl tm n x w b = false := by
      rw [selO, decide_eq_false_iff_not]
      rintro ⟨-, -, q⟩
      omega
    rw [this]
    rfl
/-- start and length of the shortest run with at least w blocks, of those that end ahead of j -/
def fitS (pl : Nat → Int32) (n : Nat) (x : Int32) (w : Nat) : Nat → Nat × Nat
  | 0 => (0, 201)
  | j + 1 => if endsR pl n x j = true ∧ w ≤ runL pl x (j + 1) ∧ runL pl x (j + 1) < (fitS pl n x w j).2 then (j + 1 - runL pl x (j + 1), runL pl x (j + 1)) else fitS pl n x w j
theorem fitS_le (pl : Nat → Int32) (n : Nat) (x : Int32) (w : Nat) : ∀ j, (fitS pl n x w j).1 ≤ j ∧ (fitS pl n x w j).2 ≤ 201
  | 0 => ⟨Nat.le_refl _, Nat.le_refl _⟩
  | j + 1 => by
    obtain ⟨h1, h2⟩ := fitS_le pl n x w j
    simp only [fitS]
    split
    · rename_i h
      exact ⟨by dsimp only; omega, by dsimp only; omega⟩
    · exact ⟨by omega, h2⟩
theorem s_X1_fittingStart {w : Nat} (hM : MapAt h p n pl tm pk) (hn : n ≤ 200) (hw : w ≤ 200)
    (k : Q (.inl (some (.int (nI (fitS pl n x w n).1)))) h) : WP Γ MX1_fittingStart (1, 22, 0, 0) 0 [some (.ref p), some (.int x), some (.int (nI w)), none, none, none, none] [] h Q := by
  have hM0 := hM
  obtain ⟨hO, hP, hT, hK⟩ := hM
  refine wp_iconst (n := 1) (v := 0) dX1_fittingStart_0 rfl (by decide) ?_
  refine wp_istore_n (n := 2) dX1_fittingStart_1 rfl rfl rfl rfl ?_
  refine wp_sipush (n := 5) (v := nI 201) dX1_fittingStart_2 rfl (by decide) ?_
  refine wp_istore (n := 7) dX1_fittingStart_5 rfl rfl rfl rfl ?_
  refine wp_iconst (n := 8) (v := 0) dX1_fittingStart_7 rfl (by decide) ?_
  refine wp_istore (n := 10) dX1_fittingStart_8 rfl rfl rfl rfl ?_
  refine wp_iconst (n := 11) (v := 0) dX1_fittingStart_10 rfl (by decide) ?_
  refine wp_istore (n := 13) dX1_fittingStart_11 rfl rfl rfl rfl ?_
  refine ax_up (P := fun j => WP Γ MX1_fittingStart (1, 22, 0, 0) 13 [some (.ref p), some (.int x), some (.int (nI w)), some (.int (nI (fitS pl n x w j).1)), some (.int (nI (fitS pl n x w j).2)), some (.int (nI (runL pl x j))), some (.int (nI j))] [] h Q) n (fun j hj ih => ?_) 0 (Nat.zero_le _)
  refine wp_iload (n := 15) dX1_fittingStart_13 rfl rfl ?_
  refine wp_aload_n (n := 16) dX1_fittingStart_15 rfl rfl ?_
  refine wp_getf (n := 19) dX1_fittingStart_16 rfl flX1_9 (by repeat first | assumption | exact ax_set_self _ _ _ | exact ax_newA_self _ _ _ | refine (ax_set_ne _ _ (by omega)).trans ?_ | refine (ax_newA_ne _ _ _ (by omega)).trans ?_) (by rfl) ?_
  refine wp_icmp_ge (t := 84) (n := 22) dX1_fittingStart_19 (by decide) rfl (fun hc => ?_) (fun hc => ?_)
  · rw [nI_le9 (by omega) (by omega)] at hc
    obtain rfl : j = n := by omega
    refine wp_iload_n (n := 85) dX1_fittingStart_84 rfl rfl ?_
    exact wp_ireturn dX1_fittingStart_85 rfl rfl (k)
  · rw [nI_le9 (by omega) (by omega)] at hc
    have hlt : j < n := by omega
    have ih := ih hlt
    have b1 := runL_le pl x j
    have b2 := runL_le pl x (j + 1)
    obtain ⟨b3, b4⟩ := fitS_le pl n x w j
    have J : ∀ v, v = nI (runL pl x (j + 1)) → WP Γ MX1_fittingStart (1, 22, 0, 0) 41 [some (.ref p), some (.int x), some (.int (nI w)), some (.int (nI (fitS pl n x w j).1)), some (.int (nI (fitS pl n x w j).2)), some (.int (nI (runL pl x j))), some (.int (nI j))] [.int v] h Q := by
      intro v hv
      subst hv
      have N : ¬ (endsR pl n x j = true ∧ w ≤ runL pl x (j + 1) ∧ runL pl x (j + 1) < (fitS pl n x w j).2) → WP Γ MX1_fittingStart (1, 22, 0, 0) 78 [some (.ref p), some (.int x), some (.int (nI w)), some (.int (nI (fitS pl n x w j).1)), some (.int (nI (fitS pl n x w j).2)), some (.int (nI (runL pl x (j + 1)))), some (.int (nI j))] [] h Q := by
        intro hno
        refine wp_iinc (n := 81) dX1_fittingStart_78 rfl rfl (nI_inc j) rfl rfl rfl ?_
        refine wp_goto (t := 13) dX1_fittingStart_81 (by decide) ?_
        simp only [fitS, if_neg hno] at ih
        exact ih
      refine wp_istore (n := 43) dX1_fittingStart_41 rfl rfl rfl rfl ?_
      refine wp_aload_n (n := 44) dX1_fittingStart_43 rfl rfl ?_
      refine wp_iload_n (n := 45) dX1_fittingStart_44 rfl rfl ?_
      refine wp_iload (n := 47) dX1_fittingStart_45 rfl rfl ?_
      refine wp_callV2 (n := 50) (rm' := (0, 0, 0, 0)) rfl dX1_fittingStart_47 rfl mlX1_56 (by assumption) rfl rfl rfl rfl rfl ?_
      refine s_X1_endsRun hM0 hn hlt ?_
      show WP Γ _ _ _ _ _ _ _
      refine wp_if_eq (t := 78) (n := 53) dX1_fittingStart_50 (by decide) rfl (fun hq => ?_) (fun hq => ?_)
      · refine N (fun q => ?_)
        rw [q.1] at hq
        exact absurd hq (by decide)
      · have he : endsR pl n x j = true := by
          cases e : endsR pl n x j with
          | true => rfl
          | false => rw [e] at hq; exact absurd rfl hq
        refine wp_iload (n := 55) dX1_fittingStart_53 rfl rfl ?_
        refine wp_iload_n (n := 56) dX1_fittingStart_55 rfl rfl ?_
        refine wp_icmp_lt (t := 78) (n := 59) dX1_fittingStart_56 (by decide) rfl (fun hr => ?_) (fun hr => ?_)
        · rw [nI_lt9 (by omega) (by omega)] at hr
          exact N (fun q => by omega)
        · rw [nI_lt9 (by omega) (by omega)] at hr
          refine wp_iload (n := 61) dX1_fittingStart_59 rfl rfl ?_
          refine wp_iload (n := 63) dX1_fittingStart_61 rfl rfl ?_
          refine wp_icmp_ge (t := 78) (n := 66) dX1_fittingStart_63 (by decide) rfl (fun hs => ?_) (fun hs => ?_)
          · rw [nI_le9 (by omega) (by omega)] at hs
            exact N (fun q => by omega)
          · rw [nI_le9 (by omega) (by omega)] at hs
            refine wp_iload (n := 68) dX1_fittingStart_66 rfl rfl ?_
            refine wp_istore (n := 70) dX1_fittingStart_68 rfl rfl rfl rfl ?_
            refine wp_iload (n := 72) dX1_fittingStart_70 rfl rfl ?_
            refine wp_iconst (n := 73) (v := nI 1) dX1_fittingStart_72 rfl (by decide) ?_
            refine wp_iadd (n := 74) dX1_fittingStart_73 rfl ?_
            refine wp_iload (n := 76) dX1_fittingStart_74 rfl rfl ?_
            refine wp_isub (n := 77) dX1_fittingStart_76 rfl ?_
            rw [nI_add, nI_sub (by omega)]
            refine wp_istore_n (n := 78) dX1_fittingStart_77 rfl rfl rfl rfl ?_
            refine wp_iinc (n := 81) dX1_fittingStart_78 rfl rfl (nI_inc j) rfl rfl rfl ?_
            refine wp_goto (t := 13) dX1_fittingStart_81 (by decide) ?_
            simp only [fitS] at ih
            rw [if_pos ⟨he, by omega, by omega⟩] at ih
            exact ih
    refine wp_aload_n (n := 23) dX1_fittingStart_22 rfl rfl ?_
    refine wp_getf (n := 26) dX1_fittingStart_23 rfl flX1_15 (by repeat first | assumption | exact ax_set_self _ _ _ | exact ax_newA_self _ _ _ | refine (ax_set_ne _ _ (by omega)).trans ?_ | refine (ax_newA_ne _ _ _ (by omega)).trans ?_) (by rfl) ?_
    refine wp_iload (n := 28) dX1_fittingStart_26 rfl rfl ?_
    refine wp_iald (n := 29) _ dX1_fittingStart_28 rfl (by repeat first | assumption | exact ax_set_self _ _ _ | exact ax_newA_self _ _ _ | refine (ax_set_ne _ _ (by omega)).trans ?_ | refine (ax_newA_ne _ _ _ (by omega)).trans ?_) rfl (by omega) (by decide) ?_
    refine wp_iload_n (n := 30) dX1_fittingStart_29 rfl rfl ?_
    refine wp_icmp_ne (t := 40) (n := 33) dX1_fittingStart_30 (by decide) rfl (fun hq => ?_) (fun hq => ?_)
    · refine wp_iconst (n := 41) (v := 0) dX1_fittingStart_40 rfl (by decide) ?_
      exact J _ (by simp only [runL, if_neg hq]; rfl)
    · refine wp_iload (n := 35) dX1_fittingStart_33 rfl rfl ?_
      refine wp_iconst (n := 36) (v := nI 1) dX1_fittingStart_35 rfl (by decide) ?_
      refine wp_iadd (n := 37) dX1_fittingStart_36 rfl ?_
      refine wp_goto (t := 41) dX1_fittingStart_37 (by decide) ?_
      exact J _ (by simp only [runL, if_pos hq]; exact nI_add _ 1)
/-- the blocks that are picked by a way -/
def selW (y : Nat) (pl tm : Nat → Int32) (n : Nat) (x : Int32) (w b : Nat) : Bool :=
  if y = 1 then selH pl n x w b else if y = 2 then selO pl tm n x w b else if y = 3 then selL pl n x w (fitS pl n x w n).1 b else selL pl n x w 0 b
theorem s_X1_pick {w y : Nat} (hM : MapAt h p n pl tm pk) (hA : Γ.2.1 ≤ p) (hn : n ≤ 200) (hw : w ≤ 200) (hy : y ≤ 3) (ht : ∀ b, b < n → 0 ≤ tm b)
    (k : ∀ h' pk', ax_fr p (p + 4) h h' → MapAt h' p n pl tm pk' → (∀ b, b < 200 → pk' b = bI (selW y pl tm n x w b)) → Q (.inl none) h') : WP Γ MX1_pick (2, 51, 0, 0) 0 [some (.ref p), some (.int (nI y)), some (.int x), some (.int (nI w))] [] h Q := by
  have hM0 := hM
  obtain ⟨hO, hP, hT, hK⟩ := hM
  refine wp_aload_n (n := 1) dX1_pick_0 rfl rfl ?_
  refine wp_callV0 (n := 4) (rm' := (0, 0, 0, 0)) rfl dX1_pick_1 rfl mlX1_36 (by assumption) rfl rfl rfl rfl rfl ?_
  refine s_X1_pickNothing hM0 hA (fun h1 pk1 hF1 hM1 hz => ?_)
  show WP Γ _ _ _ _ _ _ _
  have hM2 := hM1
  obtain ⟨hO, hP, hT, hK⟩ := hM1
  refine wp_iload_n (n := 5) dX1_pick_4 rfl rfl ?_
  have hI : (nI y).toInt = (y : Int) := nI_toInt (by omega)
  rcases (show y = 0 ∨ y = 1 ∨ y = 2 ∨ y = 3 by omega) with rfl | rfl | rfl | rfl
  · refine wp_tableOut (t := 65) dX1_pick_5 (Or.inl (by rw [hI]; decide)) (by decide) ?_
    refine wp_aload_n (n := 66) dX1_pick_65 rfl rfl ?_
    refine wp_iload_n (n := 67) dX1_pick_66 rfl rfl ?_
    refine wp_iload_n (n := 68) dX1_pick_67 rfl rfl ?_
    refine wp_iconst (n := 69) (v := 0) dX1_pick_68 rfl (by decide) ?_
    refine wp_callV3 (n := 72) (rm' := (0, 0, 0, 0)) rfl dX1_pick_69 rfl mlX1_50 (by assumption) rfl rfl rfl rfl rfl ?_
    refine s_X1_pickLowest (s := 0) hM2 hA hn hw (by omega) hz (fun h2 pk2 hF2 hM3 hz2 => ?_)
    show WP Γ _ _ _ _ _ _ _
    exact wp_return dX1_pick_72 rfl (k h2 pk2 (hF1.tr hF2 (by omega) (by omega)) hM3 hz2)
  · refine wp_tableIn (t := 32) (off := 27) dX1_pick_5 (by rw [hI]; decide) (by rw [hI]; decide) (by rw [hI]; rfl) (by decide) ?_
    refine wp_aload_n (n := 33) dX1_pick_32 rfl rfl ?_
    refine wp_iload_n (n := 34) dX1_pick_33 rfl rfl ?_
    refine wp_iload_n (n := 35) dX1_pick_34 rfl rfl ?_
    refine wp_callV2 (n := 38) (rm' := (0, 0, 0, 0)) rfl dX1_pick_35 rfl mlX1_39 (by assumption) rfl rfl rfl rfl rfl ?_
    refine s_X1_pickHighest hM2 hA hn hw hz (fun h2 pk2 hF2 hM3 hz2 => ?_)
    show WP Γ _ _ _ _ _ _ _
    refine wp_goto (t := 72) dX1_pick_38 (by decide) ?_
    exact wp_return dX1_pick_72 rfl (k h2 pk2 (hF1.tr hF2 (by omega) (by omega)) hM3 hz2)
  · refine wp_tableIn (t := 41) (off := 36) dX1_pick_5 (by rw [hI]; decide) (by rw [hI]; decide) (by rw [hI]; rfl) (by decide) ?_
    refine wp_aload_n (n := 42) dX1_pick_41 rfl rfl ?_
    refine wp_iload_n (n := 43) dX1_pick_42 rfl rfl ?_
    refine wp_iload_n (n := 44) dX1_pick_43 rfl rfl ?_
    refine wp_callV2 (n := 47) (rm' := (1, 25, 0, 0)) rfl dX1_pick_44 rfl mlX1_43 (by assumption) rfl rfl rfl rfl rfl ?_
    refine s_X1_pickOldest hM2 hA hn hw hz ht (fun h2 pk2 hF2 hM3 hz2 => ?_)
    show WP Γ _ _ _ _ _ _ _
    refine wp_goto (t := 72) dX1_pick_47 (by decide) ?_
    exact wp_return dX1_pick_72 rfl (k h2 pk2 (hF1.tr hF2 (by omega) (by omega)) hM3 hz2)
  · refine wp_tableIn (t := 50) (off := 45) dX1_pick_5 (by rw [hI]; decide) (by rw [hI]; decide) (by rw [hI]; rfl) (by decide) ?_
    refine wp_aload_n (n := 51) dX1_pick_50 rfl rfl ?_
    refine wp_iload_n (n := 52) dX1_pick_51 rfl rfl ?_
    refine wp_iload_n (n := 53) dX1_pick_52 rfl rfl ?_
    refine wp_aload_n (n := 54) dX1_pick_53 rfl rfl ?_
    refine wp_iload_n (n := 55) dX1_pick_54 rfl rfl ?_
    refine wp_iload_n (n := 56) dX1_pick_55 rfl rfl ?_
    refine wp_callV2 (n := 59) (rm' := (1, 22, 0, 0)) rfl dX1_pick_56 rfl mlX1_46 (by assumption) rfl rfl rfl rfl rfl ?_
    refine s_X1_fittingStart hM2 hn hw ?_
    show WP Γ _ _ _ _ _ _ _
    refine wp_callV3 (n := 62) (rm' := (0, 0, 0, 0)) rfl dX1_pick_59 rfl mlX1_50 (by assumption) rfl rfl rfl rfl rfl ?_
    refine s_X1_pickLowest hM2 hA hn hw (fitS_le pl n x w n).1 hz (fun h2 pk2 hF2 hM3 hz2 => ?_)
    show WP Γ _ _ _ _ _ _ _
    refine wp_goto (t := 72) dX1_pick_62 (by decide) ?_
    exact wp_return dX1_pick_72 rfl (k h2 pk2 (hF1.tr hF2 (by omega) (by omega)) hM3 hz2)
end
