/-! ===== picks: sets that are closed ===== -/
def befB (y : Nat) (tm : FI) (c d : Nat) : Bool := if y = 1 then decide (d < c) else if y = 2 then decide (tm c < tm d ∨ (tm c = tm d ∧ c < d)) else decide (c < d)
theorem befB_iff {y : Nat} {tm : FI} {c d : Nat} : befB y tm c d = true ↔ bef y tm c d := by
  unfold befB bef
  split
  · exact decide_eq_true_iff
  · split
    · exact decide_eq_true_iff
    · exact decide_eq_true_iff
def rkY (y : Nat) (pl tm : FI) (n : Nat) (x : Int32) (d : Nat) : Nat := cntB (fun c => decide (pl c = x) && befB y tm c d) n
def clo (y : Nat) (pl tm pk : FI) (x : Int32) (n : Nat) : Prop := (∀ d, d < n → ¬ pk d = 0 → pl d = x) ∧ ∀ c d, c < n → d < n → ¬ pk d = 0 → pl c = x → bef y tm c d → ¬ pk c = 0
def nPk (pk : FI) (n : Nat) : Nat := cntB (fun d => decide (¬ pk d = 0)) n
theorem cntB_pt {b : Nat} : ∀ {n : Nat}, b < n → cntB (fun d => decide (d = b)) n = 1
  | 0, h => absurd h (Nat.not_lt_zero _)
  | n + 1, h => by
    simp only [cntB]
    by_cases e : n = b
    · subst e
      rw [cntB_0 (fun d hd => decide_eq_false (by omega))]
      simp
    · rw [cntB_pt (by omega)]
      simp [e]
theorem cnt_cntB (pl : FI) (x : Int32) : ∀ n, cnt pl x n = cntB (fun d => decide (pl d = x)) n
  | 0 => rfl
  | n + 1 => by simp only [cnt, cntB, cnt_cntB pl x n, decide_eq_true_eq]
section
variable {y n : Nat} {pl tm pk : FI} {x : Int32}
theorem clo.step {b k : Nat} {v : Int32} (h : clo y pl tm pk x n) (hk : nPk pk n = k) (hb : bstP y pl tm pk x n (some b)) (hv : ¬ v = 0) : clo y pl tm (upd pk b v) x n ∧ nPk (upd pk b v) n = k + 1 := by
  obtain ⟨b1, b2, b3, b4⟩ := hb
  refine ⟨⟨fun d hd hp => ?_, fun c d hc hd hp hm hbf => ?_⟩, ?_⟩
  · by_cases e : d = b
    · rw [e]; exact b2
    · simp only [upd, if_neg e] at hp; exact h.1 d hd hp
  · by_cases e : c = b
    · simp only [upd, if_pos e]; exact hv
    · simp only [upd, if_neg e]
      by_cases e2 : d = b
      · subst e2
        intro z
        exact b4 c hc hm z hbf
      · simp only [upd, if_neg e2] at hp
        exact h.2 c d hc hd hp hm hbf
  · rw [← hk]
    unfold nPk
    rw [cntB_or (p := fun d => decide (¬ pk d = 0)) (q := fun d => decide (d = b)) (fun d hd => ?_), cntB_pt b1]
    by_cases e : d = b
    · subst e
      simp [upd, hv, b3]
    · simp [upd, e]
theorem clo.full {k : Nat} (hk : nPk pk n = k) (hlt : k < cnt pl x n) (hb : bstP y pl tm pk x n none) : False := by
  rw [cnt_cntB] at hlt
  have := cntB_imp (n := n) (p := fun d => decide (pl d = x)) (q := fun d => decide (¬ pk d = 0)) (fun d hd hp => decide_eq_true (fun z => hb d hd ⟨of_decide_eq_true hp, z⟩))
  unfold nPk at hk
  omega
theorem clo.sel {w d : Nat} (h : clo y pl tm pk x n) (hk : nPk pk n = w) (hd : d < n) : ¬ pk d = 0 ↔ (pl d = x ∧ rkY y pl tm n x d < w) := by
  constructor
  · intro hp
    refine ⟨h.1 d hd hp, ?_⟩
    rw [← hk]
    refine cntB_lt hd (fun c hc hq => ?_) (decide_eq_true hp) (fun z => ?_)
    · rw [Bool.and_eq_true] at hq
      exact decide_eq_true (h.2 c d hc hd hp (of_decide_eq_true hq.1) (befB_iff.mp hq.2))
    · rw [Bool.and_eq_true] at z
      exact bef_irr _ _ _ (befB_iff.mp z.2)
  · rintro ⟨hm, hr⟩ hp
    have := cntB_imp (n := n) (p := fun c => decide (¬ pk c = 0)) (q := fun c => decide (pl c = x) && befB y tm c d) (fun c hc hq => by
      have hq := of_decide_eq_true hq
      have e : ¬ c = d := fun z => hq (by rw [z]; exact hp)
      rw [Bool.and_eq_true]
      refine ⟨decide_eq_true (h.1 c hc hq), befB_iff.mpr ?_⟩
      rcases bef_tot y tm e with z | z
      · exact z
      · exact absurd hp (h.2 d c hd hc hq hm z))
    unfold nPk at hk
    unfold rkY at hr
    omega
/-! the ranks of the class's choices -/
theorem rk_low {y : Nat} (h1 : ¬ y = 1) (h2 : ¬ y = 2) {d : Nat} : ∀ {n : Nat}, d ≤ n → rkY y pl tm n x d = cnt pl x d := by
  have key : ∀ n, rkY y pl tm n x d = if n ≤ d then cnt pl x n else cnt pl x d := by
    intro n
    induction n with
    | zero => rw [if_pos (Nat.zero_le _)]; rfl
    | succ n ih =>
      have e : rkY y pl tm (n + 1) x d = rkY y pl tm n x d + (if (decide (pl n = x) && befB y tm n d) = true then 1 else 0) := rfl
      have eb : befB y tm n d = decide (n < d) := by unfold befB; rw [if_neg h1, if_neg h2]
      rw [e, ih, eb]
      by_cases q : n + 1 ≤ d
      · rw [if_pos (by omega), if_pos q]
        have : decide (n < d) = true := decide_eq_true (by omega)
        simp only [cnt, this, Bool.and_true, decide_eq_true_eq]
      · rw [if_neg q]
        have : decide (n < d) = false := decide_eq_false (by omega)
        simp only [this, Bool.and_false, Bool.false_eq_true, if_false, Nat.add_zero]
        by_cases r : n ≤ d
        · obtain rfl : n = d := by omega
          rw [if_pos r]
        · rw [if_neg r]
  intro n hn
  rw [key n]
  by_cases q : n ≤ d
  · obtain rfl : n = d := by omega
    rw [if_pos q]
  · rw [if_neg q]
theorem rk_high {d : Nat} : ∀ {n : Nat}, d < n → rkY 1 pl tm n x d = cnt pl x n - cnt pl x (d + 1) := by
  have key : ∀ n, d < n → rkY 1 pl tm n x d + cnt pl x (d + 1) = cnt pl x n := by
    intro n
    induction n with
    | zero => intro h; omega
    | succ n ih =>
      intro hn
      have e : rkY 1 pl tm (n + 1) x d = rkY 1 pl tm n x d + (if (decide (pl n = x) && befB 1 tm n d) = true then 1 else 0) := rfl
      have eb : befB 1 tm n d = decide (d < n) := rfl
      rw [e, eb]
      by_cases q : d < n
      · have := ih q
        have e2 : decide (d < n) = true := decide_eq_true q
        have e3 : cnt pl x (n + 1) = cnt pl x n + (if pl n = x then 1 else 0) := rfl
        rw [e3]
        simp only [e2, Bool.and_true, decide_eq_true_eq]
        omega
      · obtain rfl : d = n := by omega
        have e2 : decide (d < d) = false := decide_eq_false (by omega)
        simp only [e2, Bool.and_false, Bool.false_eq_true, if_false, Nat.add_zero]
        have : rkY 1 pl tm d x d = 0 := cntB_0 (fun c hc => by
          have e4 : befB 1 tm c d = false := decide_eq_false (show ¬ d < c by omega)
          rw [e4, Bool.and_false])
        rw [this]
        exact Nat.zero_add _
  intro n hn
  have := key n hn
  omega
theorem rk_old {d : Nat} : rkY 2 pl tm n x d = rank pl tm n x d := by
  unfold rkY rank
  refine cntB_congr (fun c hc => ?_)
  have : befB 2 tm c d = decide (tm c < tm d ∨ (tm c = tm d ∧ c < d)) := rfl
  rw [this, Bool.decide_and]
theorem sel_rk {w d : Nat} (hd : d < n) (hy : y ≤ 3) (h3 : y = 3 → (fitS pl n x w n).1 = 0) : selW y pl tm n x w d = decide (pl d = x ∧ rkY y pl tm n x d < w) := by
  have z : cnt pl x 0 = 0 := rfl
  unfold selW
  by_cases e1 : y = 1
  · subst e1
    rw [if_pos rfl]
    unfold selH
    rw [rk_high hd, decide_eq_decide]
    exact ⟨fun q => q.2, fun q => ⟨hd, q⟩⟩
  · rw [if_neg e1]
    by_cases e2 : y = 2
    · subst e2
      rw [if_pos rfl]
      unfold selO
      rw [rk_old, decide_eq_decide]
      exact ⟨fun q => q.2, fun q => ⟨hd, q⟩⟩
    · rw [if_neg e2]
      have e4 : selL pl n x w 0 d = decide (pl d = x ∧ rkY y pl tm n x d < w) := by
        unfold selL
        rw [rk_low e1 e2 (by omega), decide_eq_decide, z, Nat.sub_zero]
        exact ⟨fun q => q.2.2, fun q => ⟨Nat.zero_le _, hd, q⟩⟩
      by_cases e3 : y = 3
      · rw [if_pos e3, h3 e3]; exact e4
      · rw [if_neg e3]; exact e4
end
