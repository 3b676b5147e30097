/-! ===== the reference: pairs ===== -/

/-- reading a batch touches the object and the commands -/
def fr2 (m : Nat) (h h' : AH) : Prop := h'.1 = h.1 ∧ ∀ c, ¬ c = m → ¬ c = m + 11 → h'.2 c = h.2 c
theorem fr2.rf {m : Nat} {h : AH} : fr2 m h h := ⟨rfl, fun _ _ _ => rfl⟩
theorem fr2.tr {m : Nat} {h h1 h2 : AH} (a : fr2 m h h1) (b : fr2 m h1 h2) : fr2 m h h2 := ⟨b.1.trans a.1, fun c c1 c2 => (b.2 c c1 c2).trans (a.2 c c1 c2)⟩
theorem fr2.of {m lo hi : Nat} {h h1 : AH} (a : ax_fr lo hi h h1) (q : (lo = m ∨ lo = m + 11) ∧ hi = lo + 1) : fr2 m h h1 := ⟨a.1, fun c c1 c2 => a.2 c (by omega)⟩
def BE (h h' : AH) (m a : Nat) (th tl e : Int32) (pos : Nat) (lr cm : Int32) : Prop := fr2 m h h' ∧ ModE h' m a th tl e pos lr cm ∧ ∃ CM', h'.2 (m + 11) = some (.inl (.int, 1250, .inl CM'))
/-- the commands of the reference follow those of the class -/
def ComR (rs CM : FI) (n : Nat) : Prop := ∀ i, i < n → ∃ c, rs (i * 5 + 0) = nI c ∧ c ≤ 3 ∧ CM (5 * i + 0) = nI c ∧ CM (5 * i + 1) = rs (i * 5 + 1) ∧ (c ≤ 1 → CM (5 * i + 2) = rs (i * 5 + 2) ∧ CM (5 * i + 3) = rs (i * 5 + 3) ∧ CM (5 * i + 4) = rs (i * 5 + 4))
theorem ComR.add {rs CM CM' : FI} {n c : Nat} {v f g l : Int32} (h : ComR rs CM n) (hc : c ≤ 3) (eo : ∀ u, u < 5 * n → CM' u = CM u) (e0 : CM' (5 * n + 0) = nI c) (e1 : CM' (5 * n + 1) = v) (e2 : c ≤ 1 → CM' (5 * n + 2) = f ∧ CM' (5 * n + 3) = g ∧ CM' (5 * n + 4) = l) : ComR (upd5 rs n (nI c) v f g l) CM' (n + 1) := by
  intro i hi
  by_cases e : i = n
  · subst e
    obtain ⟨u0, u1, u2, u3, u4⟩ := upd5_at rs i (nI c) v f g l
    rw [u0, u1, u2, u3, u4]
    exact ⟨c, rfl, hc, e0, e1, e2⟩
  · obtain ⟨c', g0, g1, g2, g3, g4⟩ := h i (by omega)
    rw [upd5_lt _ _ _ _ _ _ (by omega), upd5_lt _ _ _ _ _ _ (by omega), upd5_lt _ _ _ _ _ _ (by omega), upd5_lt _ _ _ _ _ _ (by omega), upd5_lt _ _ _ _ _ _ (by omega), eo _ (by omega), eo _ (by omega), eo _ (by omega), eo _ (by omega), eo _ (by omega)]
    exact ⟨c', g0, g1, g2, g3, g4⟩

section
variable {Γ : GE} {h : AH} {Q : PO} {m a len b n np nb ne nh nc y : Nat} {bs B R CM rs qu ra le ln pl tm rw hw cw pk : FI} {RE re : Nat → UInt32} {bk : Nat → Int64} {t x z w v th bg er ea lr cm : Int32}

theorem s_X10_pair {c9 lo hi : Nat} (hM : ModC h m a th (nI len) (nI b) bg 0 ea lr (nI n)) (hA : Γ.2.1 ≤ m) (hU : h.2 (m + 10) = some (.inl (.byte, 500, .inl B))) (hB : BufR bs B len) (hl : len ≤ 500) (hb : b ≤ len) (hR : h.2 a = some (.inl (.int, 5061, .inl R))) (r1 : R 1 = nI np) (hn8 : np ≤ 8) (rP : RowP R np qu ra le ln) (IP : InvP np qu ra re le ln) (ham : ¬ a = m) (ha11 : ¬ a = m + 11) (hK : h.2 (m + 11) = some (.inl (.int, 1250, .inl CM))) (hn : n < 250) (hhi : hi ≤ 9999)
    (kF : ∀ e pos h', lngR np le ln bs len b (nI lo) (nI hi) = .inl (e, pos) → BE h h' m a th (nI len) e pos lr (nI n) → Q (.inl none) h')
    (kO : ∀ u i j l w h' CM', lngR np le ln bs len b (nI lo) (nI hi) = .inr (nI u, i, j, l, w) → 1 ≤ u → u ≤ 200 → i < np → j < np → nI lo ≤ l → l ≤ nI hi → b < w → w ≤ len → fr2 m h h' → ModG h' m a th (nI len) w lr (nI n) → h'.2 (m + 11) = some (.inl (.int, 1250, .inl CM')) → (∀ u, u < 5 * n → CM' u = CM u) → CM' (5 * n + 0) = nI c9 → CM' (5 * n + 1) = nI u → CM' (5 * n + 2) = nI i → CM' (5 * n + 3) = nI j → CM' (5 * n + 4) = l → Q (.inl none) h') : WP Γ MX10_pair (4, 84, 0, 0) 0 [some (.ref m), some (.int (nI c9)), some (.int (nI hi)), some (.int (nI lo)), none] [] h Q := by
  have hM0 := hM
  unfold ModC at hM
  have E79 : ∀ e pos, lngR np le ln bs len b (nI lo) (nI hi) = .inl (e, pos) → ∀ h1 C1, fr2 m h h1 → ModE h1 m a th (nI len) e pos lr (nI n) → h1.2 (m + 11) = some (.inl (.int, 1250, .inl C1)) → WP Γ MX10_pair (4, 84, 0, 0) 79 [some (.ref m), some (.int (nI c9)), some (.int (nI hi)), some (.int (nI lo)), some (.int (nI (5 * n)))] [] h1 Q := by
    intro e pos hp h1 C1 f1 m1 k1
    obtain ⟨ne0, at1, bg1, m1⟩ := m1
    have m1' := m1
    unfold ModC at m1'
    refine wp_aload_n (n := 80) dX10_pair_79 rfl rfl ?_
    refine wp_getf (n := 83) dX10_pair_80 rfl flX10_43 (by repeat first | assumption | exact ax_set_self _ _ _ | exact ax_newA_self _ _ _ | refine (ax_set_ne _ _ (by omega)).trans ?_ | refine (ax_newA_ne _ _ _ (by omega)).trans ?_) (by rfl) ?_
    refine wp_iload (n := 85) dX10_pair_83 rfl rfl ?_
    refine wp_iconst (n := 86) (v := nI 4) dX10_pair_85 rfl (by decide) ?_
    refine wp_iadd (n := 87) dX10_pair_86 rfl ?_
    refine wp_aload_n (n := 88) dX10_pair_87 rfl rfl ?_
    refine wp_iload_n (n := 89) dX10_pair_88 rfl rfl ?_
    refine wp_iload_n (n := 90) dX10_pair_89 rfl rfl ?_
    refine wp_callV2 (n := 93) (rm' := (2, 60, 0, 0)) rfl dX10_pair_90 rfl mlX10_211 (by repeat first | assumption | exact ax_set_self _ _ _ | exact ax_newA_self _ _ _ | refine (ax_set_ne _ _ (by omega)).trans ?_ | refine (ax_newA_ne _ _ _ (by omega)).trans ?_) rfl rfl rfl rfl rfl ?_
    refine s_X10_numberE m1 ne0 ?_
    show WP Γ _ _ _ _ _ _ _
    refine wp_iast (n := 94) (5 * n + 4) dX10_pair_93 rfl (by repeat first | assumption | exact ax_set_self _ _ _ | exact ax_newA_self _ _ _ | refine (ax_set_ne _ _ (by omega)).trans ?_ | refine (ax_newA_ne _ _ _ (by omega)).trans ?_) (by omega) (by simp only [nI_zero, nI_mul, nI_add]) (by omega) (by omega) ?_
    exact wp_return dX10_pair_94 rfl (kF e pos _ hp ⟨f1.tr (fr2.of (ax_fr.set (lo := m + 11) (hi := m + 12) (by omega)) (by omega)), ⟨ne0, _, _, (ax_set_ne _ _ (by omega)).trans m1⟩, _, ax_set_self _ _ _⟩)
  have E52 : ∀ e pos, lngR np le ln bs len b (nI lo) (nI hi) = .inl (e, pos) → ∀ h1 C1, fr2 m h h1 → ModE h1 m a th (nI len) e pos lr (nI n) → h1.2 (m + 11) = some (.inl (.int, 1250, .inl C1)) → WP Γ MX10_pair (4, 84, 0, 0) 52 [some (.ref m), some (.int (nI c9)), some (.int (nI hi)), some (.int (nI lo)), some (.int (nI (5 * n)))] [] h1 Q := by
    intro e pos hp h1 C1 f1 m1 k1
    obtain ⟨ne0, at1, bg1, m1⟩ := m1
    have m1' := m1
    unfold ModC at m1'
    refine wp_aload_n (n := 53) dX10_pair_52 rfl rfl ?_
    refine wp_getf (n := 56) dX10_pair_53 rfl flX10_43 (by repeat first | assumption | exact ax_set_self _ _ _ | exact ax_newA_self _ _ _ | refine (ax_set_ne _ _ (by omega)).trans ?_ | refine (ax_newA_ne _ _ _ (by omega)).trans ?_) (by rfl) ?_
    refine wp_iload (n := 58) dX10_pair_56 rfl rfl ?_
    refine wp_iconst (n := 59) (v := nI 3) dX10_pair_58 rfl (by decide) ?_
    refine wp_iadd (n := 60) dX10_pair_59 rfl ?_
    refine wp_aload_n (n := 61) dX10_pair_60 rfl rfl ?_
    refine wp_aload_n (n := 62) dX10_pair_61 rfl rfl ?_
    refine wp_getf (n := 65) dX10_pair_62 rfl flX10_9 (by repeat first | assumption | exact ax_set_self _ _ _ | exact ax_newA_self _ _ _ | refine (ax_set_ne _ _ (by omega)).trans ?_ | refine (ax_newA_ne _ _ _ (by omega)).trans ?_) (by rfl) ?_
    refine wp_iconst (n := 66) (v := 0) dX10_pair_65 rfl (by decide) ?_
    refine wp_aload_n (n := 67) dX10_pair_66 rfl rfl ?_
    refine wp_getf (n := 70) dX10_pair_67 rfl flX10_43 (by repeat first | assumption | exact ax_set_self _ _ _ | exact ax_newA_self _ _ _ | refine (ax_set_ne _ _ (by omega)).trans ?_ | refine (ax_newA_ne _ _ _ (by omega)).trans ?_) (by rfl) ?_
    refine wp_iload (n := 72) dX10_pair_70 rfl rfl ?_
    refine wp_iconst (n := 73) (v := nI 2) dX10_pair_72 rfl (by decide) ?_
    refine wp_iadd (n := 74) dX10_pair_73 rfl ?_
    refine wp_iald (n := 75) (5 * n + 2) dX10_pair_74 rfl (by repeat first | assumption | exact ax_set_self _ _ _ | exact ax_newA_self _ _ _ | refine (ax_set_ne _ _ (by omega)).trans ?_ | refine (ax_newA_ne _ _ _ (by omega)).trans ?_) (by simp only [nI_zero, nI_mul, nI_add]) (by omega) (by omega) ?_
    refine wp_callV3 (n := 78) (rm' := (3, 60, 0, 0)) rfl dX10_pair_75 rfl mlX10_222 (by repeat first | assumption | exact ax_set_self _ _ _ | exact ax_newA_self _ _ _ | refine (ax_set_ne _ _ (by omega)).trans ?_ | refine (ax_newA_ne _ _ _ (by omega)).trans ?_) rfl rfl rfl rfl rfl ?_
    refine s_X10_knownE m1 ne0 ?_
    show WP Γ _ _ _ _ _ _ _
    refine wp_iast (n := 79) (5 * n + 3) dX10_pair_78 rfl (by repeat first | assumption | exact ax_set_self _ _ _ | exact ax_newA_self _ _ _ | refine (ax_set_ne _ _ (by omega)).trans ?_ | refine (ax_newA_ne _ _ _ (by omega)).trans ?_) (by omega) (by simp only [nI_zero, nI_mul, nI_add]) (by omega) (by omega) ?_
    exact E79 e pos hp _ _ (f1.tr (fr2.of (ax_fr.set (lo := m + 11) (hi := m + 12) (by omega)) (by omega))) ⟨ne0, _, _, (ax_set_ne _ _ (by omega)).trans m1⟩ (ax_set_self _ _ _)
  have E33 : ∀ e pos, lngR np le ln bs len b (nI lo) (nI hi) = .inl (e, pos) → ∀ h1 C1, fr2 m h h1 → ModE h1 m a th (nI len) e pos lr (nI n) → h1.2 (m + 11) = some (.inl (.int, 1250, .inl C1)) → WP Γ MX10_pair (4, 84, 0, 0) 33 [some (.ref m), some (.int (nI c9)), some (.int (nI hi)), some (.int (nI lo)), some (.int (nI (5 * n)))] [] h1 Q := by
    intro e pos hp h1 C1 f1 m1 k1
    obtain ⟨ne0, at1, bg1, m1⟩ := m1
    have m1' := m1
    unfold ModC at m1'
    refine wp_aload_n (n := 34) dX10_pair_33 rfl rfl ?_
    refine wp_getf (n := 37) dX10_pair_34 rfl flX10_43 (by repeat first | assumption | exact ax_set_self _ _ _ | exact ax_newA_self _ _ _ | refine (ax_set_ne _ _ (by omega)).trans ?_ | refine (ax_newA_ne _ _ _ (by omega)).trans ?_) (by rfl) ?_
    refine wp_iload (n := 39) dX10_pair_37 rfl rfl ?_
    refine wp_iconst (n := 40) (v := nI 2) dX10_pair_39 rfl (by decide) ?_
    refine wp_iadd (n := 41) dX10_pair_40 rfl ?_
    refine wp_aload_n (n := 42) dX10_pair_41 rfl rfl ?_
    refine wp_aload_n (n := 43) dX10_pair_42 rfl rfl ?_
    refine wp_getf (n := 46) dX10_pair_43 rfl flX10_9 (by repeat first | assumption | exact ax_set_self _ _ _ | exact ax_newA_self _ _ _ | refine (ax_set_ne _ _ (by omega)).trans ?_ | refine (ax_newA_ne _ _ _ (by omega)).trans ?_) (by rfl) ?_
    refine wp_iconst (n := 47) (v := 0) dX10_pair_46 rfl (by decide) ?_
    refine wp_iconst (n := 48) (v := (-1)) dX10_pair_47 rfl (by decide) ?_
    refine wp_callV3 (n := 51) (rm' := (3, 60, 0, 0)) rfl dX10_pair_48 rfl mlX10_222 (by repeat first | assumption | exact ax_set_self _ _ _ | exact ax_newA_self _ _ _ | refine (ax_set_ne _ _ (by omega)).trans ?_ | refine (ax_newA_ne _ _ _ (by omega)).trans ?_) rfl rfl rfl rfl rfl ?_
    refine s_X10_knownE m1 ne0 ?_
    show WP Γ _ _ _ _ _ _ _
    refine wp_iast (n := 52) (5 * n + 2) dX10_pair_51 rfl (by repeat first | assumption | exact ax_set_self _ _ _ | exact ax_newA_self _ _ _ | refine (ax_set_ne _ _ (by omega)).trans ?_ | refine (ax_newA_ne _ _ _ (by omega)).trans ?_) (by omega) (by simp only [nI_zero, nI_mul, nI_add]) (by omega) (by omega) ?_
    exact E52 e pos hp _ _ (f1.tr (fr2.of (ax_fr.set (lo := m + 11) (hi := m + 12) (by omega)) (by omega))) ⟨ne0, _, _, (ax_set_ne _ _ (by omega)).trans m1⟩ (ax_set_self _ _ _)
  have rpF : ∀ b9 x9 s w, rdW bs len b9 = .inr (s, w) → (oI (fstG (nameB le ln bs s (w - s)) np 0) < 0 ∨ oI (fstG (nameB le ln bs s (w - s)) np 0) = x9) → rpR np le ln bs len b9 x9 = .inl (nI 3, s) := by
    intro b9 x9 s w q1 q2
    unfold rpR
    rw [mrR_r q1]
    simp only
    cases hf : fstG (nameB le ln bs s (w - s)) np 0 with
    | none => rfl
    | some j =>
      rw [hf] at q2
      have hj := (fstG_some hf).2.1
      rcases q2 with q2 | q2
      · exact absurd q2 (nI_nn (by omega))
      · exact if_pos q2
  have rpO : ∀ b9 x9 s w, rdW bs len b9 = .inr (s, w) → ¬ oI (fstG (nameB le ln bs s (w - s)) np 0) < 0 → ¬ oI (fstG (nameB le ln bs s (w - s)) np 0) = x9 → ∃ j, j < np ∧ oI (fstG (nameB le ln bs s (w - s)) np 0) = nI j ∧ rpR np le ln bs len b9 x9 = .inr (j, w) := by
    intro b9 x9 s w q1 q2 q3
    cases hf : fstG (nameB le ln bs s (w - s)) np 0 with
    | none => rw [hf] at q2; exact absurd (by decide) q2
    | some j =>
      rw [hf] at q3
      have hj := (fstG_some hf).2.1
      refine ⟨j, by omega, rfl, ?_⟩
      unfold rpR
      rw [mrR_r q1]
      simp only [hf]
      exact if_neg q3
  refine wp_iconst (n := 1) (v := nI 5) dX10_pair_0 rfl (by decide) ?_
  refine wp_aload_n (n := 2) dX10_pair_1 rfl rfl ?_
  refine wp_getf (n := 5) dX10_pair_2 rfl flX10_255 (by repeat first | assumption | exact ax_set_self _ _ _ | exact ax_newA_self _ _ _ | refine (ax_set_ne _ _ (by omega)).trans ?_ | refine (ax_newA_ne _ _ _ (by omega)).trans ?_) (by rfl) ?_
  refine wp_imul (n := 6) dX10_pair_5 rfl ?_
  rw [nI_mul]
  refine wp_istore (n := 8) dX10_pair_6 rfl rfl rfl rfl ?_
  refine wp_aload_n (n := 9) dX10_pair_8 rfl rfl ?_
  refine wp_getf (n := 12) dX10_pair_9 rfl flX10_43 (by repeat first | assumption | exact ax_set_self _ _ _ | exact ax_newA_self _ _ _ | refine (ax_set_ne _ _ (by omega)).trans ?_ | refine (ax_newA_ne _ _ _ (by omega)).trans ?_) (by rfl) ?_
  refine wp_iload (n := 14) dX10_pair_12 rfl rfl ?_
  refine wp_iload_n (n := 15) dX10_pair_14 rfl rfl ?_
  refine wp_iast (n := 16) (5 * n) dX10_pair_15 rfl hK (by omega) rfl (by omega) (by omega) ?_
  have f0 : ax_fr (m + 11) (m + 12) h (ax_set h (m + 11) (.inl (.int, 1250, .inl (upd CM (5 * n) (nI c9))))) := ax_fr.set (by omega)
  have k0 : (ax_set h (m + 11) (.inl (.int, 1250, .inl (upd CM (5 * n) (nI c9))))).2 (m + 11) = some (.inl (.int, 1250, .inl (upd CM (5 * n) (nI c9)))) := ax_set_self _ _ _
  generalize ax_set h (m + 11) (.inl (.int, 1250, .inl (upd CM (5 * n) (nI c9)))) = h0 at *
  have m0 := hM0.fr f0 (by omega)
  have m0' := m0
  unfold ModC at m0'
  have U0 := f0.get hU (by omega)
  have R0 := f0.get hR (by omega)
  refine wp_aload_n (n := 17) dX10_pair_16 rfl rfl ?_
  refine wp_getf (n := 20) dX10_pair_17 rfl flX10_43 (by repeat first | assumption | exact ax_set_self _ _ _ | exact ax_newA_self _ _ _ | refine (ax_set_ne _ _ (by omega)).trans ?_ | refine (ax_newA_ne _ _ _ (by omega)).trans ?_) (by rfl) ?_
  refine wp_iload (n := 22) dX10_pair_20 rfl rfl ?_
  refine wp_iconst (n := 23) (v := nI 1) dX10_pair_22 rfl (by decide) ?_
  refine wp_iadd (n := 24) dX10_pair_23 rfl ?_
  refine wp_aload_n (n := 25) dX10_pair_24 rfl rfl ?_
  refine wp_iconst (n := 26) (v := nI 1) dX10_pair_25 rfl (by decide) ?_
  refine wp_sipush (n := 29) (v := nI 200) dX10_pair_26 rfl (by decide) ?_
  refine wp_callV2 (n := 32) (rm' := (2, 60, 0, 0)) rfl dX10_pair_29 rfl mlX10_211 (by repeat first | assumption | exact ax_set_self _ _ _ | exact ax_newA_self _ _ _ | refine (ax_set_ne _ _ (by omega)).trans ?_ | refine (ax_newA_ne _ _ _ (by omega)).trans ?_) rfl rfl rfl rfl rfl ?_
  refine s_X10_number hA m0 U0 hB hl hb (by decide) (fun e1 p1 h1 q1 f1 m1 => ?_) (fun u0 w1 h1 q1 g1 g2 g3 g4 f1 m1 => ?_)
  · show WP Γ _ _ _ _ _ _ _
    obtain ⟨ne0, at1, bg1, m1⟩ := m1
    have k1 := f1.get k0 (by omega)
    refine wp_iast (n := 33) (5 * n + 1) dX10_pair_32 rfl k1 (by omega) (by rw [nI_add]) (by omega) (by omega) ?_
    exact E33 e1 p1 (mrR_l q1) _ _ (((fr2.of f0 (by omega)).tr (fr2.of f1 (by omega))).tr (fr2.of (ax_fr.set (lo := m + 11) (hi := m + 12) (by omega)) (by omega))) ⟨ne0, _, _, (ax_set_ne _ _ (by omega)).trans m1⟩ (ax_set_self _ _ _)
  · show WP Γ _ _ _ _ _ _ _
    obtain ⟨u, uu1, uu2, ue⟩ := inI_get (a := 1) (b := 200) (by omega) (by omega) g1 g2
    rw [ue] at q1 ⊢
    have eL := mrR_r (f := fun u => mrR (rpR np le ln bs len u.2 (-1)) fun v => mrR (rpR np le ln bs len v.2 (nI v.1)) fun w => mrR (rdN bs len w.2 (nI lo) (nI hi)) fun z => (.inr (u.1, v.1, w.1, z.1, z.2) : (Int32 × Nat) ⊕ (Int32 × Nat × Nat × Int32 × Nat))) q1
    have eL : lngR np le ln bs len b (nI lo) (nI hi) = mrR (rpR np le ln bs len w1 (-1)) fun v => mrR (rpR np le ln bs len v.2 (nI v.1)) fun w => mrR (rdN bs len w.2 (nI lo) (nI hi)) fun z => .inr (nI u, v.1, w.1, z.1, z.2) := eL
    obtain ⟨bg1, ea1, m1⟩ := m1
    have k1 := f1.get k0 (by omega)
    refine wp_iast (n := 33) (5 * n + 1) dX10_pair_32 rfl k1 (by omega) (by rw [nI_add]) (by omega) (by omega) ?_
    have f2 : ax_fr (m + 11) (m + 12) h1 (ax_set h1 (m + 11) (.inl (.int, 1250, .inl (upd (upd CM (5 * n) (nI c9)) (5 * n + 1) (nI u))))) := ax_fr.set (by omega)
    have k2 : (ax_set h1 (m + 11) (.inl (.int, 1250, .inl (upd (upd CM (5 * n) (nI c9)) (5 * n + 1) (nI u))))).2 (m + 11) = some (.inl (.int, 1250, .inl (upd (upd CM (5 * n) (nI c9)) (5 * n + 1) (nI u)))) := ax_set_self _ _ _
    generalize ax_set h1 (m + 11) (.inl (.int, 1250, .inl (upd (upd CM (5 * n) (nI c9)) (5 * n + 1) (nI u)))) = h2 at *
    have m2 := m1.fr f2 (by omega)
    have m2' := m2
    unfold ModC at m2'
    have U2 := f2.get (f1.get U0 (by omega)) (by omega)
    have R2 := f2.get (f1.get R0 (by omega)) (by omega)
    have F2 := ((fr2.of (m := m) f0 (by omega)).tr (fr2.of f1 (by omega))).tr (fr2.of f2 (by omega))
    refine wp_aload_n (n := 34) dX10_pair_33 rfl rfl ?_
    refine wp_getf (n := 37) dX10_pair_34 rfl flX10_43 (by repeat first | assumption | exact ax_set_self _ _ _ | exact ax_newA_self _ _ _ | refine (ax_set_ne _ _ (by omega)).trans ?_ | refine (ax_newA_ne _ _ _ (by omega)).trans ?_) (by rfl) ?_
    refine wp_iload (n := 39) dX10_pair_37 rfl rfl ?_
    refine wp_iconst (n := 40) (v := nI 2) dX10_pair_39 rfl (by decide) ?_
    refine wp_iadd (n := 41) dX10_pair_40 rfl ?_
    refine wp_aload_n (n := 42) dX10_pair_41 rfl rfl ?_
    refine wp_aload_n (n := 43) dX10_pair_42 rfl rfl ?_
    refine wp_getf (n := 46) dX10_pair_43 rfl flX10_9 (by repeat first | assumption | exact ax_set_self _ _ _ | exact ax_newA_self _ _ _ | refine (ax_set_ne _ _ (by omega)).trans ?_ | refine (ax_newA_ne _ _ _ (by omega)).trans ?_) (by rfl) ?_
    refine wp_iconst (n := 47) (v := 0) dX10_pair_46 rfl (by decide) ?_
    refine wp_iconst (n := 48) (v := (-1)) dX10_pair_47 rfl (by decide) ?_
    refine wp_callV3 (n := 51) (rm' := (3, 60, 0, 0)) rfl dX10_pair_48 rfl mlX10_222 (by repeat first | assumption | exact ax_set_self _ _ _ | exact ax_newA_self _ _ _ | refine (ax_set_ne _ _ (by omega)).trans ?_ | refine (ax_newA_ne _ _ _ (by omega)).trans ?_) rfl rfl rfl rfl rfl ?_
    refine s_X10_known hA m2 U2 hB hl R2 r1 hn8 rP IP ham g4 (fun e3 p3 h3 q3 f3 m3 => ?_) (fun s3 w3 h3 q3 q4 f3 m3 => ?_) (fun s3 w3 h3 q3 q4 q5 d1 d2 f3 m3 => ?_)
    · show WP Γ _ _ _ _ _ _ _
      obtain ⟨ne0, at3, bg3, m3⟩ := m3
      have k3 := f3.get k2 (by omega)
      refine wp_iast (n := 52) (5 * n + 2) dX10_pair_51 rfl k3 (by omega) (by rw [nI_add]) (by omega) (by omega) ?_
      exact E52 e3 p3 (eL.trans (mrR_l (mrR_l q3))) _ _ ((F2.tr (fr2.of f3 (by omega))).tr (fr2.of (ax_fr.set (lo := m + 11) (hi := m + 12) (by omega)) (by omega))) ⟨ne0, _, _, (ax_set_ne _ _ (by omega)).trans m3⟩ (ax_set_self _ _ _)
    · show WP Γ _ _ _ _ _ _ _
      obtain ⟨ne0, at3, bg3, m3⟩ := m3
      have k3 := f3.get k2 (by omega)
      refine wp_iast (n := 52) (5 * n + 2) dX10_pair_51 rfl k3 (by omega) (by rw [nI_add]) (by omega) (by omega) ?_
      exact E52 _ s3 (eL.trans (mrR_l (rpF _ _ _ _ q3 q4))) _ _ ((F2.tr (fr2.of f3 (by omega))).tr (fr2.of (ax_fr.set (lo := m + 11) (hi := m + 12) (by omega)) (by omega))) ⟨ne0, _, _, (ax_set_ne _ _ (by omega)).trans m3⟩ (ax_set_self _ _ _)
    · show WP Γ _ _ _ _ _ _ _
      obtain ⟨i, i1, i2, i3⟩ := rpO _ _ _ _ q3 q4 q5
      rw [i2]
      have eL2 := eL.trans (mrR_r i3)
      simp only at eL2
      obtain ⟨bg3, ea3, m3⟩ := m3
      have k3 := f3.get k2 (by omega)
      refine wp_iast (n := 52) (5 * n + 2) dX10_pair_51 rfl k3 (by omega) (by rw [nI_add]) (by omega) (by omega) ?_
      have f4 : ax_fr (m + 11) (m + 12) h3 (ax_set h3 (m + 11) (.inl (.int, 1250, .inl (upd (upd (upd CM (5 * n) (nI c9)) (5 * n + 1) (nI u)) (5 * n + 2) (nI i))))) := ax_fr.set (by omega)
      have k4 : (ax_set h3 (m + 11) (.inl (.int, 1250, .inl (upd (upd (upd CM (5 * n) (nI c9)) (5 * n + 1) (nI u)) (5 * n + 2) (nI i))))).2 (m + 11) = some (.inl (.int, 1250, .inl (upd (upd (upd CM (5 * n) (nI c9)) (5 * n + 1) (nI u)) (5 * n + 2) (nI i)))) := ax_set_self _ _ _
      generalize ax_set h3 (m + 11) (.inl (.int, 1250, .inl (upd (upd (upd CM (5 * n) (nI c9)) (5 * n + 1) (nI u)) (5 * n + 2) (nI i)))) = h4 at *
      have m4 := m3.fr f4 (by omega)
      have m4' := m4
      unfold ModC at m4'
      have U4 := f4.get (f3.get U2 (by omega)) (by omega)
      have R4 := f4.get (f3.get R2 (by omega)) (by omega)
      have F4 := (F2.tr (fr2.of f3 (by omega))).tr (fr2.of f4 (by omega))
      refine wp_aload_n (n := 53) dX10_pair_52 rfl rfl ?_
      refine wp_getf (n := 56) dX10_pair_53 rfl flX10_43 (by repeat first | assumption | exact ax_set_self _ _ _ | exact ax_newA_self _ _ _ | refine (ax_set_ne _ _ (by omega)).trans ?_ | refine (ax_newA_ne _ _ _ (by omega)).trans ?_) (by rfl) ?_
      refine wp_iload (n := 58) dX10_pair_56 rfl rfl ?_
      refine wp_iconst (n := 59) (v := nI 3) dX10_pair_58 rfl (by decide) ?_
      refine wp_iadd (n := 60) dX10_pair_59 rfl ?_
      refine wp_aload_n (n := 61) dX10_pair_60 rfl rfl ?_
      refine wp_aload_n (n := 62) dX10_pair_61 rfl rfl ?_
      refine wp_getf (n := 65) dX10_pair_62 rfl flX10_9 (by repeat first | assumption | exact ax_set_self _ _ _ | exact ax_newA_self _ _ _ | refine (ax_set_ne _ _ (by omega)).trans ?_ | refine (ax_newA_ne _ _ _ (by omega)).trans ?_) (by rfl) ?_
      refine wp_iconst (n := 66) (v := 0) dX10_pair_65 rfl (by decide) ?_
      refine wp_aload_n (n := 67) dX10_pair_66 rfl rfl ?_
      refine wp_getf (n := 70) dX10_pair_67 rfl flX10_43 (by repeat first | assumption | exact ax_set_self _ _ _ | exact ax_newA_self _ _ _ | refine (ax_set_ne _ _ (by omega)).trans ?_ | refine (ax_newA_ne _ _ _ (by omega)).trans ?_) (by rfl) ?_
      refine wp_iload (n := 72) dX10_pair_70 rfl rfl ?_
      refine wp_iconst (n := 73) (v := nI 2) dX10_pair_72 rfl (by decide) ?_
      refine wp_iadd (n := 74) dX10_pair_73 rfl ?_
      refine wp_iald (n := 75) (5 * n + 2) dX10_pair_74 rfl (by repeat first | assumption | exact ax_set_self _ _ _ | exact ax_newA_self _ _ _ | refine (ax_set_ne _ _ (by omega)).trans ?_ | refine (ax_newA_ne _ _ _ (by omega)).trans ?_) (by simp only [nI_zero, nI_mul, nI_add]) (by omega) (by omega) ?_
      rw [show upd (upd (upd CM (5 * n) (nI c9)) (5 * n + 1) (nI u)) (5 * n + 2) (nI i) (5 * n + 2) = nI i from if_pos rfl]
      refine wp_callV3 (n := 78) (rm' := (3, 60, 0, 0)) rfl dX10_pair_75 rfl mlX10_222 (by repeat first | assumption | exact ax_set_self _ _ _ | exact ax_newA_self _ _ _ | refine (ax_set_ne _ _ (by omega)).trans ?_ | refine (ax_newA_ne _ _ _ (by omega)).trans ?_) rfl rfl rfl rfl rfl ?_
      refine s_X10_known hA m4 U4 hB hl R4 r1 hn8 rP IP ham d2 (fun e5 p5 h5 q5 f5 m5 => ?_) (fun s5 w5 h5 q5 q6 f5 m5 => ?_) (fun s5 w5 h5 q5 q6 q7 d3 d4 f5 m5 => ?_)
      · show WP Γ _ _ _ _ _ _ _
        obtain ⟨ne0, at5, bg5, m5⟩ := m5
        have k5 := f5.get k4 (by omega)
        refine wp_iast (n := 79) (5 * n + 3) dX10_pair_78 rfl k5 (by omega) (by rw [nI_add]) (by omega) (by omega) ?_
        exact E79 e5 p5 (eL2.trans (mrR_l (mrR_l q5))) _ _ ((F4.tr (fr2.of f5 (by omega))).tr (fr2.of (ax_fr.set (lo := m + 11) (hi := m + 12) (by omega)) (by omega))) ⟨ne0, _, _, (ax_set_ne _ _ (by omega)).trans m5⟩ (ax_set_self _ _ _)
      · show WP Γ _ _ _ _ _ _ _
        obtain ⟨ne0, at5, bg5, m5⟩ := m5
        have k5 := f5.get k4 (by omega)
        refine wp_iast (n := 79) (5 * n + 3) dX10_pair_78 rfl k5 (by omega) (by rw [nI_add]) (by omega) (by omega) ?_
        exact E79 _ s5 (eL2.trans (mrR_l (rpF _ _ _ _ q5 q6))) _ _ ((F4.tr (fr2.of f5 (by omega))).tr (fr2.of (ax_fr.set (lo := m + 11) (hi := m + 12) (by omega)) (by omega))) ⟨ne0, _, _, (ax_set_ne _ _ (by omega)).trans m5⟩ (ax_set_self _ _ _)
      · show WP Γ _ _ _ _ _ _ _
        obtain ⟨j, j1, j2, j3⟩ := rpO _ _ _ _ q5 q6 q7
        rw [j2]
        have eL3 := eL2.trans (mrR_r j3)
        simp only at eL3
        obtain ⟨bg5, ea5, m5⟩ := m5
        have k5 := f5.get k4 (by omega)
        refine wp_iast (n := 79) (5 * n + 3) dX10_pair_78 rfl k5 (by omega) (by rw [nI_add]) (by omega) (by omega) ?_
        have f6 : ax_fr (m + 11) (m + 12) h5 (ax_set h5 (m + 11) (.inl (.int, 1250, .inl (upd (upd (upd (upd CM (5 * n) (nI c9)) (5 * n + 1) (nI u)) (5 * n + 2) (nI i)) (5 * n + 3) (nI j))))) := ax_fr.set (by omega)
        have k6 : (ax_set h5 (m + 11) (.inl (.int, 1250, .inl (upd (upd (upd (upd CM (5 * n) (nI c9)) (5 * n + 1) (nI u)) (5 * n + 2) (nI i)) (5 * n + 3) (nI j))))).2 (m + 11) = some (.inl (.int, 1250, .inl (upd (upd (upd (upd CM (5 * n) (nI c9)) (5 * n + 1) (nI u)) (5 * n + 2) (nI i)) (5 * n + 3) (nI j)))) := ax_set_self _ _ _
        generalize ax_set h5 (m + 11) (.inl (.int, 1250, .inl (upd (upd (upd (upd CM (5 * n) (nI c9)) (5 * n + 1) (nI u)) (5 * n + 2) (nI i)) (5 * n + 3) (nI j)))) = h6 at *
        have m6 := m5.fr f6 (by omega)
        have m6' := m6
        unfold ModC at m6'
        have U6 := f6.get (f5.get U4 (by omega)) (by omega)
        have F6 := (F4.tr (fr2.of f5 (by omega))).tr (fr2.of f6 (by omega))
        refine wp_aload_n (n := 80) dX10_pair_79 rfl rfl ?_
        refine wp_getf (n := 83) dX10_pair_80 rfl flX10_43 (by repeat first | assumption | exact ax_set_self _ _ _ | exact ax_newA_self _ _ _ | refine (ax_set_ne _ _ (by omega)).trans ?_ | refine (ax_newA_ne _ _ _ (by omega)).trans ?_) (by rfl) ?_
        refine wp_iload (n := 85) dX10_pair_83 rfl rfl ?_
        refine wp_iconst (n := 86) (v := nI 4) dX10_pair_85 rfl (by decide) ?_
        refine wp_iadd (n := 87) dX10_pair_86 rfl ?_
        refine wp_aload_n (n := 88) dX10_pair_87 rfl rfl ?_
        refine wp_iload_n (n := 89) dX10_pair_88 rfl rfl ?_
        refine wp_iload_n (n := 90) dX10_pair_89 rfl rfl ?_
        refine wp_callV2 (n := 93) (rm' := (2, 60, 0, 0)) rfl dX10_pair_90 rfl mlX10_211 (by repeat first | assumption | exact ax_set_self _ _ _ | exact ax_newA_self _ _ _ | refine (ax_set_ne _ _ (by omega)).trans ?_ | refine (ax_newA_ne _ _ _ (by omega)).trans ?_) rfl rfl rfl rfl rfl ?_
        refine s_X10_number hA m6 U6 hB hl d4 ((nI_le9 (by omega) (by omega)).mpr hhi) (fun e7 p7 h7 q7 f7 m7 => ?_) (fun l0 w7 h7 q7 x1 x2 x3 x4 f7 m7 => ?_)
        · show WP Γ _ _ _ _ _ _ _
          obtain ⟨ne0, at7, bg7, m7⟩ := m7
          have k7 := f7.get k6 (by omega)
          refine wp_iast (n := 94) (5 * n + 4) dX10_pair_93 rfl k7 (by omega) (by rw [nI_add]) (by omega) (by omega) ?_
          exact wp_return dX10_pair_94 rfl (kF e7 p7 _ (eL3.trans (mrR_l q7)) ⟨(F6.tr (fr2.of f7 (by omega))).tr (fr2.of (ax_fr.set (lo := m + 11) (hi := m + 12) (by omega)) (by omega)), ⟨ne0, _, _, (ax_set_ne _ _ (by omega)).trans m7⟩, _, ax_set_self _ _ _⟩)
        · show WP Γ _ _ _ _ _ _ _
          obtain ⟨bg7, ea7, m7⟩ := m7
          have k7 := f7.get k6 (by omega)
          refine wp_iast (n := 94) (5 * n + 4) dX10_pair_93 rfl k7 (by omega) (by rw [nI_add]) (by omega) (by omega) ?_
          refine wp_return dX10_pair_94 rfl (kO u i j (nI l0) w7 _ _ (eL3.trans (mrR_r q7)) uu1 uu2 i1 j1 x1 x2 (by omega) x4 ((F6.tr (fr2.of f7 (by omega))).tr (fr2.of (ax_fr.set (lo := m + 11) (hi := m + 12) (by omega)) (by omega))) ⟨_, _, (ax_set_ne _ _ (by omega)).trans m7⟩ (ax_set_self _ _ _) (fun v hv => ?_) ?_ ?_ ?_ ?_ ?_)
          · simp only [upd]
            rw [if_neg (by omega), if_neg (by omega), if_neg (by omega), if_neg (by omega), if_neg (by omega)]
          · simp [upd]
          · simp [upd]
          · simp [upd]
          · simp [upd]
          · simp [upd]

end
