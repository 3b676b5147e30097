/-! ===== the reference: exchanges ===== -/

theorem runL_get {pl : FI} {x : Int32} : ∀ {d i : Nat}, i < d → d ≤ i + runL pl x d → pl i = x
  | 0, i, h, _ => absurd h (Nat.not_lt_zero _)
  | d + 1, i, h, h2 => by
    simp only [runL] at h2
    by_cases q : pl d = x
    · rw [if_pos q] at h2
      by_cases e : i = d
      · rw [e]; exact q
      · exact runL_get (d := d) (by omega) (by omega)
    · rw [if_neg q] at h2
      omega
theorem runL_ge {pl : FI} {x : Int32} : ∀ {d r : Nat}, r ≤ d → (∀ i, i < d → d ≤ i + r → pl i = x) → r ≤ runL pl x d
  | 0, r, h, _ => by omega
  | d + 1, r, h, h2 => by
    by_cases e : r = 0
    · omega
    · simp only [runL]
      rw [if_pos (h2 d (by omega) (by omega))]
      have := runL_ge (pl := pl) (x := x) (d := d) (r := r - 1) (by omega) (fun i h3 h4 => h2 i (by omega) (by omega))
      omega
theorem longR_ge {pl : FI} {x : Int32} : ∀ {n d : Nat}, d ≤ n → runL pl x d ≤ longR pl x n
  | 0, d, h => by rw [show d = 0 by omega]; exact Nat.le_refl _
  | n + 1, d, h => by
    simp only [longR]
    by_cases e : d = n + 1
    · rw [e]; omega
    · have := longR_ge (pl := pl) (x := x) (n := n) (d := d) (by omega)
      omega
theorem longR_lub {pl : FI} {x : Int32} {m : Nat} : ∀ {n : Nat}, (∀ d, d ≤ n → runL pl x d ≤ m) → longR pl x n ≤ m
  | 0, _ => Nat.zero_le _
  | n + 1, h => by
    simp only [longR]
    have h1 := longR_lub (pl := pl) (x := x) (m := m) (n := n) (fun d hd => h d (by omega))
    have h2 := h (n + 1) (Nat.le_refl _)
    omega
theorem leftJ_get {pl : FI} {x : Int32} {o : Nat} : ∀ {t i : Nat}, i < t → t ≤ i + leftJ pl x o t → pl i = x ∧ ¬ i = o
  | 0, i, h, _ => absurd h (Nat.not_lt_zero _)
  | t + 1, i, h, h2 => by
    simp only [leftJ] at h2
    by_cases q : pl t = x ∧ ¬ t = o
    · rw [if_pos q] at h2
      by_cases e : i = t
      · rw [e]; exact q
      · exact leftJ_get (t := t) (by omega) (by omega)
    · rw [if_neg q] at h2
      omega
theorem leftJ_ge {pl : FI} {x : Int32} {o : Nat} : ∀ {t r : Nat}, r ≤ t → (∀ i, i < t → t ≤ i + r → pl i = x ∧ ¬ i = o) → r ≤ leftJ pl x o t
  | 0, r, h, _ => by omega
  | t + 1, r, h, h2 => by
    by_cases e : r = 0
    · omega
    · simp only [leftJ]
      rw [if_pos (h2 t (by omega) (by omega))]
      have := leftJ_ge (pl := pl) (x := x) (o := o) (t := t) (r := r - 1) (by omega) (fun i h3 h4 => h2 i (by omega) (by omega))
      omega
theorem rightJ_get {pl : FI} {x : Int32} {o : Nat} : ∀ {g s i : Nat}, s ≤ i → i < s + rightJ pl x o g s → pl i = x ∧ ¬ i = o
  | 0, s, i, h, h2 => by simp only [rightJ] at h2; omega
  | g + 1, s, i, h, h2 => by
    simp only [rightJ] at h2
    by_cases q : pl s = x ∧ ¬ s = o
    · rw [if_pos q] at h2
      by_cases e : i = s
      · rw [e]; exact q
      · exact rightJ_get (g := g) (s := s + 1) (by omega) (by omega)
    · rw [if_neg q] at h2
      omega
theorem rightJ_ge {pl : FI} {x : Int32} {o : Nat} : ∀ {g s r : Nat}, r ≤ g → (∀ i, s ≤ i → i < s + r → pl i = x ∧ ¬ i = o) → r ≤ rightJ pl x o g s
  | 0, s, r, h, _ => by omega
  | g + 1, s, r, h, h2 => by
    by_cases e : r = 0
    · omega
    · simp only [rightJ]
      rw [if_pos (h2 s (by omega) (by omega))]
      have := rightJ_ge (pl := pl) (x := x) (o := o) (g := g) (s := s + 1) (r := r - 1) (by omega) (fun i h3 h4 => h2 i (by omega) (by omega))
      omega
/-- the map when two blocks are exchanged -/
def xchF (pl : FI) (i j : Nat) : FI := upd (upd pl i (pl j)) j (pl i)
theorem xch_1 {pl : FI} {i j : Nat} (h : ¬ i = j) : xchF pl i j i = pl j := by
  unfold xchF
  rw [show upd (upd pl i (pl j)) j (pl i) i = upd pl i (pl j) i from if_neg h]
  exact if_pos rfl
theorem xch_2 {pl : FI} {i j : Nat} : xchF pl i j j = pl i := if_pos rfl
theorem xch_o {pl : FI} {i j d : Nat} (h1 : ¬ d = i) (h2 : ¬ d = j) : xchF pl i j d = pl d := by
  unfold xchF
  rw [show upd (upd pl i (pl j)) j (pl i) d = upd pl i (pl j) d from if_neg h2]
  exact if_neg h1
theorem join_lo {pl : FI} {x : Int32} {n b o : Nat} (hb : pl b = x) (ho : ¬ pl o = x) (hon : o < n) : joinL pl n x b o ≤ longR (xchF pl b o) x n := by
  have hbo : ¬ b = o := fun q => ho (q ▸ hb)
  have h1 := leftJ_le pl x b o
  have h2 := rightJ_le pl x b (n - (o + 1)) (o + 1)
  have h3 : joinL pl n x b o ≤ runL (xchF pl b o) x (o + 1 + rightJ pl x b (n - (o + 1)) (o + 1)) := by
    refine runL_ge (by unfold joinL; omega) (fun i h4 h5 => ?_)
    unfold joinL at h5
    by_cases e : i = o
    · rw [e, xch_2]; exact hb
    · by_cases q : i < o
      · have := leftJ_get (pl := pl) (x := x) (o := b) (t := o) q (by omega)
        rw [xch_o this.2 e]; exact this.1
      · have := rightJ_get (pl := pl) (x := x) (o := b) (g := n - (o + 1)) (s := o + 1) (i := i) (by omega) (by omega)
        rw [xch_o this.2 e]; exact this.1
  exact Nat.le_trans h3 (longR_ge (by omega))
theorem join_hi {pl : FI} {x : Int32} {n b o : Nat} (hb : pl b = x) (ho : ¬ pl o = x) (hon : o < n) : longR (xchF pl b o) x n ≤ max (joinL pl n x b o) (longR pl x n) := by
  have hbo : ¬ b = o := fun q => ho (q ▸ hb)
  refine longR_lub (fun d hd => ?_)
  have hr := runL_le (xchF pl b o) x d
  have g : ∀ i, i < d → d ≤ i + runL (xchF pl b o) x d → xchF pl b o i = x := fun i h1 h2 => runL_get h1 h2
  generalize runL (xchF pl b o) x d = r at *
  have gb : ∀ i, i < d → d ≤ i + r → ¬ i = b := fun i h1 h2 q => by
    have := g i h1 h2
    rw [q, xch_1 hbo] at this
    exact ho this
  by_cases q : o < d ∧ d ≤ o + r
  · have L1 : o + r - d ≤ leftJ pl x b o := by
      refine leftJ_ge (by omega) (fun i h1 h2 => ?_)
      have h3 := g i (by omega) (by omega)
      have h4 := gb i (by omega) (by omega)
      rw [xch_o h4 (by omega)] at h3
      exact ⟨h3, h4⟩
    have L2 : d - (o + 1) ≤ rightJ pl x b (n - (o + 1)) (o + 1) := by
      refine rightJ_ge (by omega) (fun i h1 h2 => ?_)
      have h3 := g i (by omega) (by omega)
      have h4 := gb i (by omega) (by omega)
      rw [xch_o h4 (by omega)] at h3
      exact ⟨h3, h4⟩
    unfold joinL
    omega
  · have : r ≤ runL pl x d := runL_ge hr (fun i h1 h2 => by
      have h3 := g i h1 h2
      have h4 := gb i h1 h2
      rw [xch_o h4 (fun e => q (by omega))] at h3
      exact h3)
    have := longR_ge (pl := pl) (x := x) hd
    omega
theorem binS_ge {val : Nat → Nat → Nat} {pl : FI} {x : Int32} {o : Nat} {s : Int32 × Nat} : ∀ j, s.2 ≤ (binS val pl x o s j).2
  | 0 => Nat.le_refl _
  | j + 1 => by
    have ih := binS_ge (val := val) (pl := pl) (x := x) (o := o) (s := s) j
    simp only [binS]
    split
    · rename_i q
      exact Nat.le_trans ih (Nat.le_of_lt q.2)
    · exact ih
theorem boutS_ge {val : Nat → Nat → Nat} {pl : FI} {n : Nat} {x : Int32} : ∀ j, longR pl x n ≤ (boutS val pl n x j).2
  | 0 => Nat.le_refl _
  | j + 1 => by
    have ih := boutS_ge (val := val) (pl := pl) (n := n) (x := x) j
    simp only [boutS]
    split
    · exact Nat.le_trans ih (binS_ge _)
    · exact ih
section
variable {Γ : GE} {h : AH} {Q : PO} {m a np nb ne nh nc y : Nat} {R : FI} {qu ra le ln pl tm rw hw cw pk : FI} {re : Nat → UInt32} {bk : Nat → Int64} {t x z w v th tl at' bg er ea lr cm : Int32}
theorem RowR.map {R' pl' tm' : FI} (h : RowR R np qu ra re le ln nb pl tm ne rw bk nh hw nc cw t y) (hS : InvS np nb ne nh nc y t) (eo : ∀ u, (u < 7 ∨ 407 ≤ u) → R' u = R u) (em : ∀ d, d < nb → R' (7 + d) = pl' d ∧ R' (207 + d) = tm' d) : RowR R' np qu ra re le ln nb pl' tm' ne rw bk nh hw nc cw t y := by
  obtain ⟨i1, i2, i3, i4, i5, i6, i7, i8, i9⟩ := hS
  obtain ⟨⟨r0, r1, r2, r3, r4, r5, r6⟩, rM, rP, rJ, rH, rC⟩ := h
  exact ⟨⟨(eo 0 (by omega)).trans r0, (eo 1 (by omega)).trans r1, (eo 2 (by omega)).trans r2, (eo 3 (by omega)).trans r3, (eo 4 (by omega)).trans r4, (eo 5 (by omega)).trans r5, (eo 6 (by omega)).trans r6⟩, em, fun j hj => ⟨(eo _ (by omega)).trans (rP j hj).1, (eo _ (by omega)).trans (rP j hj).2.1, fun i hi => (eo _ (by omega)).trans ((rP j hj).2.2 i hi)⟩, fun e he => ⟨fun q hq => (eo _ (by omega)).trans ((rJ e he).1 q hq), fun d hd => by rw [eo _ (by omega)]; exact (rJ e he).2 d hd⟩, fun r hr q hq => (eo _ (by omega)).trans (rH r hr q hq), fun c hc => ⟨fun j hj => (eo _ (by omega)).trans ((rC c hc).1 j hj), (eo _ (by omega)).trans (rC c hc).2⟩⟩
theorem Inv.map {pl' tm' : FI} (h : Inv np qu ra re le ln nb pl tm ne rw bk nh hw nc cw t y) (hm : InvM np nb pl' tm') : Inv np qu ra re le ln nb pl' tm' ne rw bk nh hw nc cw t y := ⟨h.1, hm, h.2.2⟩
theorem InvM.xch {i j : Nat} (h : InvM np nb pl tm) (hi : i < nb) (hj : j < nb) : InvM np nb (xchF pl i j) (xchF tm i j) := by
  intro d hd
  by_cases e1 : d = j
  · rw [e1, xch_2, xch_2]; exact h i hi
  · by_cases e2 : d = i
    · subst e2; rw [xch_1 e1, xch_1 e1]; exact h j hj
    · rw [xch_o e2 e1, xch_o e2 e1]; exact h d hd
theorem InvM.cor {i j : Nat} (h : InvM np nb pl tm) (hj : j < np) (ht : 0 ≤ t) : InvM np nb (upd pl i (nI j)) (upd tm i t) := by
  intro d hd
  by_cases e : d = i
  · rw [show upd pl i (nI j) d = nI j from if_pos e, show upd tm i t d = t from if_pos e]; exact ⟨⟨j, hj, rfl⟩, ht⟩
  · rw [show upd pl i (nI j) d = pl d from if_neg e, show upd tm i t d = tm d from if_neg e]; exact h d hd
theorem s_X10_exchanges {o i j : Nat} (hM : ModC h m a th tl at' bg er ea lr cm) (hR : h.2 a = some (.inl (.int, 5061, .inl R))) (hA : Γ.2.1 ≤ a) (ham : ¬ a = m) (ho : o ≤ 300) (hi : i < 200) (hj : j < 200)
    (k : ∀ h', ax_fr a (a + 1) h h' → h'.2 a = some (.inl (.int, 5061, .inl (xchF R (o + i) (o + j)))) → Q (.inl none) h') : WP Γ MX10_exchanges (0, 0, 0, 0) 0 [some (.ref m), some (.int (nI o)), some (.int (nI i)), some (.int (nI j)), none] [] h Q := by
  unfold ModC at hM
  refine wp_aload_n (n := 1) dX10_exchanges_0 rfl rfl ?_
  refine wp_getf (n := 4) dX10_exchanges_1 rfl flX10_9 (by repeat first | assumption | exact ax_set_self _ _ _ | exact ax_newA_self _ _ _ | refine (ax_set_ne _ _ (by omega)).trans ?_ | refine (ax_newA_ne _ _ _ (by omega)).trans ?_) (by rfl) ?_
  refine wp_iload_n (n := 5) dX10_exchanges_4 rfl rfl ?_
  refine wp_iload_n (n := 6) dX10_exchanges_5 rfl rfl ?_
  refine wp_iadd (n := 7) dX10_exchanges_6 rfl ?_
  refine wp_iald (n := 8) (o + i) dX10_exchanges_7 rfl (by repeat first | assumption | exact ax_set_self _ _ _ | exact ax_newA_self _ _ _ | refine (ax_set_ne _ _ (by omega)).trans ?_ | refine (ax_newA_ne _ _ _ (by omega)).trans ?_) (by simp only [nI_zero, nI_mul, nI_add]) (by omega) (by omega) ?_
  refine wp_istore (n := 10) dX10_exchanges_8 rfl rfl rfl rfl ?_
  refine wp_aload_n (n := 11) dX10_exchanges_10 rfl rfl ?_
  refine wp_getf (n := 14) dX10_exchanges_11 rfl flX10_9 (by repeat first | assumption | exact ax_set_self _ _ _ | exact ax_newA_self _ _ _ | refine (ax_set_ne _ _ (by omega)).trans ?_ | refine (ax_newA_ne _ _ _ (by omega)).trans ?_) (by rfl) ?_
  refine wp_iload_n (n := 15) dX10_exchanges_14 rfl rfl ?_
  refine wp_iload_n (n := 16) dX10_exchanges_15 rfl rfl ?_
  refine wp_iadd (n := 17) dX10_exchanges_16 rfl ?_
  refine wp_aload_n (n := 18) dX10_exchanges_17 rfl rfl ?_
  refine wp_getf (n := 21) dX10_exchanges_18 rfl flX10_9 (by repeat first | assumption | exact ax_set_self _ _ _ | exact ax_newA_self _ _ _ | refine (ax_set_ne _ _ (by omega)).trans ?_ | refine (ax_newA_ne _ _ _ (by omega)).trans ?_) (by rfl) ?_
  refine wp_iload_n (n := 22) dX10_exchanges_21 rfl rfl ?_
  refine wp_iload_n (n := 23) dX10_exchanges_22 rfl rfl ?_
  refine wp_iadd (n := 24) dX10_exchanges_23 rfl ?_
  refine wp_iald (n := 25) (o + j) dX10_exchanges_24 rfl (by repeat first | assumption | exact ax_set_self _ _ _ | exact ax_newA_self _ _ _ | refine (ax_set_ne _ _ (by omega)).trans ?_ | refine (ax_newA_ne _ _ _ (by omega)).trans ?_) (by simp only [nI_zero, nI_mul, nI_add]) (by omega) (by omega) ?_
  refine wp_iast (n := 26) (o + i) dX10_exchanges_25 rfl (by repeat first | assumption | exact ax_set_self _ _ _ | exact ax_newA_self _ _ _ | refine (ax_set_ne _ _ (by omega)).trans ?_ | refine (ax_newA_ne _ _ _ (by omega)).trans ?_) (by omega) (by simp only [nI_zero, nI_mul, nI_add]) (by omega) (by omega) ?_
  refine wp_aload_n (n := 27) dX10_exchanges_26 rfl rfl ?_
  refine wp_getf (n := 30) dX10_exchanges_27 rfl flX10_9 (by repeat first | assumption | exact ax_set_self _ _ _ | exact ax_newA_self _ _ _ | refine (ax_set_ne _ _ (by omega)).trans ?_ | refine (ax_newA_ne _ _ _ (by omega)).trans ?_) (by rfl) ?_
  refine wp_iload_n (n := 31) dX10_exchanges_30 rfl rfl ?_
  refine wp_iload_n (n := 32) dX10_exchanges_31 rfl rfl ?_
  refine wp_iadd (n := 33) dX10_exchanges_32 rfl ?_
  refine wp_iload (n := 35) dX10_exchanges_33 rfl rfl ?_
  refine wp_iast (n := 36) (o + j) dX10_exchanges_35 rfl (by repeat first | assumption | exact ax_set_self _ _ _ | exact ax_newA_self _ _ _ | refine (ax_set_ne _ _ (by omega)).trans ?_ | refine (ax_newA_ne _ _ _ (by omega)).trans ?_) (by omega) (by simp only [nI_zero, nI_mul, nI_add]) (by omega) (by omega) ?_
  exact wp_return dX10_exchanges_36 rfl (k _ ((ax_fr.set (lo := a) (hi := a + 1) (by omega)).put (by omega)) (ax_set_self _ _ _))
end

section
variable {Γ : GE} {h : AH} {Q : PO} {m a np nb ne nh nc y : Nat} {R : FI} {qu ra le ln pl tm rw hw cw pk : FI} {re : Nat → UInt32} {bk : Nat → Int64} {t x z w v th tl at' bg er ea lr cm : Int32}
theorem s_X10_swap (hM : ModC h m a th tl at' bg er ea lr cm) (hR : h.2 a = some (.inl (.int, 5061, .inl R))) (hr : RowR R np qu ra re le ln nb pl tm ne rw bk nh hw nc cw t y) (hI : Inv np qu ra re le ln nb pl tm ne rw bk nh hw nc cw t y) (hA : Γ.2.1 ≤ m) (ham : ¬ a = m) (hAa : Γ.2.1 ≤ a)
    (k1 : (inN x nb && inN z nb) = false → ∀ h', ax_fr m (m + 1) h h' → ModC h' m a (nI 1) tl at' bg er ea lr cm → Q (.inl (some (.int 0))) h')
    (k2 : (inN x nb && inN z nb) = true → decide (¬ x = z) = false → ∀ h', ax_fr m (m + 1) h h' → ModC h' m a (nI 2) tl at' bg er ea lr cm → Q (.inl (some (.int 0))) h')
    (k : ∀ i, i < nb → x = nI i → ∀ j, j < nb → z = nI j → ¬ x = z → ∀ h' R', h'.1 = h.1 → (∀ c, ¬ c = m → ¬ c = a → h'.2 c = h.2 c) → ModC h' m a 0 tl at' bg er ea lr cm → h'.2 a = some (.inl (.int, 5061, .inl R')) → RowR R' np qu ra re le ln nb (xchF pl i j) (xchF tm i j) ne rw bk nh hw nc cw t y → Q (.inl (some (.int (bI (decide (¬ pl j = pl i)))))) h') : WP Γ MX10_swap (2, 43, 0, 0) 0 [some (.ref m), some (.int x), some (.int z)] [] h Q := by
  have hM0 := hM
  unfold ModC at hM
  have hI0 := hI
  have hr0 := hr
  obtain ⟨⟨s1, s2, s3, s4, s5, s6, s7, s8, tn, s9, s10⟩, IM, IP, IJ, IR, IC⟩ := hI
  obtain ⟨⟨r0, r1, r2, r3, r4, r5, r6⟩, rM, rP, rJ, rH, rC⟩ := hr
  have J0 : ∀ c9, c9 = (inN x nb && inN z nb) → WP Γ MX10_swap (2, 43, 0, 0) 22 [some (.ref m), some (.int x), some (.int z)] [.int (bI c9), .ref m] h Q := by
    intro c9 hc9
    refine wp_iconst (n := 23) (v := nI 1) dX10_swap_22 rfl (by decide) ?_
    refine wp_callV2 (n := 26) (rm' := (0, 0, 0, 0)) rfl dX10_swap_23 rfl mlX10_113 (by repeat first | assumption | exact ax_set_self _ _ _ | exact ax_newA_self _ _ _ | refine (ax_set_ne _ _ (by omega)).trans ?_ | refine (ax_newA_ne _ _ _ (by omega)).trans ?_) rfl rfl rfl rfl rfl ?_
    refine s_X10_isThrown hM0 hA (fun h1 f1 m1 => ?_)
    show WP Γ _ _ _ _ _ _ _
    have fa1 := f1
    have hR1 := fa1.get hR (by omega)
    cases c9 with
    | false =>
      have hx1 := hc9.symm
      refine wp_if_ne (t := 47) (n := 29) dX10_swap_26 (by decide) rfl (fun hq => ?_) (fun hq => ?_)
      · refine wp_iconst (n := 48) (v := 0) dX10_swap_47 rfl (by decide) ?_
        exact wp_ireturn dX10_swap_48 rfl rfl (k1 hx1 h1 fa1 m1)
      · exact absurd hq (by decide)
    | true =>
      have hx1 := hc9.symm
      have m1' := m1
      unfold ModC at m1'
      refine wp_if_ne (t := 47) (n := 29) dX10_swap_26 (by decide) rfl (fun hq => ?_) (fun hq => ?_)
      · exact absurd rfl hq
      · skip
        have J1 : ∀ c9, c9 = decide (¬ x = z) → WP Γ MX10_swap (2, 43, 0, 0) 40 [some (.ref m), some (.int x), some (.int z)] [.int (bI c9), .ref m] h1 Q := by
          intro c9 hc9
          refine wp_iconst (n := 41) (v := nI 2) dX10_swap_40 rfl (by decide) ?_
          refine wp_callV2 (n := 44) (rm' := (0, 0, 0, 0)) rfl dX10_swap_41 rfl mlX10_113 (by repeat first | assumption | exact ax_set_self _ _ _ | exact ax_newA_self _ _ _ | refine (ax_set_ne _ _ (by omega)).trans ?_ | refine (ax_newA_ne _ _ _ (by omega)).trans ?_) rfl rfl rfl rfl rfl ?_
          refine s_X10_isThrown m1 hA (fun hB f2 mB => ?_)
          show WP Γ _ _ _ _ _ _ _
          have fB := fa1.tr (lo := m) (hi := m + 1) f2 (by omega) (by omega)
          have hRB := fB.get hR (by omega)
          cases c9 with
          | false =>
            have hx2 := hc9.symm
            refine wp_if_eq (t := 49) (n := 47) dX10_swap_44 (by decide) rfl (fun hq => ?_) (fun hq => ?_)
            · exact absurd hq (by decide)
            · refine wp_iconst (n := 48) (v := 0) dX10_swap_47 rfl (by decide) ?_
              exact wp_ireturn dX10_swap_48 rfl rfl (k2 hx1 hx2 hB fB mB)
          | true =>
            have hx2 := hc9.symm
            have mB' := mB
            unfold ModC at mB'
            refine wp_if_eq (t := 49) (n := 47) dX10_swap_44 (by decide) rfl (fun hq => ?_) (fun hq => ?_)
            · skip
              have hx1a := (Eq.mp (Bool.and_eq_true _ _) hx1).1
              have hx1b := (Eq.mp (Bool.and_eq_true _ _) hx1).2
              obtain ⟨i, i1, rfl⟩ := inN_get (n := nb) (by omega) (of_decide_eq_true hx1a).1 (of_decide_eq_true hx1a).2
              obtain ⟨j, j1, rfl⟩ := inN_get (n := nb) (by omega) (of_decide_eq_true hx1b).1 (of_decide_eq_true hx1b).2
              have g_ne := of_decide_eq_true hx2
              have hij : ¬ i = j := fun q => g_ne (by rw [q])
              refine wp_aload_n (n := 50) dX10_swap_49 rfl rfl ?_
              refine wp_bipush (n := 52) (v := nI 7) dX10_swap_50 rfl (by decide) ?_
              refine wp_iload_n (n := 53) dX10_swap_52 rfl rfl ?_
              refine wp_iload_n (n := 54) dX10_swap_53 rfl rfl ?_
              refine wp_callV3 (n := 57) (rm' := (0, 0, 0, 0)) rfl dX10_swap_54 rfl mlX10_293 (by repeat first | assumption | exact ax_set_self _ _ _ | exact ax_newA_self _ _ _ | refine (ax_set_ne _ _ (by omega)).trans ?_ | refine (ax_newA_ne _ _ _ (by omega)).trans ?_) rfl rfl rfl rfl rfl ?_
              refine s_X10_exchanges (o := 7) mB hRB hAa ham (by omega) (by omega) (by omega) (fun h3 f3 c3 => ?_)
              show WP Γ _ _ _ _ _ _ _
              have m3 := mB.fr f3 (by omega)
              have m3' := m3
              unfold ModC at m3'
              refine wp_aload_n (n := 58) dX10_swap_57 rfl rfl ?_
              refine wp_sipush (n := 61) (v := nI 207) dX10_swap_58 rfl (by decide) ?_
              refine wp_iload_n (n := 62) dX10_swap_61 rfl rfl ?_
              refine wp_iload_n (n := 63) dX10_swap_62 rfl rfl ?_
              refine wp_callV3 (n := 66) (rm' := (0, 0, 0, 0)) rfl dX10_swap_63 rfl mlX10_293 (by repeat first | assumption | exact ax_set_self _ _ _ | exact ax_newA_self _ _ _ | refine (ax_set_ne _ _ (by omega)).trans ?_ | refine (ax_newA_ne _ _ _ (by omega)).trans ?_) rfl rfl rfl rfl rfl ?_
              refine s_X10_exchanges m3 c3 hAa ham (by omega) (by omega) (by omega) (fun h4 f4 c4 => ?_)
              show WP Γ _ _ _ _ _ _ _
              have m4 := m3.fr f4 (by omega)
              have m4' := m4
              unfold ModC at m4'
              have e1 : ∀ d, d < nb → xchF (xchF R (7 + i) (7 + j)) (207 + i) (207 + j) (7 + d) = xchF pl i j d := by
                intro d hd
                rw [xch_o (by omega) (by omega)]
                by_cases q1 : d = j
                · subst q1; rw [xch_2, xch_2]; exact (rM i i1).1
                · by_cases q2 : d = i
                  · subst q2; rw [xch_1 (by omega), xch_1 hij]; exact (rM j j1).1
                  · rw [xch_o (by omega) (by omega), xch_o q2 q1]; exact (rM d hd).1
              have e2 : ∀ d, d < nb → xchF (xchF R (7 + i) (7 + j)) (207 + i) (207 + j) (207 + d) = xchF tm i j d := by
                intro d hd
                by_cases q1 : d = j
                · subst q1; rw [xch_2, xch_2, xch_o (by omega) (by omega)]; exact (rM i i1).2
                · by_cases q2 : d = i
                  · subst q2; rw [xch_1 (by omega), xch_1 hij, xch_o (by omega) (by omega)]; exact (rM j j1).2
                  · rw [xch_o (by omega) (by omega), xch_o (by omega) (by omega), xch_o q2 q1]; exact (rM d hd).2
              have e3 : ∀ u, (u < 7 ∨ 407 ≤ u) → xchF (xchF R (7 + i) (7 + j)) (207 + i) (207 + j) u = R u := fun u hu => by
                rw [xch_o (by omega) (by omega), xch_o (by omega) (by omega)]
              have kk := k i i1 rfl j j1 rfl g_ne h4 _ (f4.1.trans (f3.1.trans fB.1)) (fun c c1 c2 => (f4.2 c (by omega)).trans ((f3.2 c (by omega)).trans (fB.2 c (by omega)))) m4 c4 (hr0.map hI0.1 e3 (fun d hd => ⟨e1 d hd, e2 d hd⟩))
              refine wp_aload_n (n := 67) dX10_swap_66 rfl rfl ?_
              refine wp_getf (n := 70) dX10_swap_67 rfl flX10_9 (by repeat first | assumption | exact ax_set_self _ _ _ | exact ax_newA_self _ _ _ | refine (ax_set_ne _ _ (by omega)).trans ?_ | refine (ax_newA_ne _ _ _ (by omega)).trans ?_) (by rfl) ?_
              refine wp_bipush (n := 72) (v := nI 7) dX10_swap_70 rfl (by decide) ?_
              refine wp_iload_n (n := 73) dX10_swap_72 rfl rfl ?_
              refine wp_iadd (n := 74) dX10_swap_73 rfl ?_
              refine wp_iald (n := 75) (7 + i) dX10_swap_74 rfl (by repeat first | assumption | exact ax_set_self _ _ _ | exact ax_newA_self _ _ _ | refine (ax_set_ne _ _ (by omega)).trans ?_ | refine (ax_newA_ne _ _ _ (by omega)).trans ?_) (by simp only [nI_zero, nI_mul, nI_add]) (by omega) (by omega) ?_
              refine wp_aload_n (n := 76) dX10_swap_75 rfl rfl ?_
              refine wp_getf (n := 79) dX10_swap_76 rfl flX10_9 (by repeat first | assumption | exact ax_set_self _ _ _ | exact ax_newA_self _ _ _ | refine (ax_set_ne _ _ (by omega)).trans ?_ | refine (ax_newA_ne _ _ _ (by omega)).trans ?_) (by rfl) ?_
              refine wp_bipush (n := 81) (v := nI 7) dX10_swap_79 rfl (by decide) ?_
              refine wp_iload_n (n := 82) dX10_swap_81 rfl rfl ?_
              refine wp_iadd (n := 83) dX10_swap_82 rfl ?_
              refine wp_iald (n := 84) (7 + j) dX10_swap_83 rfl (by repeat first | assumption | exact ax_set_self _ _ _ | exact ax_newA_self _ _ _ | refine (ax_set_ne _ _ (by omega)).trans ?_ | refine (ax_newA_ne _ _ _ (by omega)).trans ?_) (by simp only [nI_zero, nI_mul, nI_add]) (by omega) (by omega) ?_
              rw [e1 i i1, e1 j j1, xch_1 hij, xch_2]
              refine wp_icmp_eq (t := 91) (n := 87) dX10_swap_84 (by decide) rfl (fun hc => ?_) (fun hc => ?_)
              · rw [decide_eq_false (fun q => q hc)] at kk
                refine wp_iconst (n := 92) (v := 0) dX10_swap_91 rfl (by decide) ?_
                exact wp_ireturn dX10_swap_92 rfl rfl (kk)
              · rw [decide_eq_true hc] at kk
                refine wp_iconst (n := 88) (v := nI 1) dX10_swap_87 rfl (by decide) ?_
                refine wp_goto (t := 92) dX10_swap_88 (by decide) ?_
                exact wp_ireturn dX10_swap_92 rfl rfl (kk)
            · exact absurd rfl hq
        refine wp_aload_n (n := 30) dX10_swap_29 rfl rfl ?_
        refine wp_iload_n (n := 31) dX10_swap_30 rfl rfl ?_
        refine wp_iload_n (n := 32) dX10_swap_31 rfl rfl ?_
        refine wp_icmp_eq (t := 39) (n := 35) dX10_swap_32 (by decide) rfl (fun hc => ?_) (fun hc => ?_)
        · refine wp_iconst (n := 40) (v := 0) dX10_swap_39 rfl (by decide) ?_
          exact J1 false (decide_eq_false (fun q => q hc)).symm
        · refine wp_iconst (n := 36) (v := nI 1) dX10_swap_35 rfl (by decide) ?_
          refine wp_goto (t := 40) dX10_swap_36 (by decide) ?_
          exact J1 true (decide_eq_true (hc)).symm
  refine wp_aload_n (n := 1) dX10_swap_0 rfl rfl ?_
  refine wp_aload_n (n := 2) dX10_swap_1 rfl rfl ?_
  refine wp_iload_n (n := 3) dX10_swap_2 rfl rfl ?_
  refine wp_callV1 (n := 6) (rm' := (1, 22, 0, 0)) rfl dX10_swap_3 rfl mlX10_121 (by repeat first | assumption | exact ax_set_self _ _ _ | exact ax_newA_self _ _ _ | refine (ax_set_ne _ _ (by omega)).trans ?_ | refine (ax_newA_ne _ _ _ (by omega)).trans ?_) rfl rfl rfl rfl rfl ?_
  refine s_X10_isBlock hM0 hR r0 s4 ?_
  show WP Γ _ _ _ _ _ _ _
  refine wp_if_eq (t := 21) (n := 9) dX10_swap_6 (by decide) rfl (fun hc => ?_) (fun hc => ?_)
  · refine wp_iconst (n := 22) (v := 0) dX10_swap_21 rfl (by decide) ?_
    exact J0 false (by rw [bI_eq hc, Bool.false_and])
  · have hc := bI_ne hc
    refine wp_aload_n (n := 10) dX10_swap_9 rfl rfl ?_
    refine wp_iload_n (n := 11) dX10_swap_10 rfl rfl ?_
    refine wp_callV1 (n := 14) (rm' := (1, 22, 0, 0)) rfl dX10_swap_11 rfl mlX10_121 (by repeat first | assumption | exact ax_set_self _ _ _ | exact ax_newA_self _ _ _ | refine (ax_set_ne _ _ (by omega)).trans ?_ | refine (ax_newA_ne _ _ _ (by omega)).trans ?_) rfl rfl rfl rfl rfl ?_
    refine s_X10_isBlock hM0 hR r0 s4 ?_
    show WP Γ _ _ _ _ _ _ _
    refine wp_if_eq (t := 21) (n := 17) dX10_swap_14 (by decide) rfl (fun hq => ?_) (fun hq => ?_)
    · refine wp_iconst (n := 22) (v := 0) dX10_swap_21 rfl (by decide) ?_
      exact J0 false (by rw [bI_eq hq, Bool.and_false])
    · refine wp_iconst (n := 18) (v := nI 1) dX10_swap_17 rfl (by decide) ?_
      refine wp_goto (t := 22) dX10_swap_18 (by decide) ?_
      exact J0 true (by rw [hc, bI_ne hq]; rfl)
theorem s_X10_corrupt (hM : ModC h m a th tl at' bg er ea lr cm) (hR : h.2 a = some (.inl (.int, 5061, .inl R))) (hr : RowR R np qu ra re le ln nb pl tm ne rw bk nh hw nc cw t y) (hI : Inv np qu ra re le ln nb pl tm ne rw bk nh hw nc cw t y) (hA : Γ.2.1 ≤ m) (ham : ¬ a = m) (hAa : Γ.2.1 ≤ a)
    (k1 : (inN x nb && inN z np) = false → ∀ h', ax_fr m (m + 1) h h' → ModC h' m a (nI 1) tl at' bg er ea lr cm → Q (.inl (some (.int 0))) h')
    (k : ∀ i, i < nb → x = nI i → ∀ j, j < np → z = nI j → ∀ h' R', h'.1 = h.1 → (∀ c, ¬ c = m → ¬ c = a → h'.2 c = h.2 c) → ModC h' m a 0 tl at' bg er ea lr cm → h'.2 a = some (.inl (.int, 5061, .inl R')) → RowR R' np qu ra re le ln nb (upd pl i (nI j)) (upd tm i t) ne rw bk nh hw nc cw t y → Q (.inl (some (.int (pl i)))) h') : WP Γ MX10_corrupt (2, 43, 0, 0) 0 [some (.ref m), some (.int x), some (.int z), none] [] h Q := by
  have hM0 := hM
  unfold ModC at hM
  have hI0 := hI
  have hr0 := hr
  obtain ⟨⟨s1, s2, s3, s4, s5, s6, s7, s8, tn, s9, s10⟩, IM, IP, IJ, IR, IC⟩ := hI
  obtain ⟨⟨r0, r1, r2, r3, r4, r5, r6⟩, rM, rP, rJ, rH, rC⟩ := hr
  have J0 : ∀ c9, c9 = (inN x nb && inN z np) → WP Γ MX10_corrupt (2, 43, 0, 0) 22 [some (.ref m), some (.int x), some (.int z), none] [.int (bI c9), .ref m] h Q := by
    intro c9 hc9
    refine wp_iconst (n := 23) (v := nI 1) dX10_corrupt_22 rfl (by decide) ?_
    refine wp_callV2 (n := 26) (rm' := (0, 0, 0, 0)) rfl dX10_corrupt_23 rfl mlX10_113 (by repeat first | assumption | exact ax_set_self _ _ _ | exact ax_newA_self _ _ _ | refine (ax_set_ne _ _ (by omega)).trans ?_ | refine (ax_newA_ne _ _ _ (by omega)).trans ?_) rfl rfl rfl rfl rfl ?_
    refine s_X10_isThrown hM0 hA (fun hB f1 mB => ?_)
    show WP Γ _ _ _ _ _ _ _
    have fB := f1
    have hRB := fB.get hR (by omega)
    cases c9 with
    | false =>
      have hx1 := hc9.symm
      refine wp_if_eq (t := 31) (n := 29) dX10_corrupt_26 (by decide) rfl (fun hq => ?_) (fun hq => ?_)
      · exact absurd hq (by decide)
      · refine wp_iconst (n := 30) (v := 0) dX10_corrupt_29 rfl (by decide) ?_
        exact wp_ireturn dX10_corrupt_30 rfl rfl (k1 hx1 hB fB mB)
    | true =>
      have hx1 := hc9.symm
      have mB' := mB
      unfold ModC at mB'
      refine wp_if_eq (t := 31) (n := 29) dX10_corrupt_26 (by decide) rfl (fun hq => ?_) (fun hq => ?_)
      · skip
        have hx1a := (Eq.mp (Bool.and_eq_true _ _) hx1).1
        have hx1b := (Eq.mp (Bool.and_eq_true _ _) hx1).2
        obtain ⟨i, i1, rfl⟩ := inN_get (n := nb) (by omega) (of_decide_eq_true hx1a).1 (of_decide_eq_true hx1a).2
        obtain ⟨j, j1, rfl⟩ := inN_get (n := np) (by omega) (of_decide_eq_true hx1b).1 (of_decide_eq_true hx1b).2
        refine wp_aload_n (n := 32) dX10_corrupt_31 rfl rfl ?_
        refine wp_getf (n := 35) dX10_corrupt_32 rfl flX10_9 (by repeat first | assumption | exact ax_set_self _ _ _ | exact ax_newA_self _ _ _ | refine (ax_set_ne _ _ (by omega)).trans ?_ | refine (ax_newA_ne _ _ _ (by omega)).trans ?_) (by rfl) ?_
        refine wp_bipush (n := 37) (v := nI 7) dX10_corrupt_35 rfl (by decide) ?_
        refine wp_iload_n (n := 38) dX10_corrupt_37 rfl rfl ?_
        refine wp_iadd (n := 39) dX10_corrupt_38 rfl ?_
        refine wp_iald (n := 40) (7 + i) dX10_corrupt_39 rfl (by repeat first | assumption | exact ax_set_self _ _ _ | exact ax_newA_self _ _ _ | refine (ax_set_ne _ _ (by omega)).trans ?_ | refine (ax_newA_ne _ _ _ (by omega)).trans ?_) (by simp only [nI_zero, nI_mul, nI_add]) (by omega) (by omega) ?_
        rw [(rM i i1).1]
        refine wp_istore_n (n := 41) dX10_corrupt_40 rfl rfl rfl rfl ?_
        refine wp_aload_n (n := 42) dX10_corrupt_41 rfl rfl ?_
        refine wp_getf (n := 45) dX10_corrupt_42 rfl flX10_9 (by repeat first | assumption | exact ax_set_self _ _ _ | exact ax_newA_self _ _ _ | refine (ax_set_ne _ _ (by omega)).trans ?_ | refine (ax_newA_ne _ _ _ (by omega)).trans ?_) (by rfl) ?_
        refine wp_bipush (n := 47) (v := nI 7) dX10_corrupt_45 rfl (by decide) ?_
        refine wp_iload_n (n := 48) dX10_corrupt_47 rfl rfl ?_
        refine wp_iadd (n := 49) dX10_corrupt_48 rfl ?_
        refine wp_iload_n (n := 50) dX10_corrupt_49 rfl rfl ?_
        refine wp_iast (n := 51) (7 + i) dX10_corrupt_50 rfl (by repeat first | assumption | exact ax_set_self _ _ _ | exact ax_newA_self _ _ _ | refine (ax_set_ne _ _ (by omega)).trans ?_ | refine (ax_newA_ne _ _ _ (by omega)).trans ?_) (by omega) (by simp only [nI_zero, nI_mul, nI_add]) (by omega) (by omega) ?_
        refine wp_aload_n (n := 52) dX10_corrupt_51 rfl rfl ?_
        refine wp_getf (n := 55) dX10_corrupt_52 rfl flX10_9 (by repeat first | assumption | exact ax_set_self _ _ _ | exact ax_newA_self _ _ _ | refine (ax_set_ne _ _ (by omega)).trans ?_ | refine (ax_newA_ne _ _ _ (by omega)).trans ?_) (by rfl) ?_
        refine wp_sipush (n := 58) (v := nI 207) dX10_corrupt_55 rfl (by decide) ?_
        refine wp_iload_n (n := 59) dX10_corrupt_58 rfl rfl ?_
        refine wp_iadd (n := 60) dX10_corrupt_59 rfl ?_
        refine wp_aload_n (n := 61) dX10_corrupt_60 rfl rfl ?_
        refine wp_getf (n := 64) dX10_corrupt_61 rfl flX10_9 (by repeat first | assumption | exact ax_set_self _ _ _ | exact ax_newA_self _ _ _ | refine (ax_set_ne _ _ (by omega)).trans ?_ | refine (ax_newA_ne _ _ _ (by omega)).trans ?_) (by rfl) ?_
        refine wp_iconst (n := 65) (v := nI 2) dX10_corrupt_64 rfl (by decide) ?_
        refine wp_iald (n := 66) _ dX10_corrupt_65 rfl (by repeat first | assumption | exact ax_set_self _ _ _ | exact ax_newA_self _ _ _ | refine (ax_set_ne _ _ (by omega)).trans ?_ | refine (ax_newA_ne _ _ _ (by omega)).trans ?_) rfl (by omega) (by decide) ?_
        rw [show upd R (7 + i) (nI j) 2 = t by rw [show upd R (7 + i) (nI j) 2 = R 2 from if_neg (by omega)]; exact r2]
        refine wp_iast (n := 67) (207 + i) dX10_corrupt_66 rfl (by repeat first | assumption | exact ax_set_self _ _ _ | exact ax_newA_self _ _ _ | refine (ax_set_ne _ _ (by omega)).trans ?_ | refine (ax_newA_ne _ _ _ (by omega)).trans ?_) (by omega) (by simp only [nI_zero, nI_mul, nI_add]) (by omega) (by omega) ?_
        refine wp_iload_n (n := 68) dX10_corrupt_67 rfl rfl ?_
        have e3 : ∀ u, ¬ u = 7 + i → ¬ u = 207 + i → upd (upd R (7 + i) (nI j)) (207 + i) t u = R u := fun u h1 h2 => by
          simp only [upd]; rw [if_neg h2, if_neg h1]
        refine wp_ireturn dX10_corrupt_68 rfl rfl (k i i1 rfl j j1 rfl _ _ fB.1 (fun c c1 c2 => (ax_set_ne _ _ c2).trans ((ax_set_ne _ _ c2).trans (fB.2 c (by omega)))) ((ax_set_ne _ _ (by omega)).trans ((ax_set_ne _ _ (by omega)).trans mB)) (ax_set_self _ _ _) (hr0.map hI0.1 (fun u hu => e3 u (by omega) (by omega)) (fun d hd => ?_)))
        by_cases q : d = i
        · subst q
          exact ⟨by simp only [upd]; rw [if_neg (by omega), if_pos trivial, if_pos trivial], by simp only [upd]; rw [if_pos trivial, if_pos trivial]⟩
        · rw [e3 _ (by omega) (by omega), e3 _ (by omega) (by omega), show upd pl i (nI j) d = pl d from if_neg q, show upd tm i t d = tm d from if_neg q]
          exact rM d hd
      · exact absurd rfl hq
  refine wp_aload_n (n := 1) dX10_corrupt_0 rfl rfl ?_
  refine wp_aload_n (n := 2) dX10_corrupt_1 rfl rfl ?_
  refine wp_iload_n (n := 3) dX10_corrupt_2 rfl rfl ?_
  refine wp_callV1 (n := 6) (rm' := (1, 22, 0, 0)) rfl dX10_corrupt_3 rfl mlX10_121 (by repeat first | assumption | exact ax_set_self _ _ _ | exact ax_newA_self _ _ _ | refine (ax_set_ne _ _ (by omega)).trans ?_ | refine (ax_newA_ne _ _ _ (by omega)).trans ?_) rfl rfl rfl rfl rfl ?_
  refine s_X10_isBlock hM0 hR r0 s4 ?_
  show WP Γ _ _ _ _ _ _ _
  refine wp_if_eq (t := 21) (n := 9) dX10_corrupt_6 (by decide) rfl (fun hc => ?_) (fun hc => ?_)
  · refine wp_iconst (n := 22) (v := 0) dX10_corrupt_21 rfl (by decide) ?_
    exact J0 false (by rw [bI_eq hc, Bool.false_and])
  · have hc := bI_ne hc
    refine wp_aload_n (n := 10) dX10_corrupt_9 rfl rfl ?_
    refine wp_iload_n (n := 11) dX10_corrupt_10 rfl rfl ?_
    refine wp_callV1 (n := 14) (rm' := (1, 22, 0, 0)) rfl dX10_corrupt_11 rfl mlX10_109 (by repeat first | assumption | exact ax_set_self _ _ _ | exact ax_newA_self _ _ _ | refine (ax_set_ne _ _ (by omega)).trans ?_ | refine (ax_newA_ne _ _ _ (by omega)).trans ?_) rfl rfl rfl rfl rfl ?_
    refine s_X10_isPool hM0 hR r1 s2 ?_
    show WP Γ _ _ _ _ _ _ _
    refine wp_if_eq (t := 21) (n := 17) dX10_corrupt_14 (by decide) rfl (fun hq => ?_) (fun hq => ?_)
    · refine wp_iconst (n := 22) (v := 0) dX10_corrupt_21 rfl (by decide) ?_
      exact J0 false (by rw [bI_eq hq, Bool.and_false])
    · refine wp_iconst (n := 18) (v := nI 1) dX10_corrupt_17 rfl (by decide) ?_
      refine wp_goto (t := 22) dX10_corrupt_18 (by decide) ?_
      exact J0 true (by rw [hc, bI_ne hq]; rfl)
end
