/-! ===== instructions on the heap ===== -/
def ax_set (h : AH) (a : Nat) (e : AE) : AH := (h.1, fun x => if x = a then some e else h.2 x)
def ax_new (h : AH) (e : AE) : AH := (h.1 + 1, fun x => if x = h.1 then some e else h.2 x)
theorem ax_set_self (h : AH) (a : Nat) (e : AE) : (ax_set h a e).2 a = some e := by simp [ax_set]
theorem ax_set_ne (h : AH) {a b : Nat} (e : AE) (hb : b ≠ a) : (ax_set h a e).2 b = h.2 b := by simp [ax_set, hb]
theorem ax_set_1 (h : AH) (a : Nat) (e : AE) : (ax_set h a e).1 = h.1 := rfl
theorem ax_new_self (h : AH) (e : AE) : (ax_new h e).2 h.1 = some e := by simp [ax_new]
theorem ax_new_ne (h : AH) {b : Nat} (e : AE) (hb : b ≠ h.1) : (ax_new h e).2 b = h.2 b := by simp [ax_new, hb]
theorem ax_new_1 (h : AH) (e : AE) : (ax_new h e).1 = h.1 + 1 := rfl
theorem ax_set_set (h : AH) (a : Nat) (e e' : AE) : ax_set (ax_set h a e) a e' = ax_set h a e' := by
  unfold ax_set
  congr 1
  funext x
  by_cases hx : x = a <;> simp [hx]
theorem ax_set_same (h : AH) (a : Nat) (e : AE) (he : h.2 a = some e) : ax_set h a e = h := by
  obtain ⟨s, f⟩ := h
  unfold ax_set
  congr 1
  funext x
  by_cases hx : x = a
  · subst hx
    simp only [if_true]
    exact he.symm
  · simp [hx]
theorem ax_at.kept {Γ : GE} {U : State} {H H1 : Heap} {a : Nat} {e : AE} (h : ax_at Γ U H a e) (hq : H1[a]? = H[a]?) : ax_at Γ U H1 a e := by
  cases e with
  | inl x =>
    obtain ⟨cell, h1, h2⟩ := h
    exact ⟨cell, by rw [hq]; exact h1, h2⟩
  | inr o =>
    obtain ⟨r, h1, h2, h3⟩ := h
    exact ⟨r, h1, h2, h3.kept hq⟩
theorem ax_at.lt {Γ : GE} {U : State} {H : Heap} {a : Nat} {e : AE} (h : ax_at Γ U H a e) : a < H.size := by
  cases e with
  | inl x =>
    obtain ⟨cell, h1, h2⟩ := h
    exact (Array.getElem?_eq_some_iff.mp h1).1
  | inr o =>
    obtain ⟨r, h1, h2, cell, h3, -⟩ := h
    exact (Array.getElem?_eq_some_iff.mp h3).1
theorem ax_R.set {Γ : GE} {h : AH} {U : State} {H H1 : Heap} {a : Nat} {e : AE} (hR : ax_R Γ h U H) (hA : Γ.2.1 ≤ a) (hz : H1.size = H.size) (ho : ∀ q, q ≠ a → H1[q]? = H[q]?) (he : ax_at Γ U H1 a e) : ax_R Γ (ax_set h a e) U H1 := by
  refine ⟨hR.1.trans hz.symm, by rw [hz]; exact hR.2.1, fun q hq => ?_, fun b x hb => ?_⟩
  · rw [ho q (by omega)]
    exact hR.2.2.1 q hq
  · by_cases hx : b = a
    · subst hx
      rw [ax_set_self] at hb
      cases hb
      exact he
    · rw [ax_set_ne _ _ hx] at hb
      exact (hR.2.2.2 b x hb).kept (ho b hx)
theorem ax_R.new {Γ : GE} {h : AH} {U : State} {H H1 : Heap} {e : AE} (hR : ax_R Γ h U H) (hz : H1.size = H.size + 1) (ho : ∀ q, q < H.size → H1[q]? = H[q]?) (he : ax_at Γ U H1 H.size e) : ax_R Γ (ax_new h e) U H1 := by
  have h0 := hR.2.1
  refine ⟨by rw [ax_new_1, hR.1, hz], by omega, fun q hq => ?_, fun b x hb => ?_⟩
  · rw [ho q (by omega)]
    exact hR.2.2.1 q hq
  · by_cases hx : b = h.1
    · subst hx
      rw [ax_new_self] at hb
      cases hb
      rw [hR.1]
      exact he
    · rw [ax_new_ne _ _ hx] at hb
      have := hR.2.2.2 b x hb
      exact this.kept (ho b this.lt)
/-- cells that nobody speaks of may come -/
theorem ax_R.grow {Γ : GE} {h : AH} {U : State} {H H1 : Heap} (hR : ax_R Γ h U H) (hz : H.size ≤ H1.size) (ho : ∀ q, q < H.size → H1[q]? = H[q]?) : ax_R Γ (H1.size, h.2) U H1 := by
  have h0 := hR.2.1
  refine ⟨rfl, by omega, fun q hq => ?_, fun b x hb => ?_⟩
  · rw [ho q (by omega)]
    exact hR.2.2.1 q hq
  · have := hR.2.2.2 b x hb
    exact this.kept (ho b this.lt)
theorem ax_in {j N : Nat} (hj : j < N) (hN : N < 2147483648) {i : Int32} (hi : i = nI j) : ¬ (i < 0 ∨ N ≤ i.toNatClampNeg) ∧ i.toNatClampNeg = j := by
  subst hi
  exact ⟨nI_in hj hN, nI_clamp (by omega)⟩
section
variable {Γ : GE} {M : MD} {rm : RM} {pc n t : Nat} {lo lo' : List (Option Value)} {st : List Value} {h : AH} {Q : PO}
theorem wp_iald {a N : Nat} (j : Nat) {f : Nat → Int32} {i : Int32} (hd : decode M.2.1 pc = .ok (.iaload, 1)) (hn : pc + 1 = n) (he : h.2 a = some (.inl (.int, N, .inl f))) (hi : i = nI j) (hj : j < N) (hN : N < 2147483648)
    (k : WP Γ M rm n lo (.int (f j) :: st) h Q) : WP Γ M rm pc lo (.int i :: .ref a :: st) h Q := by
  subst hn
  obtain ⟨g1, g2⟩ := ax_in hj hN hi
  refine wp_goC (fun p e R s m args below meth c H locs cells slots Z ls hx hb _ _ _ _ _ _ _ hR _ _ w => ?_) k
  obtain ⟨cell, q1, q2, q3, q4, q5, q6, -⟩ := hR.2.2.2 a _ he
  exact W.iald hx hb q1 q2 q3 (by rw [q5]; exact g1) (by rw [g2]; exact q6 j hj) rfl rfl hd w
theorem wp_lald {a N : Nat} (j : Nat) {f : Nat → Int64} {i : Int32} (hd : decode M.2.1 pc = .ok (.laload, 1)) (hn : pc + 1 = n) (he : h.2 a = some (.inl (.long, N, .inr (.inl f)))) (hi : i = nI j) (hj : j < N) (hN : N < 2147483648)
    (k : WP Γ M rm n lo (.long (f j) :: st) h Q) : WP Γ M rm pc lo (.int i :: .ref a :: st) h Q := by
  subst hn
  obtain ⟨g1, g2⟩ := ax_in hj hN hi
  refine wp_goC (fun p e R s m args below meth c H locs cells slots Z ls hx hb _ _ _ _ _ _ _ hR _ _ w => ?_) k
  obtain ⟨cell, q1, q2, q3, q4, q5, q6, -⟩ := hR.2.2.2 a _ he
  exact W.lald hx hb q1 q2 q3 (by rw [q5]; exact g1) (by rw [g2]; exact q6 j hj) rfl rfl hd w
theorem wp_fald {a N : Nat} (j : Nat) {f : Nat → UInt32} {i : Int32} (hd : decode M.2.1 pc = .ok (.faload, 1)) (hn : pc + 1 = n) (he : h.2 a = some (.inl (.float, N, .inr (.inr (.inl f))))) (hi : i = nI j) (hj : j < N) (hN : N < 2147483648)
    (k : WP Γ M rm n lo (.float (f j) :: st) h Q) : WP Γ M rm pc lo (.int i :: .ref a :: st) h Q := by
  subst hn
  obtain ⟨g1, g2⟩ := ax_in hj hN hi
  refine wp_goC (fun p e R s m args below meth c H locs cells slots Z ls hx hb _ _ _ _ _ _ _ hR _ _ w => ?_) k
  obtain ⟨cell, q1, q2, q3, q4, q5, q6, -⟩ := hR.2.2.2 a _ he
  exact W.fald hx hb q1 q2 q3 (by rw [q5]; exact g1) (by rw [g2]; exact q6 j hj) rfl rfl hd w
theorem wp_dald {a N : Nat} (j : Nat) {f : Nat → UInt64} {i : Int32} (hd : decode M.2.1 pc = .ok (.daload, 1)) (hn : pc + 1 = n) (he : h.2 a = some (.inl (.double, N, .inr (.inr (.inr (.inl f)))))) (hi : i = nI j) (hj : j < N) (hN : N < 2147483648)
    (k : WP Γ M rm n lo (.double (f j) :: st) h Q) : WP Γ M rm pc lo (.int i :: .ref a :: st) h Q := by
  subst hn
  obtain ⟨g1, g2⟩ := ax_in hj hN hi
  refine wp_goC (fun p e R s m args below meth c H locs cells slots Z ls hx hb _ _ _ _ _ _ _ hR _ _ w => ?_) k
  obtain ⟨cell, q1, q2, q3, q4, q5, q6, -⟩ := hR.2.2.2 a _ he
  exact W.dald hx hb q1 q2 q3 (by rw [q5]; exact g1) (by rw [g2]; exact q6 j hj) rfl rfl hd w
theorem wp_zald {a N : Nat} (j : Nat) {f : Nat → Int32} {i : Int32} (hd : decode M.2.1 pc = .ok (.baload, 1)) (hn : pc + 1 = n) (he : h.2 a = some (.inl (.boolean, N, .inl f))) (hi : i = nI j) (hj : j < N) (hN : N < 2147483648)
    (k : WP Γ M rm n lo (.int (f j) :: st) h Q) : WP Γ M rm pc lo (.int i :: .ref a :: st) h Q := by
  subst hn
  obtain ⟨g1, g2⟩ := ax_in hj hN hi
  refine wp_goC (fun p e R s m args below meth c H locs cells slots Z ls hx hb _ _ _ _ _ _ _ hR _ _ w => ?_) k
  obtain ⟨cell, q1, q2, q3, q4, q5, q6, -⟩ := hR.2.2.2 a _ he
  exact W.zald hx hb q1 q2 q3 (by rw [q5]; exact g1) (by rw [g2]; exact q6 j hj) rfl rfl hd w
theorem wp_bald {a N : Nat} (j : Nat) {f : Nat → Int32} {i : Int32} (hd : decode M.2.1 pc = .ok (.baload, 1)) (hn : pc + 1 = n) (he : h.2 a = some (.inl (.byte, N, .inl f))) (hi : i = nI j) (hj : j < N) (hN : N < 2147483648)
    (k : WP Γ M rm n lo (.int (f j) :: st) h Q) : WP Γ M rm pc lo (.int i :: .ref a :: st) h Q := by
  subst hn
  obtain ⟨g1, g2⟩ := ax_in hj hN hi
  refine wp_goC (fun p e R s m args below meth c H locs cells slots Z ls hx hb _ _ _ _ _ _ _ hR _ _ w => ?_) k
  obtain ⟨cell, q1, q2, q3, q4, q5, q6, -⟩ := hR.2.2.2 a _ he
  exact W.bald hx hb q1 q2 q3 (by rw [q5]; exact g1) (by rw [g2]; exact q6 j hj) rfl rfl hd w
theorem wp_aald {a N : Nat} (j : Nat) {C : String} {f : Nat → Option Nat} {i : Int32} (hd : decode M.2.1 pc = .ok (.aaload, 1)) (hn : pc + 1 = n) (he : h.2 a = some (.inl (.object C, N, .inr (.inr (.inr (.inr f)))))) (hi : i = nI j) (hj : j < N) (hN : N < 2147483648)
    (k : WP Γ M rm n lo (va_rf (f j) :: st) h Q) : WP Γ M rm pc lo (.int i :: .ref a :: st) h Q := by
  subst hn
  obtain ⟨g1, g2⟩ := ax_in hj hN hi
  refine wp_goC (fun p e R s m args below meth c H locs cells slots Z ls hx hb _ _ _ _ _ _ _ hR _ _ w => ?_) k
  obtain ⟨cell, q1, q2, q3, q4, q5, q6, -⟩ := hR.2.2.2 a _ he
  exact W.aald (ty := .object C) hx hb q1 q2 rfl q3 (by rw [q5]; exact g1) (by rw [g2]; exact q6 j hj) rfl rfl hd w
theorem wp_alen {a : Nat} {ty : FieldType} {x : vp_A} {v : Int32} (hd : decode M.2.1 pc = .ok (.arraylength, 1)) (hn : pc + 1 = n) (he : h.2 a = some (.inl (ty, x))) (hv : nI x.1 = v)
    (k : WP Γ M rm n lo (.int v :: st) h Q) : WP Γ M rm pc lo (.ref a :: st) h Q := by
  subst hn
  refine wp_goC (fun p e R s m args below meth c H locs cells slots Z ls hx hb _ _ _ _ _ _ _ hR _ _ w => ?_) k
  obtain ⟨cell, q1, q2, q3, q4, q5, q6, -⟩ := hR.2.2.2 a _ he
  exact W.alen hx hb q1 q2 (by rw [q5]; exact hv) rfl rfl hd w
/-- what a store into an array leaves -/
theorem ax_stored {U : State} {H1 : Heap} {a j : Nat} {ty : FieldType} {x x' : vp_A} {v : Value} {cell : Cell} (q2 : U.isArrayOf cell ty) (q3 : cell.vm ≠ .unknown) (q4 : Γ.2.1 ≤ a → cell.vm = .none) (q5 : cell.slots.size = x.1) (q6 : ∀ j : Nat, j < x.1 → cell.slots[j]? = some (ax_el x j)) (q7 : ∀ C : String, ty = .object C → va_RA U cell.cls ty)
    (e1 : H1[a]? = some (cell.setSlot j v)) (hx : x'.1 = x.1) (hv : ∀ i : Nat, i < x.1 → ax_el x' i = if i = j then v else ax_el x i) : ax_arr Γ U H1 a ty x' := by
  refine ⟨_, e1, q2, q3, q4, ?_, fun i hi => ?_, q7⟩
  · rw [hx, ← q5]
    simp [Cell.setSlot]
  · rw [hx] at hi
    rw [hv i hi]
    show (cell.slots.setIfInBounds j v)[i]? = _
    by_cases hij : i = j
    · subst hij
      rw [if_pos rfl]
      simp [Array.getElem?_setIfInBounds, q5, hi]
    · rw [if_neg hij, Array.getElem?_setIfInBounds_ne (fun q => hij q.symm)]
      exact q6 i hi
theorem wp_iast {a N : Nat} (j : Nat) {f : Nat → Int32} {i x : Int32} (hd : decode M.2.1 pc = .ok (.iastore, 1)) (hn : pc + 1 = n) (he : h.2 a = some (.inl (.int, N, .inl f))) (hA : Γ.2.1 ≤ a) (hi : i = nI j) (hj : j < N) (hN : N < 2147483648)
    (k : WP Γ M rm n lo st (ax_set h a (.inl (.int, N, .inl (upd f j x)))) Q) : WP Γ M rm pc lo (.int x :: .int i :: .ref a :: st) h Q := by
  subst hn
  obtain ⟨g1, g2⟩ := ax_in hj hN hi
  intro p e R s m args below meth c C hf hl H locs cells slots ls mc ms h1 h2 h3 h4 hlo hR hS
  obtain ⟨cell, q1, q2, q3, q4, q5, q6, q7⟩ := hR.2.2.2 a _ he
  refine W.iast C.1 C.2.1 q1 q2 q3 (by rw [q5]; exact g1) rfl rfl hd fun H1 e1 z1 o1 => ?_
  rw [g2] at e1 ⊢
  exact k p e R s m args below meth c C hf hl H1 _ cells slots ls mc ms h1 h2 h3 h4 hlo (hR.set hA z1 o1 (ax_stored q2 q3 q4 q5 q6 q7 e1 rfl (fun i _ => by simp only [ax_el, upd]; split <;> rfl))) (hS.put z1 o1 hA)
theorem wp_last {a N : Nat} (j : Nat) {f : Nat → Int64} {i : Int32} {x : Int64} (hd : decode M.2.1 pc = .ok (.lastore, 1)) (hn : pc + 1 = n) (he : h.2 a = some (.inl (.long, N, .inr (.inl f)))) (hA : Γ.2.1 ≤ a) (hi : i = nI j) (hj : j < N) (hN : N < 2147483648)
    (k : WP Γ M rm n lo st (ax_set h a (.inl (.long, N, .inr (.inl (vp_updL f j x))))) Q) : WP Γ M rm pc lo (.long x :: .int i :: .ref a :: st) h Q := by
  subst hn
  obtain ⟨g1, g2⟩ := ax_in hj hN hi
  intro p e R s m args below meth c C hf hl H locs cells slots ls mc ms h1 h2 h3 h4 hlo hR hS
  obtain ⟨cell, q1, q2, q3, q4, q5, q6, q7⟩ := hR.2.2.2 a _ he
  refine W.last C.1 C.2.1 q1 q2 q3 (by rw [q5]; exact g1) rfl rfl hd fun H1 e1 z1 o1 => ?_
  rw [g2] at e1 ⊢
  exact k p e R s m args below meth c C hf hl H1 _ cells slots ls mc ms h1 h2 h3 h4 hlo (hR.set hA z1 o1 (ax_stored q2 q3 q4 q5 q6 q7 e1 rfl (fun i _ => by simp only [ax_el, vp_updL]; split <;> rfl))) (hS.put z1 o1 hA)
theorem wp_fast {a N : Nat} (j : Nat) {f : Nat → UInt32} {i : Int32} {x : UInt32} (hd : decode M.2.1 pc = .ok (.fastore, 1)) (hn : pc + 1 = n) (he : h.2 a = some (.inl (.float, N, .inr (.inr (.inl f))))) (hA : Γ.2.1 ≤ a) (hi : i = nI j) (hj : j < N) (hN : N < 2147483648)
    (k : WP Γ M rm n lo st (ax_set h a (.inl (.float, N, .inr (.inr (.inl (vf_upd f j x)))))) Q) : WP Γ M rm pc lo (.float x :: .int i :: .ref a :: st) h Q := by
  subst hn
  obtain ⟨g1, g2⟩ := ax_in hj hN hi
  intro p e R s m args below meth c C hf hl H locs cells slots ls mc ms h1 h2 h3 h4 hlo hR hS
  obtain ⟨cell, q1, q2, q3, q4, q5, q6, q7⟩ := hR.2.2.2 a _ he
  refine W.fast C.1 C.2.1 q1 q2 q3 (by rw [q5]; exact g1) rfl rfl hd fun H1 e1 z1 o1 => ?_
  rw [g2] at e1 ⊢
  exact k p e R s m args below meth c C hf hl H1 _ cells slots ls mc ms h1 h2 h3 h4 hlo (hR.set hA z1 o1 (ax_stored q2 q3 q4 q5 q6 q7 e1 rfl (fun i _ => by simp only [ax_el, vf_upd]; split <;> rfl))) (hS.put z1 o1 hA)
theorem wp_dast {a N : Nat} (j : Nat) {f : Nat → UInt64} {i : Int32} {x : UInt64} (hd : decode M.2.1 pc = .ok (.dastore, 1)) (hn : pc + 1 = n) (he : h.2 a = some (.inl (.double, N, .inr (.inr (.inr (.inl f)))))) (hA : Γ.2.1 ≤ a) (hi : i = nI j) (hj : j < N) (hN : N < 2147483648)
    (k : WP Γ M rm n lo st (ax_set h a (.inl (.double, N, .inr (.inr (.inr (.inl (vf_upd f j x))))))) Q) : WP Γ M rm pc lo (.double x :: .int i :: .ref a :: st) h Q := by
  subst hn
  obtain ⟨g1, g2⟩ := ax_in hj hN hi
  intro p e R s m args below meth c C hf hl H locs cells slots ls mc ms h1 h2 h3 h4 hlo hR hS
  obtain ⟨cell, q1, q2, q3, q4, q5, q6, q7⟩ := hR.2.2.2 a _ he
  refine W.dast C.1 C.2.1 q1 q2 q3 (by rw [q5]; exact g1) rfl rfl hd fun H1 e1 z1 o1 => ?_
  rw [g2] at e1 ⊢
  exact k p e R s m args below meth c C hf hl H1 _ cells slots ls mc ms h1 h2 h3 h4 hlo (hR.set hA z1 o1 (ax_stored q2 q3 q4 q5 q6 q7 e1 rfl (fun i _ => by simp only [ax_el, vf_upd]; split <;> rfl))) (hS.put z1 o1 hA)
theorem wp_zast {a N : Nat} (j : Nat) {f : Nat → Int32} {i x : Int32} (hd : decode M.2.1 pc = .ok (.bastore, 1)) (hn : pc + 1 = n) (he : h.2 a = some (.inl (.boolean, N, .inl f))) (hA : Γ.2.1 ≤ a) (hi : i = nI j) (hj : j < N) (hN : N < 2147483648) (hx9 : narrow .boolean (.int x) = .int x)
    (k : WP Γ M rm n lo st (ax_set h a (.inl (.boolean, N, .inl (upd f j x)))) Q) : WP Γ M rm pc lo (.int x :: .int i :: .ref a :: st) h Q := by
  subst hn
  obtain ⟨g1, g2⟩ := ax_in hj hN hi
  intro p e R s m args below meth c C hf hl H locs cells slots ls mc ms h1 h2 h3 h4 hlo hR hS
  obtain ⟨cell, q1, q2, q3, q4, q5, q6, q7⟩ := hR.2.2.2 a _ he
  refine W.zast C.1 C.2.1 q1 q2 q3 (by rw [q5]; exact g1) rfl rfl hd fun H1 e1 z1 o1 => ?_
  rw [g2, hx9] at e1
  rw [g2]
  exact k p e R s m args below meth c C hf hl H1 _ cells slots ls mc ms h1 h2 h3 h4 hlo (hR.set hA z1 o1 (ax_stored q2 q3 q4 q5 q6 q7 e1 rfl (fun i _ => by simp only [ax_el, upd]; split <;> rfl))) (hS.put z1 o1 hA)
theorem wp_bast {a N : Nat} (j : Nat) {f : Nat → Int32} {i x y : Int32} (hd : decode M.2.1 pc = .ok (.bastore, 1)) (hn : pc + 1 = n) (he : h.2 a = some (.inl (.byte, N, .inl f))) (hA : Γ.2.1 ≤ a) (hi : i = nI j) (hj : j < N) (hN : N < 2147483648) (hx9 : x.toInt8.toInt32 = y)
    (k : WP Γ M rm n lo st (ax_set h a (.inl (.byte, N, .inl (upd f j y)))) Q) : WP Γ M rm pc lo (.int x :: .int i :: .ref a :: st) h Q := by
  subst hn
  obtain ⟨g1, g2⟩ := ax_in hj hN hi
  intro p e R s m args below meth c C hf hl H locs cells slots ls mc ms h1 h2 h3 h4 hlo hR hS
  obtain ⟨cell, q1, q2, q3, q4, q5, q6, q7⟩ := hR.2.2.2 a _ he
  refine W.bast C.1 C.2.1 q1 q2 q3 (by rw [q5]; exact g1) rfl rfl hd fun H1 e1 z1 o1 => ?_
  rw [g2, narrow_byte, hx9] at e1
  rw [g2]
  exact k p e R s m args below meth c C hf hl H1 _ cells slots ls mc ms h1 h2 h3 h4 hlo (hR.set hA z1 o1 (ax_stored q2 q3 q4 q5 q6 q7 e1 rfl (fun i _ => by simp only [ax_el, upd]; split <;> rfl))) (hS.put z1 o1 hA)
end
