/-! ===== System.arraycopy of a whole array; handlers ===== -/
theorem ax_pairs : ∀ (xs : List Value) (i : Nat) (c : Cell) (k : Nat), k < c.slots.size → (c.storePairs 0 (xs.zipIdx i)).slots[k]? = if i ≤ k ∧ k < i + xs.length then xs[k - i]? else c.slots[k]?
  | [], i, c, k, hk => by
    show c.slots[k]? = _
    rw [if_neg (by simp only [List.length_nil]; omega)]
  | x :: xs, i, c, k, hk => by
    rw [List.zipIdx_cons]
    show ((c.setSlot (0 + i) x).storePairs 0 (xs.zipIdx (i + 1))).slots[k]? = _
    have hz : (c.setSlot (0 + i) x).slots.size = c.slots.size := by simp [Cell.setSlot]
    rw [ax_pairs xs (i + 1) _ k (by rw [hz]; exact hk)]
    by_cases h1 : k = i
    · subst h1
      rw [if_neg (by omega), if_pos (by simp only [List.length_cons]; omega)]
      show (c.slots.setIfInBounds (0 + k) x)[k]? = _
      rw [Nat.zero_add, Nat.sub_self, List.getElem?_cons_zero]
      simp [Array.getElem?_setIfInBounds, hk]
    · by_cases h2 : i + 1 ≤ k ∧ k < i + 1 + xs.length
      · rw [if_pos h2, if_pos (by simp only [List.length_cons]; omega)]
        rw [show k - i = (k - (i + 1)) + 1 by omega, List.getElem?_cons_succ]
      · rw [if_neg h2, if_neg (by simp only [List.length_cons]; omega)]
        show (c.slots.setIfInBounds (0 + i) x)[k]? = _
        rw [Nat.zero_add, Array.getElem?_setIfInBounds_ne (fun q => h1 q.symm)]
section
variable {Γ : GE} {M M' : MD} {rm rm' : RM} {pc n t : Nat} {lo lo' : List (Option Value)} {st : List Value} {h : AH} {Q Q' : PO} {As : List Value}
theorem wp_copyAll {idx N a0 a : Nat} {ty : FieldType} {x y : vp_A} {i0 i1 i : Int32} (hd : decode M.2.1 pc = .ok (.invokestatic idx, 3)) (hn : pc + 3 = n) (hl : Cond.methodLink M.1.cls idx arraycopyName ∈ TB) (hnat : Cond.native arraycopyName ∈ TB) (hst9 : Cond.static arraycopyName ∈ TB) (hini : Cond.initialized "java/lang/System" ∈ TB)
    (he0 : h.2 a0 = some (.inl (ty, x))) (he1 : h.2 a = some (.inl (ty, y))) (hx : x.1 = N) (hy : y.1 = N) (hA : Γ.2.1 ≤ a) (hprim : refKind ty = false) (hft : ∀ j, fits ty (ax_el x j) = true) (htk : ∀ (U : State) (c0 : ClassId) (j : Nat), U.takes c0 (ax_el x j)) (hz0 : i0 = 0) (hz1 : i1 = 0) (hi : i = nI N) (hN : N < 100000) (hf9 : Nat.ble 1 rm.1 = true) (hlo9 : Nat.ble ((st.map fun v => v.category).sum + (nativeFrameWords "java/lang/System" "arraycopy" 5 + 11)) rm.2.1 = true)
    (k : WP Γ M rm n lo st (ax_set h a (.inl (ty, x))) Q) : WP Γ M rm pc lo (.int i :: .int i1 :: .ref a :: .int i0 :: .ref a0 :: st) h Q := by
  subst hn
  have f1 := Nat.le_of_ble_eq_true hf9
  have f2 := Nat.le_of_ble_eq_true hlo9
  intro p e R s m args below meth c C0 hf hl0 H locs cells slots ls mc ms h1 h2 h3 h4 hlo hR hS
  have ht := C0.2.2.2.2.1
  obtain ⟨cs, q1, q2, q3, q4, q5, q6, q7⟩ := hR.2.2.2 a0 _ he0
  obtain ⟨cd, y1, y2, y3, y4, y5, y6, y7⟩ := hR.2.2.2 a _ he1
  obtain ⟨qs, ks, hks, cms, hkks⟩ := id q2
  obtain ⟨qd, kd, hkd, cmd, hkkd⟩ := id y2
  have hiN : i.toNatClampNeg = N := by rw [hi]; exact nI_clamp (by omega)
  have hiI : i.toInt = (N : Int) := by rw [hi]; exact nI_toInt (by omega)
  have z0 : i0.toNatClampNeg = 0 := by rw [hz0]; rfl
  have z1 : i1.toNatClampNeg = 0 := by rw [hz1]; rfl
  have w0 : i0.toInt = 0 := by rw [hz0]; rfl
  have w1 : i1.toInt = 0 := by rw [hz1]; rfl
  intro T hT X
  obtain ⟨vm', X', step⟩ := X.arraycopy C0.1 C0.2.2.2.1 (ht _ hl) (ht _ hnat) (ht _ hst9) (ht _ hini) (src := a0) (dst := a) (cs := cs) (cd := cd) (srcPos := i0) (destPos := i1) (n := i) (by rw [hT]; exact q1) (by rw [hT]; exact y1)
    qs qd q3 y3 hks hkd hkks hkkd (by simp [hprim]) (by rw [hz0]; decide) (by rw [hz1]; decide) (by rw [hi]; exact nI_pos (by omega))
    (by rw [w0, hiI, q5]; show ¬ _ > ((x.1 : Nat) : Int); rw [hx]; omega)
    (by rw [w1, hiI, y5]; show ¬ _ > ((y.1 : Nat) : Int); rw [hy]; omega)
    (fun vm₁ _ j hj => by
      have e9 : cs.slots.getD (i0.toNatClampNeg + j) .null = ax_el x j := by
        rw [z0, Nat.zero_add, Array.getD_eq_getD_getElem?, q6 j (by show j < x.1; rw [hx, ← hiN]; exact hj)]
        rfl
      rw [e9]
      exact ⟨hft j, htk _ _ j⟩)
    (g := F0 m pc ls (.int i :: .int i1 :: .ref a :: .int i0 :: .ref a0 :: st)) rfl (by rw [C0.2.2.1]; exact hlo.1) (rest := st) rfl (by rw [C0.2.1]; exact hd) (by omega) (by show 2 * 0 + _ + _ ≤ _; omega)
  have hlt : a < H.size := (Array.getElem?_eq_some_iff.mp y1).1
  have hheap : ((T.setVm vm').setCell a (copied cs cd i0 i1 i)).heap = H.setIfInBounds a (copied cs cd i0 i1 i) := by rw [← hT]; rfl
  have oq : ∀ q : Nat, q ≠ a → (H.setIfInBounds a (copied cs cd i0 i1 i))[q]? = H[q]? := fun q hq => by simp [Array.getElem?_setIfInBounds, Ne.symm hq]
  have ea : (H.setIfInBounds a (copied cs cd i0 i1 i))[a]? = some (copied cs cd i0 i1 i) := by simp [Array.getElem?_setIfInBounds, hlt]
  have ec : copied cs cd i0 i1 i = cd.storePairs 0 ((cs.stretch 0 N).zipIdx 0) := by
    show cd.storeRun i1.toNatClampNeg (cs.stretch i0.toNatClampNeg i.toNatClampNeg) = _
    rw [z0, z1, hiN]
    rfl
  obtain ⟨c1, c2, c3, -, -⟩ := Cell.storePairs_facts cd 0 ((cs.stretch 0 N).zipIdx 0)
  have hnew : ax_arr Γ s (H.setIfInBounds a (copied cs cd i0 i1 i)) a ty x := by
    refine ⟨_, ea, ?_, ?_, ?_, ?_, fun j hj => ?_, ?_⟩
    · rw [ec]
      exact ⟨by rw [c2]; exact qd, kd, by rw [c1]; exact hkd, cmd, hkkd⟩
    · rw [ec, c2]; exact y3
    · rw [ec, c2]; exact y4
    · rw [ec, c3, y5]
      exact hy.trans hx.symm
    · rw [ec, ax_pairs _ 0 cd j (by rw [y5]; show j < y.1; rw [hy, ← hx]; exact hj)]
      have hj' : j < N := by rw [← hx]; exact hj
      have hlen : (cs.stretch 0 N).length = N := by simp [Cell.stretch]
      rw [if_pos (by rw [hlen]; omega), Nat.sub_zero]
      show ((List.range N).map fun i => cs.slots.getD (0 + i) .null)[j]? = _
      rw [List.getElem?_map, List.getElem?_range hj']
      show some (cs.slots.getD (0 + j) .null) = _
      rw [Nat.zero_add, Array.getD_eq_getD_getElem?, q6 j hj]
      rfl
    · rw [ec, c1]; exact y7
  obtain ⟨t, a1, b1⟩ := k p e R s m args below meth c C0 hf hl0 (H.setIfInBounds a (copied cs cd i0 i1 i)) _ cells slots ls mc ms h1 h2 h3 h4 hlo (hR.set hA (by simp) oq hnew) ⟨by simp; exact hS.1, fun q g1 g2 => by
      rw [oq q (fun e => g2 (by rw [e]; exact hA))]
      exact hS.2.1 q g1 g2, fun q hq => by
      rcases List.mem_append.mp hq with h | h
      · exact hS.2.2 q h
      · obtain ⟨z, -, hz⟩ := List.mem_map.mp h
        rw [← hz]
        exact hA⟩ _ hheap X'
  exact ⟨t, step t a1, b1⟩
/-! a call inside a try: what the handlers do -/
/-- the handler row that takes an exception of class E at pc: rows (start, end, handler, class index) with the class names of their indices -/
def ax_take (own : String) (E : String) (pc : Nat) : List (Nat × Nat × Nat × Nat) → List String → Option Nat
  | [], _ => none
  | _, [] => none
  | x :: r, nm :: nms => if x.1 ≤ pc ∧ pc < x.2.1 then (if nm = E then some x.2.2.1 else ax_take own E pc r nms) else ax_take own E pc r nms
/-- what follows a call inside a try -/
def ax_KT (Γ : GE) (M : MD) (rm : RM) (n : Nat) (lo : List (Option Value)) (rest : List Value) (Q : PO) (H1 : String → Nat → Prop) : PO := fun o h' => match o with
  | .inl (some v) => WP Γ M rm n lo (v :: rest) h' Q
  | .inl none => WP Γ M rm n lo rest h' Q
  | .inr E => ∃ hp : Nat, H1 E hp ∧ ∀ q : Nat, WP Γ M rm hp lo [.ref q] h' Q
end
