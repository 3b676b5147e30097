/-! ===== new cells at a known address ===== -/
def ax_newA (h : AH) (a : Nat) (e : AE) : AH := (a + 1, fun x => if x = a then some e else h.2 x)
theorem ax_newA_self (h : AH) (a : Nat) (e : AE) : (ax_newA h a e).2 a = some e := by simp [ax_newA]
theorem ax_newA_ne (h : AH) (a : Nat) {b : Nat} (e : AE) (hb : b ≠ a) : (ax_newA h a e).2 b = h.2 b := by simp [ax_newA, hb]
theorem ax_newA_1 (h : AH) (a : Nat) (e : AE) : (ax_newA h a e).1 = a + 1 := rfl
section
variable {Γ : GE} {M : MD} {rm : RM} {pc n t : Nat} {lo lo' : List (Option Value)} {st : List Value} {h : AH} {Q : PO}
theorem wp_newA (a : Nat) {idx ci : Nat} {fs : List Value} (hd : decode M.2.1 pc = .ok (.new idx, 3)) (hn : pc + 3 = n) (ha : h.1 = a) (hL : ax_NL M.1.cls idx ci fs) (hc1 : Nat.ble 1 rm.2.2.1 = true) (hs1 : Nat.ble fs.length rm.2.2.2 = true)
    (kk : WP Γ M (rm.1, rm.2.1, rm.2.2.1 - 1, rm.2.2.2 - fs.length) n lo (.ref a :: st) (ax_newA h a (.inr (ci, fs))) Q) : WP Γ M rm pc lo st h Q := by
  subst ha
  exact wp_new hd hn hL (Nat.le_of_ble_eq_true hc1) (Nat.le_of_ble_eq_true hs1) kk
theorem wp_newaA (a N : Nat) {atype : ArrayType} {ty : FieldType} {i : Int32} (x : vp_A) (hd : decode M.2.1 pc = .ok (.newarray atype, 2)) (hn : pc + 2 = n) (ha : h.1 = a) (hty : newarray.typeOf atype = ty) (hac : Cond.arrayClass (newarray.typeOf atype) ∈ TB) (hi : i = nI N) (hN : N < 100000) (hx : x.1 = N) (hel : ∀ j, ax_el x j = defaultValue ty) (hno : ∀ C : String, ty ≠ .object C) (hcb : componentBytes ty ≤ 8) (hc1 : Nat.ble 1 rm.2.2.1 = true) (hs1 : Nat.ble N rm.2.2.2 = true)
    (kk : WP Γ M (rm.1, rm.2.1, rm.2.2.1 - 1, rm.2.2.2 - N) n lo (.ref a :: st) (ax_newA h a (.inl (ty, x))) Q) : WP Γ M rm pc lo (.int i :: st) h Q := by
  subst ha
  exact wp_newa hd hn hty hac hi hN hx hel hno hcb (Nat.le_of_ble_eq_true hc1) (Nat.le_of_ble_eq_true hs1) kk
end
