/-! ===== calls with the arguments read off the stack ===== -/
section
variable {Γ : GE} {M M' : MD} {rm rm' : RM} {pc n t : Nat} {lo lo' : List (Option Value)} {h : AH} {Q Q' : PO}
theorem wp_callV0 {idx b ci : Nat} {fs rest : List Value} (hT0 : M.2.2.2.2 = []) (hd : decode M.2.1 pc = .ok (.invokevirtual idx, 3)) (hn : pc + 3 = n) (hL : ax_CV M.1.cls idx M' 0) (hb : h.2 b = some (.inr (ci, fs))) (hci : (vwCl[ci]?).map (·.1) = some M'.1.cls) (hc : ([] : List Value).all (fun v => v.category == 1) = true) (hml : Nat.ble 1 M'.2.2.1 = true) (hrs : Nat.ble ((rest.map fun v => v.category).sum) 8 = true) (hfit : ax_fit rm rm' M'.2.2.1 = true)
    (kk : WP Γ M' rm' 0 (ax_en (.ref b :: []) M'.2.2.1) [] h (ax_K Γ M (rm.1, rm.2.1, rm.2.2.1 - rm'.2.2.1, rm.2.2.2 - rm'.2.2.2) n lo rest Q)) : WP Γ M rm pc lo (.ref b :: rest) h Q :=
  wp_callV hT0 hd hn hL [] rfl rfl hb hci hc hml (Nat.le_of_ble_eq_true hrs) hfit kk
theorem wp_callS0 {idx : Nat} {rest : List Value} (hT0 : M.2.2.2.2 = []) (hd : decode M.2.1 pc = .ok (.invokestatic idx, 3)) (hn : pc + 3 = n) (hL : ax_CS M.1.cls idx M' 0) (hc : ([] : List Value).all (fun v => v.category == 1) = true) (hml : Nat.ble 0 M'.2.2.1 = true) (hrs : Nat.ble ((rest.map fun v => v.category).sum) 8 = true) (hfit : ax_fit rm rm' M'.2.2.1 = true)
    (kk : WP Γ M' rm' 0 (ax_en [] M'.2.2.1) [] h (ax_K Γ M (rm.1, rm.2.1, rm.2.2.1 - rm'.2.2.1, rm.2.2.2 - rm'.2.2.2) n lo rest Q)) : WP Γ M rm pc lo (rest) h Q :=
  wp_callS hT0 hd hn hL [] rfl rfl hc hml (Nat.le_of_ble_eq_true hrs) hfit kk
theorem wp_callV1 {x1 : Value} {idx b ci : Nat} {fs rest : List Value} (hT0 : M.2.2.2.2 = []) (hd : decode M.2.1 pc = .ok (.invokevirtual idx, 3)) (hn : pc + 3 = n) (hL : ax_CV M.1.cls idx M' 1) (hb : h.2 b = some (.inr (ci, fs))) (hci : (vwCl[ci]?).map (·.1) = some M'.1.cls) (hc : ([x1] : List Value).all (fun v => v.category == 1) = true) (hml : Nat.ble 2 M'.2.2.1 = true) (hrs : Nat.ble ((rest.map fun v => v.category).sum) 8 = true) (hfit : ax_fit rm rm' M'.2.2.1 = true)
    (kk : WP Γ M' rm' 0 (ax_en (.ref b :: [x1]) M'.2.2.1) [] h (ax_K Γ M (rm.1, rm.2.1, rm.2.2.1 - rm'.2.2.1, rm.2.2.2 - rm'.2.2.2) n lo rest Q)) : WP Γ M rm pc lo (x1 :: .ref b :: rest) h Q :=
  wp_callV hT0 hd hn hL [x1] rfl rfl hb hci hc hml (Nat.le_of_ble_eq_true hrs) hfit kk
theorem wp_callS1 {x1 : Value} {idx : Nat} {rest : List Value} (hT0 : M.2.2.2.2 = []) (hd : decode M.2.1 pc = .ok (.invokestatic idx, 3)) (hn : pc + 3 = n) (hL : ax_CS M.1.cls idx M' 1) (hc : ([x1] : List Value).all (fun v => v.category == 1) = true) (hml : Nat.ble 1 M'.2.2.1 = true) (hrs : Nat.ble ((rest.map fun v => v.category).sum) 8 = true) (hfit : ax_fit rm rm' M'.2.2.1 = true)
    (kk : WP Γ M' rm' 0 (ax_en [x1] M'.2.2.1) [] h (ax_K Γ M (rm.1, rm.2.1, rm.2.2.1 - rm'.2.2.1, rm.2.2.2 - rm'.2.2.2) n lo rest Q)) : WP Γ M rm pc lo (x1 :: rest) h Q :=
  wp_callS hT0 hd hn hL [x1] rfl rfl hc hml (Nat.le_of_ble_eq_true hrs) hfit kk
theorem wp_callV2 {x1 x2 : Value} {idx b ci : Nat} {fs rest : List Value} (hT0 : M.2.2.2.2 = []) (hd : decode M.2.1 pc = .ok (.invokevirtual idx, 3)) (hn : pc + 3 = n) (hL : ax_CV M.1.cls idx M' 2) (hb : h.2 b = some (.inr (ci, fs))) (hci : (vwCl[ci]?).map (·.1) = some M'.1.cls) (hc : ([x1, x2] : List Value).all (fun v => v.category == 1) = true) (hml : Nat.ble 3 M'.2.2.1 = true) (hrs : Nat.ble ((rest.map fun v => v.category).sum) 8 = true) (hfit : ax_fit rm rm' M'.2.2.1 = true)
    (kk : WP Γ M' rm' 0 (ax_en (.ref b :: [x1, x2]) M'.2.2.1) [] h (ax_K Γ M (rm.1, rm.2.1, rm.2.2.1 - rm'.2.2.1, rm.2.2.2 - rm'.2.2.2) n lo rest Q)) : WP Γ M rm pc lo (x2 :: x1 :: .ref b :: rest) h Q :=
  wp_callV hT0 hd hn hL [x1, x2] rfl rfl hb hci hc hml (Nat.le_of_ble_eq_true hrs) hfit kk
theorem wp_callS2 {x1 x2 : Value} {idx : Nat} {rest : List Value} (hT0 : M.2.2.2.2 = []) (hd : decode M.2.1 pc = .ok (.invokestatic idx, 3)) (hn : pc + 3 = n) (hL : ax_CS M.1.cls idx M' 2) (hc : ([x1, x2] : List Value).all (fun v => v.category == 1) = true) (hml : Nat.ble 2 M'.2.2.1 = true) (hrs : Nat.ble ((rest.map fun v => v.category).sum) 8 = true) (hfit : ax_fit rm rm' M'.2.2.1 = true)
    (kk : WP Γ M' rm' 0 (ax_en [x1, x2] M'.2.2.1) [] h (ax_K Γ M (rm.1, rm.2.1, rm.2.2.1 - rm'.2.2.1, rm.2.2.2 - rm'.2.2.2) n lo rest Q)) : WP Γ M rm pc lo (x2 :: x1 :: rest) h Q :=
  wp_callS hT0 hd hn hL [x1, x2] rfl rfl hc hml (Nat.le_of_ble_eq_true hrs) hfit kk
theorem wp_callV3 {x1 x2 x3 : Value} {idx b ci : Nat} {fs rest : List Value} (hT0 : M.2.2.2.2 = []) (hd : decode M.2.1 pc = .ok (.invokevirtual idx, 3)) (hn : pc + 3 = n) (hL : ax_CV M.1.cls idx M' 3) (hb : h.2 b = some (.inr (ci, fs))) (hci : (vwCl[ci]?).map (·.1) = some M'.1.cls) (hc : ([x1, x2, x3] : List Value).all (fun v => v.category == 1) = true) (hml : Nat.ble 4 M'.2.2.1 = true) (hrs : Nat.ble ((rest.map fun v => v.category).sum) 8 = true) (hfit : ax_fit rm rm' M'.2.2.1 = true)
    (kk : WP Γ M' rm' 0 (ax_en (.ref b :: [x1, x2, x3]) M'.2.2.1) [] h (ax_K Γ M (rm.1, rm.2.1, rm.2.2.1 - rm'.2.2.1, rm.2.2.2 - rm'.2.2.2) n lo rest Q)) : WP Γ M rm pc lo (x3 :: x2 :: x1 :: .ref b :: rest) h Q :=
  wp_callV hT0 hd hn hL [x1, x2, x3] rfl rfl hb hci hc hml (Nat.le_of_ble_eq_true hrs) hfit kk
theorem wp_callS3 {x1 x2 x3 : Value} {idx : Nat} {rest : List Value} (hT0 : M.2.2.2.2 = []) (hd : decode M.2.1 pc = .ok (.invokestatic idx, 3)) (hn : pc + 3 = n) (hL : ax_CS M.1.cls idx M' 3) (hc : ([x1, x2, x3] : List Value).all (fun v => v.category == 1) = true) (hml : Nat.ble 3 M'.2.2.1 = true) (hrs : Nat.ble ((rest.map fun v => v.category).sum) 8 = true) (hfit : ax_fit rm rm' M'.2.2.1 = true)
    (kk : WP Γ M' rm' 0 (ax_en [x1, x2, x3] M'.2.2.1) [] h (ax_K Γ M (rm.1, rm.2.1, rm.2.2.1 - rm'.2.2.1, rm.2.2.2 - rm'.2.2.2) n lo rest Q)) : WP Γ M rm pc lo (x3 :: x2 :: x1 :: rest) h Q :=
  wp_callS hT0 hd hn hL [x1, x2, x3] rfl rfl hc hml (Nat.le_of_ble_eq_true hrs) hfit kk
theorem wp_callV4 {x1 x2 x3 x4 : Value} {idx b ci : Nat} {fs rest : List Value} (hT0 : M.2.2.2.2 = []) (hd : decode M.2.1 pc = .ok (.invokevirtual idx, 3)) (hn : pc + 3 = n) (hL : ax_CV M.1.cls idx M' 4) (hb : h.2 b = some (.inr (ci, fs))) (hci : (vwCl[ci]?).map (·.1) = some M'.1.cls) (hc : ([x1, x2, x3, x4] : List Value).all (fun v => v.category == 1) = true) (hml : Nat.ble 5 M'.2.2.1 = true) (hrs : Nat.ble ((rest.map fun v => v.category).sum) 8 = true) (hfit : ax_fit rm rm' M'.2.2.1 = true)
    (kk : WP Γ M' rm' 0 (ax_en (.ref b :: [x1, x2, x3, x4]) M'.2.2.1) [] h (ax_K Γ M (rm.1, rm.2.1, rm.2.2.1 - rm'.2.2.1, rm.2.2.2 - rm'.2.2.2) n lo rest Q)) : WP Γ M rm pc lo (x4 :: x3 :: x2 :: x1 :: .ref b :: rest) h Q :=
  wp_callV hT0 hd hn hL [x1, x2, x3, x4] rfl rfl hb hci hc hml (Nat.le_of_ble_eq_true hrs) hfit kk
theorem wp_callS4 {x1 x2 x3 x4 : Value} {idx : Nat} {rest : List Value} (hT0 : M.2.2.2.2 = []) (hd : decode M.2.1 pc = .ok (.invokestatic idx, 3)) (hn : pc + 3 = n) (hL : ax_CS M.1.cls idx M' 4) (hc : ([x1, x2, x3, x4] : List Value).all (fun v => v.category == 1) = true) (hml : Nat.ble 4 M'.2.2.1 = true) (hrs : Nat.ble ((rest.map fun v => v.category).sum) 8 = true) (hfit : ax_fit rm rm' M'.2.2.1 = true)
    (kk : WP Γ M' rm' 0 (ax_en [x1, x2, x3, x4] M'.2.2.1) [] h (ax_K Γ M (rm.1, rm.2.1, rm.2.2.1 - rm'.2.2.1, rm.2.2.2 - rm'.2.2.2) n lo rest Q)) : WP Γ M rm pc lo (x4 :: x3 :: x2 :: x1 :: rest) h Q :=
  wp_callS hT0 hd hn hL [x1, x2, x3, x4] rfl rfl hc hml (Nat.le_of_ble_eq_true hrs) hfit kk
theorem wp_callV5 {x1 x2 x3 x4 x5 : Value} {idx b ci : Nat} {fs rest : List Value} (hT0 : M.2.2.2.2 = []) (hd : decode M.2.1 pc = .ok (.invokevirtual idx, 3)) (hn : pc + 3 = n) (hL : ax_CV M.1.cls idx M' 5) (hb : h.2 b = some (.inr (ci, fs))) (hci : (vwCl[ci]?).map (·.1) = some M'.1.cls) (hc : ([x1, x2, x3, x4, x5] : List Value).all (fun v => v.category == 1) = true) (hml : Nat.ble 6 M'.2.2.1 = true) (hrs : Nat.ble ((rest.map fun v => v.category).sum) 8 = true) (hfit : ax_fit rm rm' M'.2.2.1 = true)
    (kk : WP Γ M' rm' 0 (ax_en (.ref b :: [x1, x2, x3, x4, x5]) M'.2.2.1) [] h (ax_K Γ M (rm.1, rm.2.1, rm.2.2.1 - rm'.2.2.1, rm.2.2.2 - rm'.2.2.2) n lo rest Q)) : WP Γ M rm pc lo (x5 :: x4 :: x3 :: x2 :: x1 :: .ref b :: rest) h Q :=
  wp_callV hT0 hd hn hL [x1, x2, x3, x4, x5] rfl rfl hb hci hc hml (Nat.le_of_ble_eq_true hrs) hfit kk
theorem wp_callS5 {x1 x2 x3 x4 x5 : Value} {idx : Nat} {rest : List Value} (hT0 : M.2.2.2.2 = []) (hd : decode M.2.1 pc = .ok (.invokestatic idx, 3)) (hn : pc + 3 = n) (hL : ax_CS M.1.cls idx M' 5) (hc : ([x1, x2, x3, x4, x5] : List Value).all (fun v => v.category == 1) = true) (hml : Nat.ble 5 M'.2.2.1 = true) (hrs : Nat.ble ((rest.map fun v => v.category).sum) 8 = true) (hfit : ax_fit rm rm' M'.2.2.1 = true)
    (kk : WP Γ M' rm' 0 (ax_en [x1, x2, x3, x4, x5] M'.2.2.1) [] h (ax_K Γ M (rm.1, rm.2.1, rm.2.2.1 - rm'.2.2.1, rm.2.2.2 - rm'.2.2.2) n lo rest Q)) : WP Γ M rm pc lo (x5 :: x4 :: x3 :: x2 :: x1 :: rest) h Q :=
  wp_callS hT0 hd hn hL [x1, x2, x3, x4, x5] rfl rfl hc hml (Nat.le_of_ble_eq_true hrs) hfit kk
theorem wp_callV6 {x1 x2 x3 x4 x5 x6 : Value} {idx b ci : Nat} {fs rest : List Value} (hT0 : M.2.2.2.2 = []) (hd : decode M.2.1 pc = .ok (.invokevirtual idx, 3)) (hn : pc + 3 = n) (hL : ax_CV M.1.cls idx M' 6) (hb : h.2 b = some (.inr (ci, fs))) (hci : (vwCl[ci]?).map (·.1) = some M'.1.cls) (hc : ([x1, x2, x3, x4, x5, x6] : List Value).all (fun v => v.category == 1) = true) (hml : Nat.ble 7 M'.2.2.1 = true) (hrs : Nat.ble ((rest.map fun v => v.category).sum) 8 = true) (hfit : ax_fit rm rm' M'.2.2.1 = true)
    (kk : WP Γ M' rm' 0 (ax_en (.ref b :: [x1, x2, x3, x4, x5, x6]) M'.2.2.1) [] h (ax_K Γ M (rm.1, rm.2.1, rm.2.2.1 - rm'.2.2.1, rm.2.2.2 - rm'.2.2.2) n lo rest Q)) : WP Γ M rm pc lo (x6 :: x5 :: x4 :: x3 :: x2 :: x1 :: .ref b :: rest) h Q :=
  wp_callV hT0 hd hn hL [x1, x2, x3, x4, x5, x6] rfl rfl hb hci hc hml (Nat.le_of_ble_eq_true hrs) hfit kk
theorem wp_callS6 {x1 x2 x3 x4 x5 x6 : Value} {idx : Nat} {rest : List Value} (hT0 : M.2.2.2.2 = []) (hd : decode M.2.1 pc = .ok (.invokestatic idx, 3)) (hn : pc + 3 = n) (hL : ax_CS M.1.cls idx M' 6) (hc : ([x1, x2, x3, x4, x5, x6] : List Value).all (fun v => v.category == 1) = true) (hml : Nat.ble 6 M'.2.2.1 = true) (hrs : Nat.ble ((rest.map fun v => v.category).sum) 8 = true) (hfit : ax_fit rm rm' M'.2.2.1 = true)
    (kk : WP Γ M' rm' 0 (ax_en [x1, x2, x3, x4, x5, x6] M'.2.2.1) [] h (ax_K Γ M (rm.1, rm.2.1, rm.2.2.1 - rm'.2.2.1, rm.2.2.2 - rm'.2.2.2) n lo rest Q)) : WP Γ M rm pc lo (x6 :: x5 :: x4 :: x3 :: x2 :: x1 :: rest) h Q :=
  wp_callS hT0 hd hn hL [x1, x2, x3, x4, x5, x6] rfl rfl hc hml (Nat.le_of_ble_eq_true hrs) hfit kk
end
/-! ===== plain facts ===== -/
theorem ax_up {P : Nat → Prop} (n : Nat) (hs : ∀ j, j ≤ n → (j < n → P (j + 1)) → P j) : ∀ j, j ≤ n → P j := by
  have h : ∀ m j, j + m = n → P j := by
    intro m
    induction m with
    | zero => exact fun j hj => hs j (by omega) (fun q => absurd q (by omega))
    | succ m ih => exact fun j hj => hs j (by omega) (fun q => ih (j + 1) (by omega))
  exact fun j hj => h (n - j) j (by omega)
theorem ax_dn {P : Nat → Prop} (hs : ∀ j, (∀ i, i < j → P i) → P j) : ∀ j, P j := fun j => Nat.strongRecOn j hs
theorem nI_inc (j : Nat) : nI j + Int32.ofInt 1 = nI (j + 1) := nI_1 j
theorem nI_dec (j : Nat) : nI (j + 1) + Int32.ofInt (-1) = nI j := by
  rw [← nI_1 j]
  show nI j + 1 + Int32.ofInt (-1) = nI j
  rw [Int32.add_assoc]
  have : (1 : Int32) + Int32.ofInt (-1) = 0 := by decide
  rw [this, Int32.add_zero]
theorem nI_mul (a b : Nat) : nI a * nI b = nI (a * b) := by
  unfold nI
  rw [Int32.ofNat_mul]
theorem nI_sub {a b : Nat} (h : b ≤ a) : nI a - nI b = nI (a - b) := by
  have e : nI a = nI (a - b) + nI b := by rw [nI_add, Nat.sub_add_cancel h]
  rw [e, Int32.add_sub_cancel]
theorem nI_le9 {a b : Nat} (ha : a < 2147483648) (hb : b < 2147483648) : nI a ≤ nI b ↔ a ≤ b := nI_leI ha hb
theorem nI_lt9 {a b : Nat} (ha : a < 2147483648) (hb : b < 2147483648) : nI a < nI b ↔ a < b := nI_ltI ha hb
theorem nI_eq9 {a b : Nat} (ha : a < 2147483648) (hb : b < 2147483648) : nI a = nI b ↔ a = b := nI_eq ha hb
theorem nI_zero : (0 : Int32) = nI 0 := rfl
theorem nI_ne_neg {a : Nat} (ha : a < 2147483648) : ¬ nI a = -1 := by
  intro h
  have h1 := nI_toInt ha
  rw [h] at h1
  have h2 : (-1 : Int32).toInt = -1 := by decide
  rw [h2] at h1
  omega
/-- cells outside [lo, hi) stay -/
def ax_fr (lo hi : Nat) (h h' : AH) : Prop := h'.1 = h.1 ∧ ∀ a, (a < lo ∨ hi ≤ a) → h'.2 a = h.2 a
theorem ax_fr.rf {lo hi : Nat} {h : AH} : ax_fr lo hi h h := ⟨rfl, fun _ _ => rfl⟩
theorem ax_fr.tr {lo hi lo1 hi1 lo2 hi2 : Nat} {h h1 h2 : AH} (a : ax_fr lo1 hi1 h h1) (b : ax_fr lo2 hi2 h1 h2) (q1 : lo ≤ lo1 ∧ hi1 ≤ hi) (q2 : lo ≤ lo2 ∧ hi2 ≤ hi) : ax_fr lo hi h h2 :=
  ⟨b.1.trans a.1, fun x hx => (b.2 x (by omega)).trans (a.2 x (by omega))⟩
theorem ax_fr.to {lo hi lo1 hi1 : Nat} {h h1 : AH} (a : ax_fr lo1 hi1 h h1) (q1 : lo ≤ lo1 ∧ hi1 ≤ hi) : ax_fr lo hi h h1 := ⟨a.1, fun x hx => a.2 x (by omega)⟩
theorem ax_fr.set {lo hi : Nat} {h : AH} {a : Nat} {e : AE} (q : lo ≤ a ∧ a < hi) : ax_fr lo hi h (ax_set h a e) := ⟨rfl, fun x hx => ax_set_ne _ _ (by omega)⟩
theorem ax_fr.get {lo hi : Nat} {h h1 : AH} (a : ax_fr lo hi h h1) {x : Nat} {e : AE} (he : h.2 x = some e) (q : x < lo ∨ hi ≤ x) : h1.2 x = some e := (a.2 x q).trans he

