/-! ===== the start: what the claim gives of it ===== -/
def lw_flat : List Cond := flatC (Jvm.Cond.and given_1 narrow_1)
def lw_S (r : String × Nat × String × List Int32) (A : Nat → Prop) (s : State) (q : Nat × Nat) : Prop := vk_R r.1 r.2.1 r.2.2.1 q.1 s ∧ va_O "java/lang/String" q.1 A s s.heap ∧ va_OF "java/lang/String" "coder" "B" (.int 0) q.1 A s s.heap ∧ va_OF "java/lang/String" "value" "[B" (.ref q.2) q.1 A s s.heap ∧ va_T .byte q.2 r.2.2.2.length (fun j => .int (r.2.2.2.getD j 0)) A s s.heap
section
variable {args : Array Value} {s : State} {A : Nat → Prop}
theorem lw_str (r : String × Nat × String × List Int32) (hN : r.2.2.2.length < 2 ^ 31) (h0 : (Cond.stringRef r.1 r.2.1 r.2.2.1).before args s = true) (hex : (Cond.exactly (.string r.1 r.2.1) "java/lang/String").before args s = true) (hco : (Cond.eq (.field (.string r.1 r.2.1) "java/lang/String" "coder" "B") (.int 0)).before args s = true) (har : (Cond.arrayOf (.field (.string r.1 r.2.1) "java/lang/String" "value" "[B") .byte).before args s = true) (hle : (Cond.eq (.length (.field (.string r.1 r.2.1) "java/lang/String" "value" "[B")) (.int (Int32.ofNat r.2.2.2.length))).before args s = true)
    (hel : ∀ j : Nat, j < r.2.2.2.length → (Cond.eq (.elem (.field (.string r.1 r.2.1) "java/lang/String" "value" "[B") (.int (Int32.ofNat j))) (.int (r.2.2.2.getD j 0))).before args s = true) (hA : ∀ a : Nat, a < s.heap.size → ¬ A a) : ∃ q : Nat × Nat, lw_S r A s q := by
  obtain ⟨a, c, cA, kA, q1, q2, q3, q4, q5, q6, -⟩ := Cond.exactly_spec (args := args) (first := s) (o := none) (s := s) (idx := []) (t := .string r.1 r.2.1) (cls := "java/lang/String") hex
  obtain ⟨t, ht, hT⟩ := va_Tof (f := fun j => .int (r.2.2.2.getD j 0)) (A := A) hN har (va_eqt hle) (fun j hj => va_eqt (hel j hj)) hA
  exact ⟨(a, t), vk_R.of h0 q1, ⟨cA, q3, q5, by rw [q6]; exact q2, hA a (Array.getElem?_eq_some_iff.mp q3).1⟩, vk_OFof q1 (va_eqt hco) hA, vk_OFof q1 ht hA, hT⟩

theorem lw_s0 (hs : ∀ w ∈ lw_flat, w.before args s = true) (hts : ∀ w ∈ lw_tbl, w.before args s = true) (hA : ∀ a : Nat, a < s.heap.size → ¬ A a) : ∃ q : Nat × Nat, lw_S ("StorageLedger$DescriptionReader", 37, "blocks", [98, 108, 111, 99, 107, 115]) A s q := by
  refine lw_str ("StorageLedger$DescriptionReader", 37, "blocks", [98, 108, 111, 99, 107, 115]) (by decide) (hts _ (List.mem_append_right _ (List.mem_of_getElem? (i := 323) (by decide +kernel)))) (hs _ (List.mem_of_getElem? (i := 42) (by decide +kernel))) (hs _ (List.mem_of_getElem? (i := 43) (by decide +kernel))) (hs _ (List.mem_of_getElem? (i := 44) (by decide +kernel))) (hs _ (List.mem_of_getElem? (i := 45) (by decide +kernel))) (fun j hj => ?_) hA
  match j, hj with
  | 0, _ => exact hs _ (List.mem_of_getElem? (i := 46) (by decide +kernel))
  | 1, _ => exact hs _ (List.mem_of_getElem? (i := 47) (by decide +kernel))
  | 2, _ => exact hs _ (List.mem_of_getElem? (i := 48) (by decide +kernel))
  | 3, _ => exact hs _ (List.mem_of_getElem? (i := 49) (by decide +kernel))
  | 4, _ => exact hs _ (List.mem_of_getElem? (i := 50) (by decide +kernel))
  | 5, _ => exact hs _ (List.mem_of_getElem? (i := 51) (by decide +kernel))
  | j + 6, hj => exact absurd hj (Nat.not_lt.mpr (Nat.le_add_left _ _))
theorem lw_s1 (hs : ∀ w ∈ lw_flat, w.before args s = true) (hts : ∀ w ∈ lw_tbl, w.before args s = true) (hA : ∀ a : Nat, a < s.heap.size → ¬ A a) : ∃ q : Nat × Nat, lw_S ("StorageLedger$DescriptionReader", 57, "pool", [112, 111, 111, 108]) A s q := by
  refine lw_str ("StorageLedger$DescriptionReader", 57, "pool", [112, 111, 111, 108]) (by decide) (hts _ (List.mem_append_right _ (List.mem_of_getElem? (i := 397) (by decide +kernel)))) (hs _ (List.mem_of_getElem? (i := 52) (by decide +kernel))) (hs _ (List.mem_of_getElem? (i := 53) (by decide +kernel))) (hs _ (List.mem_of_getElem? (i := 54) (by decide +kernel))) (hs _ (List.mem_of_getElem? (i := 55) (by decide +kernel))) (fun j hj => ?_) hA
  match j, hj with
  | 0, _ => exact hs _ (List.mem_of_getElem? (i := 56) (by decide +kernel))
  | 1, _ => exact hs _ (List.mem_of_getElem? (i := 57) (by decide +kernel))
  | 2, _ => exact hs _ (List.mem_of_getElem? (i := 58) (by decide +kernel))
  | 3, _ => exact hs _ (List.mem_of_getElem? (i := 59) (by decide +kernel))
  | j + 4, hj => exact absurd hj (Nat.not_lt.mpr (Nat.le_add_left _ _))
theorem lw_s2 (hs : ∀ w ∈ lw_flat, w.before args s = true) (hts : ∀ w ∈ lw_tbl, w.before args s = true) (hA : ∀ a : Nat, a < s.heap.size → ¬ A a) : ∃ q : Nat × Nat, lw_S ("StorageLedger$DescriptionReader", 87, "free", [102, 114, 101, 101]) A s q := by
  refine lw_str ("StorageLedger$DescriptionReader", 87, "free", [102, 114, 101, 101]) (by decide) (hts _ (List.mem_append_right _ (List.mem_of_getElem? (i := 403) (by decide +kernel)))) (hs _ (List.mem_of_getElem? (i := 60) (by decide +kernel))) (hs _ (List.mem_of_getElem? (i := 61) (by decide +kernel))) (hs _ (List.mem_of_getElem? (i := 62) (by decide +kernel))) (hs _ (List.mem_of_getElem? (i := 63) (by decide +kernel))) (fun j hj => ?_) hA
  match j, hj with
  | 0, _ => exact hs _ (List.mem_of_getElem? (i := 64) (by decide +kernel))
  | 1, _ => exact hs _ (List.mem_of_getElem? (i := 65) (by decide +kernel))
  | 2, _ => exact hs _ (List.mem_of_getElem? (i := 66) (by decide +kernel))
  | 3, _ => exact hs _ (List.mem_of_getElem? (i := 67) (by decide +kernel))
  | j + 4, hj => exact absurd hj (Nat.not_lt.mpr (Nat.le_add_left _ _))
theorem lw_s3 (hs : ∀ w ∈ lw_flat, w.before args s = true) (hts : ∀ w ∈ lw_tbl, w.before args s = true) (hA : ∀ a : Nat, a < s.heap.size → ¬ A a) : ∃ q : Nat × Nat, lw_S ("StorageLedger$DescriptionReader", 67, "pick", [112, 105, 99, 107]) A s q := by
  refine lw_str ("StorageLedger$DescriptionReader", 67, "pick", [112, 105, 99, 107]) (by decide) (hts _ (List.mem_append_right _ (List.mem_of_getElem? (i := 414) (by decide +kernel)))) (hs _ (List.mem_of_getElem? (i := 68) (by decide +kernel))) (hs _ (List.mem_of_getElem? (i := 69) (by decide +kernel))) (hs _ (List.mem_of_getElem? (i := 70) (by decide +kernel))) (hs _ (List.mem_of_getElem? (i := 71) (by decide +kernel))) (fun j hj => ?_) hA
  match j, hj with
  | 0, _ => exact hs _ (List.mem_of_getElem? (i := 72) (by decide +kernel))
  | 1, _ => exact hs _ (List.mem_of_getElem? (i := 73) (by decide +kernel))
  | 2, _ => exact hs _ (List.mem_of_getElem? (i := 74) (by decide +kernel))
  | 3, _ => exact hs _ (List.mem_of_getElem? (i := 75) (by decide +kernel))
  | j + 4, hj => exact absurd hj (Nat.not_lt.mpr (Nat.le_add_left _ _))
theorem lw_s4 (hs : ∀ w ∈ lw_flat, w.before args s = true) (hts : ∀ w ∈ lw_tbl, w.before args s = true) (hA : ∀ a : Nat, a < s.heap.size → ¬ A a) : ∃ q : Nat × Nat, lw_S ("StorageLedger$DescriptionReader", 107, "lowest", [108, 111, 119, 101, 115, 116]) A s q := by
  refine lw_str ("StorageLedger$DescriptionReader", 107, "lowest", [108, 111, 119, 101, 115, 116]) (by decide) (hts _ (List.mem_append_right _ (List.mem_of_getElem? (i := 419) (by decide +kernel)))) (hs _ (List.mem_of_getElem? (i := 76) (by decide +kernel))) (hs _ (List.mem_of_getElem? (i := 77) (by decide +kernel))) (hs _ (List.mem_of_getElem? (i := 78) (by decide +kernel))) (hs _ (List.mem_of_getElem? (i := 79) (by decide +kernel))) (fun j hj => ?_) hA
  match j, hj with
  | 0, _ => exact hs _ (List.mem_of_getElem? (i := 80) (by decide +kernel))
  | 1, _ => exact hs _ (List.mem_of_getElem? (i := 81) (by decide +kernel))
  | 2, _ => exact hs _ (List.mem_of_getElem? (i := 82) (by decide +kernel))
  | 3, _ => exact hs _ (List.mem_of_getElem? (i := 83) (by decide +kernel))
  | 4, _ => exact hs _ (List.mem_of_getElem? (i := 84) (by decide +kernel))
  | 5, _ => exact hs _ (List.mem_of_getElem? (i := 85) (by decide +kernel))
  | j + 6, hj => exact absurd hj (Nat.not_lt.mpr (Nat.le_add_left _ _))
theorem lw_s5 (hs : ∀ w ∈ lw_flat, w.before args s = true) (hts : ∀ w ∈ lw_tbl, w.before args s = true) (hA : ∀ a : Nat, a < s.heap.size → ¬ A a) : ∃ q : Nat × Nat, lw_S ("StorageLedger$DescriptionReader", 112, "highest", [104, 105, 103, 104, 101, 115, 116]) A s q := by
  refine lw_str ("StorageLedger$DescriptionReader", 112, "highest", [104, 105, 103, 104, 101, 115, 116]) (by decide) (hts _ (List.mem_append_right _ (List.mem_of_getElem? (i := 420) (by decide +kernel)))) (hs _ (List.mem_of_getElem? (i := 86) (by decide +kernel))) (hs _ (List.mem_of_getElem? (i := 87) (by decide +kernel))) (hs _ (List.mem_of_getElem? (i := 88) (by decide +kernel))) (hs _ (List.mem_of_getElem? (i := 89) (by decide +kernel))) (fun j hj => ?_) hA
  match j, hj with
  | 0, _ => exact hs _ (List.mem_of_getElem? (i := 90) (by decide +kernel))
  | 1, _ => exact hs _ (List.mem_of_getElem? (i := 91) (by decide +kernel))
  | 2, _ => exact hs _ (List.mem_of_getElem? (i := 92) (by decide +kernel))
  | 3, _ => exact hs _ (List.mem_of_getElem? (i := 93) (by decide +kernel))
  | 4, _ => exact hs _ (List.mem_of_getElem? (i := 94) (by decide +kernel))
  | 5, _ => exact hs _ (List.mem_of_getElem? (i := 95) (by decide +kernel))
  | 6, _ => exact hs _ (List.mem_of_getElem? (i := 96) (by decide +kernel))
  | j + 7, hj => exact absurd hj (Nat.not_lt.mpr (Nat.le_add_left _ _))
theorem lw_s6 (hs : ∀ w ∈ lw_flat, w.before args s = true) (hts : ∀ w ∈ lw_tbl, w.before args s = true) (hA : ∀ a : Nat, a < s.heap.size → ¬ A a) : ∃ q : Nat × Nat, lw_S ("StorageLedger$DescriptionReader", 114, "oldest", [111, 108, 100, 101, 115, 116]) A s q := by
  refine lw_str ("StorageLedger$DescriptionReader", 114, "oldest", [111, 108, 100, 101, 115, 116]) (by decide) (hts _ (List.mem_append_right _ (List.mem_of_getElem? (i := 421) (by decide +kernel)))) (hs _ (List.mem_of_getElem? (i := 97) (by decide +kernel))) (hs _ (List.mem_of_getElem? (i := 98) (by decide +kernel))) (hs _ (List.mem_of_getElem? (i := 99) (by decide +kernel))) (hs _ (List.mem_of_getElem? (i := 100) (by decide +kernel))) (fun j hj => ?_) hA
  match j, hj with
  | 0, _ => exact hs _ (List.mem_of_getElem? (i := 101) (by decide +kernel))
  | 1, _ => exact hs _ (List.mem_of_getElem? (i := 102) (by decide +kernel))
  | 2, _ => exact hs _ (List.mem_of_getElem? (i := 103) (by decide +kernel))
  | 3, _ => exact hs _ (List.mem_of_getElem? (i := 104) (by decide +kernel))
  | 4, _ => exact hs _ (List.mem_of_getElem? (i := 105) (by decide +kernel))
  | 5, _ => exact hs _ (List.mem_of_getElem? (i := 106) (by decide +kernel))
  | j + 6, hj => exact absurd hj (Nat.not_lt.mpr (Nat.le_add_left _ _))
theorem lw_s7 (hs : ∀ w ∈ lw_flat, w.before args s = true) (hts : ∀ w ∈ lw_tbl, w.before args s = true) (hA : ∀ a : Nat, a < s.heap.size → ¬ A a) : ∃ q : Nat × Nat, lw_S ("StorageLedger$DescriptionReader", 116, "fitting", [102, 105, 116, 116, 105, 110, 103]) A s q := by
  refine lw_str ("StorageLedger$DescriptionReader", 116, "fitting", [102, 105, 116, 116, 105, 110, 103]) (by decide) (hts _ (List.mem_append_right _ (List.mem_of_getElem? (i := 422) (by decide +kernel)))) (hs _ (List.mem_of_getElem? (i := 107) (by decide +kernel))) (hs _ (List.mem_of_getElem? (i := 108) (by decide +kernel))) (hs _ (List.mem_of_getElem? (i := 109) (by decide +kernel))) (hs _ (List.mem_of_getElem? (i := 110) (by decide +kernel))) (fun j hj => ?_) hA
  match j, hj with
  | 0, _ => exact hs _ (List.mem_of_getElem? (i := 111) (by decide +kernel))
  | 1, _ => exact hs _ (List.mem_of_getElem? (i := 112) (by decide +kernel))
  | 2, _ => exact hs _ (List.mem_of_getElem? (i := 113) (by decide +kernel))
  | 3, _ => exact hs _ (List.mem_of_getElem? (i := 114) (by decide +kernel))
  | 4, _ => exact hs _ (List.mem_of_getElem? (i := 115) (by decide +kernel))
  | 5, _ => exact hs _ (List.mem_of_getElem? (i := 116) (by decide +kernel))
  | 6, _ => exact hs _ (List.mem_of_getElem? (i := 117) (by decide +kernel))
  | j + 7, hj => exact absurd hj (Nat.not_lt.mpr (Nat.le_add_left _ _))
theorem lw_s8 (hs : ∀ w ∈ lw_flat, w.before args s = true) (hts : ∀ w ∈ lw_tbl, w.before args s = true) (hA : ∀ a : Nat, a < s.heap.size → ¬ A a) : ∃ q : Nat × Nat, lw_S ("StorageLedger$DescriptionReader", 72, "grant", [103, 114, 97, 110, 116]) A s q := by
  refine lw_str ("StorageLedger$DescriptionReader", 72, "grant", [103, 114, 97, 110, 116]) (by decide) (hts _ (List.mem_append_right _ (List.mem_of_getElem? (i := 423) (by decide +kernel)))) (hs _ (List.mem_of_getElem? (i := 118) (by decide +kernel))) (hs _ (List.mem_of_getElem? (i := 119) (by decide +kernel))) (hs _ (List.mem_of_getElem? (i := 120) (by decide +kernel))) (hs _ (List.mem_of_getElem? (i := 121) (by decide +kernel))) (fun j hj => ?_) hA
  match j, hj with
  | 0, _ => exact hs _ (List.mem_of_getElem? (i := 122) (by decide +kernel))
  | 1, _ => exact hs _ (List.mem_of_getElem? (i := 123) (by decide +kernel))
  | 2, _ => exact hs _ (List.mem_of_getElem? (i := 124) (by decide +kernel))
  | 3, _ => exact hs _ (List.mem_of_getElem? (i := 125) (by decide +kernel))
  | 4, _ => exact hs _ (List.mem_of_getElem? (i := 126) (by decide +kernel))
  | j + 5, hj => exact absurd hj (Nat.not_lt.mpr (Nat.le_add_left _ _))
theorem lw_s9 (hs : ∀ w ∈ lw_flat, w.before args s = true) (hts : ∀ w ∈ lw_tbl, w.before args s = true) (hA : ∀ a : Nat, a < s.heap.size → ¬ A a) : ∃ q : Nat × Nat, lw_S ("StorageLedger$BatchReader", 46, "move", [109, 111, 118, 101]) A s q := by
  refine lw_str ("StorageLedger$BatchReader", 46, "move", [109, 111, 118, 101]) (by decide) (hts _ (List.mem_append_right _ (List.mem_of_getElem? (i := 513) (by decide +kernel)))) (hs _ (List.mem_of_getElem? (i := 127) (by decide +kernel))) (hs _ (List.mem_of_getElem? (i := 128) (by decide +kernel))) (hs _ (List.mem_of_getElem? (i := 129) (by decide +kernel))) (hs _ (List.mem_of_getElem? (i := 130) (by decide +kernel))) (fun j hj => ?_) hA
  match j, hj with
  | 0, _ => exact hs _ (List.mem_of_getElem? (i := 131) (by decide +kernel))
  | 1, _ => exact hs _ (List.mem_of_getElem? (i := 132) (by decide +kernel))
  | 2, _ => exact hs _ (List.mem_of_getElem? (i := 133) (by decide +kernel))
  | 3, _ => exact hs _ (List.mem_of_getElem? (i := 134) (by decide +kernel))
  | j + 4, hj => exact absurd hj (Nat.not_lt.mpr (Nat.le_add_left _ _))
theorem lw_s10 (hs : ∀ w ∈ lw_flat, w.before args s = true) (hts : ∀ w ∈ lw_tbl, w.before args s = true) (hA : ∀ a : Nat, a < s.heap.size → ¬ A a) : ∃ q : Nat × Nat, lw_S ("StorageLedger$BatchReader", 56, "hold", [104, 111, 108, 100]) A s q := by
  refine lw_str ("StorageLedger$BatchReader", 56, "hold", [104, 111, 108, 100]) (by decide) (hts _ (List.mem_append_right _ (List.mem_of_getElem? (i := 531) (by decide +kernel)))) (hs _ (List.mem_of_getElem? (i := 135) (by decide +kernel))) (hs _ (List.mem_of_getElem? (i := 136) (by decide +kernel))) (hs _ (List.mem_of_getElem? (i := 137) (by decide +kernel))) (hs _ (List.mem_of_getElem? (i := 138) (by decide +kernel))) (fun j hj => ?_) hA
  match j, hj with
  | 0, _ => exact hs _ (List.mem_of_getElem? (i := 139) (by decide +kernel))
  | 1, _ => exact hs _ (List.mem_of_getElem? (i := 140) (by decide +kernel))
  | 2, _ => exact hs _ (List.mem_of_getElem? (i := 141) (by decide +kernel))
  | 3, _ => exact hs _ (List.mem_of_getElem? (i := 142) (by decide +kernel))
  | j + 4, hj => exact absurd hj (Nat.not_lt.mpr (Nat.le_add_left _ _))
theorem lw_s11 (hs : ∀ w ∈ lw_flat, w.before args s = true) (hts : ∀ w ∈ lw_tbl, w.before args s = true) (hA : ∀ a : Nat, a < s.heap.size → ¬ A a) : ∃ q : Nat × Nat, lw_S ("StorageLedger$BatchReader", 58, "wait", [119, 97, 105, 116]) A s q := by
  refine lw_str ("StorageLedger$BatchReader", 58, "wait", [119, 97, 105, 116]) (by decide) (hts _ (List.mem_append_right _ (List.mem_of_getElem? (i := 532) (by decide +kernel)))) (hs _ (List.mem_of_getElem? (i := 143) (by decide +kernel))) (hs _ (List.mem_of_getElem? (i := 144) (by decide +kernel))) (hs _ (List.mem_of_getElem? (i := 145) (by decide +kernel))) (hs _ (List.mem_of_getElem? (i := 146) (by decide +kernel))) (fun j hj => ?_) hA
  match j, hj with
  | 0, _ => exact hs _ (List.mem_of_getElem? (i := 147) (by decide +kernel))
  | 1, _ => exact hs _ (List.mem_of_getElem? (i := 148) (by decide +kernel))
  | 2, _ => exact hs _ (List.mem_of_getElem? (i := 149) (by decide +kernel))
  | 3, _ => exact hs _ (List.mem_of_getElem? (i := 150) (by decide +kernel))
  | j + 4, hj => exact absurd hj (Nat.not_lt.mpr (Nat.le_add_left _ _))
theorem lw_s12 (hs : ∀ w ∈ lw_flat, w.before args s = true) (hts : ∀ w ∈ lw_tbl, w.before args s = true) (hA : ∀ a : Nat, a < s.heap.size → ¬ A a) : ∃ q : Nat × Nat, lw_S ("StorageLedger$BatchReader", 64, "back", [98, 97, 99, 107]) A s q := by
  refine lw_str ("StorageLedger$BatchReader", 64, "back", [98, 97, 99, 107]) (by decide) (hts _ (List.mem_append_right _ (List.mem_of_getElem? (i := 537) (by decide +kernel)))) (hs _ (List.mem_of_getElem? (i := 151) (by decide +kernel))) (hs _ (List.mem_of_getElem? (i := 152) (by decide +kernel))) (hs _ (List.mem_of_getElem? (i := 153) (by decide +kernel))) (hs _ (List.mem_of_getElem? (i := 154) (by decide +kernel))) (fun j hj => ?_) hA
  match j, hj with
  | 0, _ => exact hs _ (List.mem_of_getElem? (i := 155) (by decide +kernel))
  | 1, _ => exact hs _ (List.mem_of_getElem? (i := 156) (by decide +kernel))
  | 2, _ => exact hs _ (List.mem_of_getElem? (i := 157) (by decide +kernel))
  | 3, _ => exact hs _ (List.mem_of_getElem? (i := 158) (by decide +kernel))
  | j + 4, hj => exact absurd hj (Nat.not_lt.mpr (Nat.le_add_left _ _))
theorem lw_s13 (hs : ∀ w ∈ lw_flat, w.before args s = true) (hts : ∀ w ∈ lw_tbl, w.before args s = true) (hA : ∀ a : Nat, a < s.heap.size → ¬ A a) : ∃ q : Nat × Nat, lw_S ("StorageLedger", 56, "no byte", [110, 111, 32, 98, 121, 116, 101]) A s q := by
  refine lw_str ("StorageLedger", 56, "no byte", [110, 111, 32, 98, 121, 116, 101]) (by decide) (hts _ (List.mem_append_right _ (List.mem_of_getElem? (i := 819) (by decide +kernel)))) (hs _ (List.mem_of_getElem? (i := 159) (by decide +kernel))) (hs _ (List.mem_of_getElem? (i := 160) (by decide +kernel))) (hs _ (List.mem_of_getElem? (i := 161) (by decide +kernel))) (hs _ (List.mem_of_getElem? (i := 162) (by decide +kernel))) (fun j hj => ?_) hA
  match j, hj with
  | 0, _ => exact hs _ (List.mem_of_getElem? (i := 163) (by decide +kernel))
  | 1, _ => exact hs _ (List.mem_of_getElem? (i := 164) (by decide +kernel))
  | 2, _ => exact hs _ (List.mem_of_getElem? (i := 165) (by decide +kernel))
  | 3, _ => exact hs _ (List.mem_of_getElem? (i := 166) (by decide +kernel))
  | 4, _ => exact hs _ (List.mem_of_getElem? (i := 167) (by decide +kernel))
  | 5, _ => exact hs _ (List.mem_of_getElem? (i := 168) (by decide +kernel))
  | 6, _ => exact hs _ (List.mem_of_getElem? (i := 169) (by decide +kernel))
  | j + 7, hj => exact absurd hj (Nat.not_lt.mpr (Nat.le_add_left _ _))
theorem lw_s14 (hs : ∀ w ∈ lw_flat, w.before args s = true) (hts : ∀ w ∈ lw_tbl, w.before args s = true) (hA : ∀ a : Nat, a < s.heap.size → ¬ A a) : ∃ q : Nat × Nat, lw_S ("StorageLedger", 338, "no such pool", [110, 111, 32, 115, 117, 99, 104, 32, 112, 111, 111, 108]) A s q := by
  refine lw_str ("StorageLedger", 338, "no such pool", [110, 111, 32, 115, 117, 99, 104, 32, 112, 111, 111, 108]) (by decide) (hts _ (List.mem_append_right _ (List.mem_of_getElem? (i := 870) (by decide +kernel)))) (hs _ (List.mem_of_getElem? (i := 170) (by decide +kernel))) (hs _ (List.mem_of_getElem? (i := 171) (by decide +kernel))) (hs _ (List.mem_of_getElem? (i := 172) (by decide +kernel))) (hs _ (List.mem_of_getElem? (i := 173) (by decide +kernel))) (fun j hj => ?_) hA
  match j, hj with
  | 0, _ => exact hs _ (List.mem_of_getElem? (i := 174) (by decide +kernel))
  | 1, _ => exact hs _ (List.mem_of_getElem? (i := 175) (by decide +kernel))
  | 2, _ => exact hs _ (List.mem_of_getElem? (i := 176) (by decide +kernel))
  | 3, _ => exact hs _ (List.mem_of_getElem? (i := 177) (by decide +kernel))
  | 4, _ => exact hs _ (List.mem_of_getElem? (i := 178) (by decide +kernel))
  | 5, _ => exact hs _ (List.mem_of_getElem? (i := 179) (by decide +kernel))
  | 6, _ => exact hs _ (List.mem_of_getElem? (i := 180) (by decide +kernel))
  | 7, _ => exact hs _ (List.mem_of_getElem? (i := 181) (by decide +kernel))
  | 8, _ => exact hs _ (List.mem_of_getElem? (i := 182) (by decide +kernel))
  | 9, _ => exact hs _ (List.mem_of_getElem? (i := 183) (by decide +kernel))
  | 10, _ => exact hs _ (List.mem_of_getElem? (i := 184) (by decide +kernel))
  | 11, _ => exact hs _ (List.mem_of_getElem? (i := 185) (by decide +kernel))
  | j + 12, hj => exact absurd hj (Nat.not_lt.mpr (Nat.le_add_left _ _))
theorem lw_s15 (hs : ∀ w ∈ lw_flat, w.before args s = true) (hts : ∀ w ∈ lw_tbl, w.before args s = true) (hA : ∀ a : Nat, a < s.heap.size → ¬ A a) : ∃ q : Nat × Nat, lw_S ("StorageLedger", 360, "ticks out of range", [116, 105, 99, 107, 115, 32, 111, 117, 116, 32, 111, 102, 32, 114, 97, 110, 103, 101]) A s q := by
  refine lw_str ("StorageLedger", 360, "ticks out of range", [116, 105, 99, 107, 115, 32, 111, 117, 116, 32, 111, 102, 32, 114, 97, 110, 103, 101]) (by decide) (hts _ (List.mem_append_right _ (List.mem_of_getElem? (i := 891) (by decide +kernel)))) (hs _ (List.mem_of_getElem? (i := 186) (by decide +kernel))) (hs _ (List.mem_of_getElem? (i := 187) (by decide +kernel))) (hs _ (List.mem_of_getElem? (i := 188) (by decide +kernel))) (hs _ (List.mem_of_getElem? (i := 189) (by decide +kernel))) (fun j hj => ?_) hA
  match j, hj with
  | 0, _ => exact hs _ (List.mem_of_getElem? (i := 190) (by decide +kernel))
  | 1, _ => exact hs _ (List.mem_of_getElem? (i := 191) (by decide +kernel))
  | 2, _ => exact hs _ (List.mem_of_getElem? (i := 192) (by decide +kernel))
  | 3, _ => exact hs _ (List.mem_of_getElem? (i := 193) (by decide +kernel))
  | 4, _ => exact hs _ (List.mem_of_getElem? (i := 194) (by decide +kernel))
  | 5, _ => exact hs _ (List.mem_of_getElem? (i := 195) (by decide +kernel))
  | 6, _ => exact hs _ (List.mem_of_getElem? (i := 196) (by decide +kernel))
  | 7, _ => exact hs _ (List.mem_of_getElem? (i := 197) (by decide +kernel))
  | 8, _ => exact hs _ (List.mem_of_getElem? (i := 198) (by decide +kernel))
  | 9, _ => exact hs _ (List.mem_of_getElem? (i := 199) (by decide +kernel))
  | 10, _ => exact hs _ (List.mem_of_getElem? (i := 200) (by decide +kernel))
  | 11, _ => exact hs _ (List.mem_of_getElem? (i := 201) (by decide +kernel))
  | 12, _ => exact hs _ (List.mem_of_getElem? (i := 202) (by decide +kernel))
  | 13, _ => exact hs _ (List.mem_of_getElem? (i := 203) (by decide +kernel))
  | 14, _ => exact hs _ (List.mem_of_getElem? (i := 204) (by decide +kernel))
  | 15, _ => exact hs _ (List.mem_of_getElem? (i := 205) (by decide +kernel))
  | 16, _ => exact hs _ (List.mem_of_getElem? (i := 206) (by decide +kernel))
  | 17, _ => exact hs _ (List.mem_of_getElem? (i := 207) (by decide +kernel))
  | j + 18, hj => exact absurd hj (Nat.not_lt.mpr (Nat.le_add_left _ _))
theorem lw_s16 (hs : ∀ w ∈ lw_flat, w.before args s = true) (hts : ∀ w ∈ lw_tbl, w.before args s = true) (hA : ∀ a : Nat, a < s.heap.size → ¬ A a) : ∃ q : Nat × Nat, lw_S ("StorageLedger", 132, "no such way to pick", [110, 111, 32, 115, 117, 99, 104, 32, 119, 97, 121, 32, 116, 111, 32, 112, 105, 99, 107]) A s q := by
  refine lw_str ("StorageLedger", 132, "no such way to pick", [110, 111, 32, 115, 117, 99, 104, 32, 119, 97, 121, 32, 116, 111, 32, 112, 105, 99, 107]) (by decide) (hts _ (List.mem_append_right _ (List.mem_of_getElem? (i := 900) (by decide +kernel)))) (hs _ (List.mem_of_getElem? (i := 208) (by decide +kernel))) (hs _ (List.mem_of_getElem? (i := 209) (by decide +kernel))) (hs _ (List.mem_of_getElem? (i := 210) (by decide +kernel))) (hs _ (List.mem_of_getElem? (i := 211) (by decide +kernel))) (fun j hj => ?_) hA
  match j, hj with
  | 0, _ => exact hs _ (List.mem_of_getElem? (i := 212) (by decide +kernel))
  | 1, _ => exact hs _ (List.mem_of_getElem? (i := 213) (by decide +kernel))
  | 2, _ => exact hs _ (List.mem_of_getElem? (i := 214) (by decide +kernel))
  | 3, _ => exact hs _ (List.mem_of_getElem? (i := 215) (by decide +kernel))
  | 4, _ => exact hs _ (List.mem_of_getElem? (i := 216) (by decide +kernel))
  | 5, _ => exact hs _ (List.mem_of_getElem? (i := 217) (by decide +kernel))
  | 6, _ => exact hs _ (List.mem_of_getElem? (i := 218) (by decide +kernel))
  | 7, _ => exact hs _ (List.mem_of_getElem? (i := 219) (by decide +kernel))
  | 8, _ => exact hs _ (List.mem_of_getElem? (i := 220) (by decide +kernel))
  | 9, _ => exact hs _ (List.mem_of_getElem? (i := 221) (by decide +kernel))
  | 10, _ => exact hs _ (List.mem_of_getElem? (i := 222) (by decide +kernel))
  | 11, _ => exact hs _ (List.mem_of_getElem? (i := 223) (by decide +kernel))
  | 12, _ => exact hs _ (List.mem_of_getElem? (i := 224) (by decide +kernel))
  | 13, _ => exact hs _ (List.mem_of_getElem? (i := 225) (by decide +kernel))
  | 14, _ => exact hs _ (List.mem_of_getElem? (i := 226) (by decide +kernel))
  | 15, _ => exact hs _ (List.mem_of_getElem? (i := 227) (by decide +kernel))
  | 16, _ => exact hs _ (List.mem_of_getElem? (i := 228) (by decide +kernel))
  | 17, _ => exact hs _ (List.mem_of_getElem? (i := 229) (by decide +kernel))
  | 18, _ => exact hs _ (List.mem_of_getElem? (i := 230) (by decide +kernel))
  | j + 19, hj => exact absurd hj (Nat.not_lt.mpr (Nat.le_add_left _ _))
theorem lw_s17 (hs : ∀ w ∈ lw_flat, w.before args s = true) (hts : ∀ w ∈ lw_tbl, w.before args s = true) (hA : ∀ a : Nat, a < s.heap.size → ¬ A a) : ∃ q : Nat × Nat, lw_S ("StorageLedger", 341, "both pools are the same", [98, 111, 116, 104, 32, 112, 111, 111, 108, 115, 32, 97, 114, 101, 32, 116, 104, 101, 32, 115, 97, 109, 101]) A s q := by
  refine lw_str ("StorageLedger", 341, "both pools are the same", [98, 111, 116, 104, 32, 112, 111, 111, 108, 115, 32, 97, 114, 101, 32, 116, 104, 101, 32, 115, 97, 109, 101]) (by decide) (hts _ (List.mem_append_right _ (List.mem_of_getElem? (i := 912) (by decide +kernel)))) (hs _ (List.mem_of_getElem? (i := 231) (by decide +kernel))) (hs _ (List.mem_of_getElem? (i := 232) (by decide +kernel))) (hs _ (List.mem_of_getElem? (i := 233) (by decide +kernel))) (hs _ (List.mem_of_getElem? (i := 234) (by decide +kernel))) (fun j hj => ?_) hA
  match j, hj with
  | 0, _ => exact hs _ (List.mem_of_getElem? (i := 235) (by decide +kernel))
  | 1, _ => exact hs _ (List.mem_of_getElem? (i := 236) (by decide +kernel))
  | 2, _ => exact hs _ (List.mem_of_getElem? (i := 237) (by decide +kernel))
  | 3, _ => exact hs _ (List.mem_of_getElem? (i := 238) (by decide +kernel))
  | 4, _ => exact hs _ (List.mem_of_getElem? (i := 239) (by decide +kernel))
  | 5, _ => exact hs _ (List.mem_of_getElem? (i := 240) (by decide +kernel))
  | 6, _ => exact hs _ (List.mem_of_getElem? (i := 241) (by decide +kernel))
  | 7, _ => exact hs _ (List.mem_of_getElem? (i := 242) (by decide +kernel))
  | 8, _ => exact hs _ (List.mem_of_getElem? (i := 243) (by decide +kernel))
  | 9, _ => exact hs _ (List.mem_of_getElem? (i := 244) (by decide +kernel))
  | 10, _ => exact hs _ (List.mem_of_getElem? (i := 245) (by decide +kernel))
  | 11, _ => exact hs _ (List.mem_of_getElem? (i := 246) (by decide +kernel))
  | 12, _ => exact hs _ (List.mem_of_getElem? (i := 247) (by decide +kernel))
  | 13, _ => exact hs _ (List.mem_of_getElem? (i := 248) (by decide +kernel))
  | 14, _ => exact hs _ (List.mem_of_getElem? (i := 249) (by decide +kernel))
  | 15, _ => exact hs _ (List.mem_of_getElem? (i := 250) (by decide +kernel))
  | 16, _ => exact hs _ (List.mem_of_getElem? (i := 251) (by decide +kernel))
  | 17, _ => exact hs _ (List.mem_of_getElem? (i := 252) (by decide +kernel))
  | 18, _ => exact hs _ (List.mem_of_getElem? (i := 253) (by decide +kernel))
  | 19, _ => exact hs _ (List.mem_of_getElem? (i := 254) (by decide +kernel))
  | 20, _ => exact hs _ (List.mem_of_getElem? (i := 255) (by decide +kernel))
  | 21, _ => exact hs _ (List.mem_of_getElem? (i := 256) (by decide +kernel))
  | 22, _ => exact hs _ (List.mem_of_getElem? (i := 257) (by decide +kernel))
  | j + 23, hj => exact absurd hj (Nat.not_lt.mpr (Nat.le_add_left _ _))
theorem lw_s18 (hs : ∀ w ∈ lw_flat, w.before args s = true) (hts : ∀ w ∈ lw_tbl, w.before args s = true) (hA : ∀ a : Nat, a < s.heap.size → ¬ A a) : ∃ q : Nat × Nat, lw_S ("StorageLedger", 220, "count out of range", [99, 111, 117, 110, 116, 32, 111, 117, 116, 32, 111, 102, 32, 114, 97, 110, 103, 101]) A s q := by
  refine lw_str ("StorageLedger", 220, "count out of range", [99, 111, 117, 110, 116, 32, 111, 117, 116, 32, 111, 102, 32, 114, 97, 110, 103, 101]) (by decide) (hts _ (List.mem_append_right _ (List.mem_of_getElem? (i := 916) (by decide +kernel)))) (hs _ (List.mem_of_getElem? (i := 258) (by decide +kernel))) (hs _ (List.mem_of_getElem? (i := 259) (by decide +kernel))) (hs _ (List.mem_of_getElem? (i := 260) (by decide +kernel))) (hs _ (List.mem_of_getElem? (i := 261) (by decide +kernel))) (fun j hj => ?_) hA
  match j, hj with
  | 0, _ => exact hs _ (List.mem_of_getElem? (i := 262) (by decide +kernel))
  | 1, _ => exact hs _ (List.mem_of_getElem? (i := 263) (by decide +kernel))
  | 2, _ => exact hs _ (List.mem_of_getElem? (i := 264) (by decide +kernel))
  | 3, _ => exact hs _ (List.mem_of_getElem? (i := 265) (by decide +kernel))
  | 4, _ => exact hs _ (List.mem_of_getElem? (i := 266) (by decide +kernel))
  | 5, _ => exact hs _ (List.mem_of_getElem? (i := 267) (by decide +kernel))
  | 6, _ => exact hs _ (List.mem_of_getElem? (i := 268) (by decide +kernel))
  | 7, _ => exact hs _ (List.mem_of_getElem? (i := 269) (by decide +kernel))
  | 8, _ => exact hs _ (List.mem_of_getElem? (i := 270) (by decide +kernel))
  | 9, _ => exact hs _ (List.mem_of_getElem? (i := 271) (by decide +kernel))
  | 10, _ => exact hs _ (List.mem_of_getElem? (i := 272) (by decide +kernel))
  | 11, _ => exact hs _ (List.mem_of_getElem? (i := 273) (by decide +kernel))
  | 12, _ => exact hs _ (List.mem_of_getElem? (i := 274) (by decide +kernel))
  | 13, _ => exact hs _ (List.mem_of_getElem? (i := 275) (by decide +kernel))
  | 14, _ => exact hs _ (List.mem_of_getElem? (i := 276) (by decide +kernel))
  | 15, _ => exact hs _ (List.mem_of_getElem? (i := 277) (by decide +kernel))
  | 16, _ => exact hs _ (List.mem_of_getElem? (i := 278) (by decide +kernel))
  | 17, _ => exact hs _ (List.mem_of_getElem? (i := 279) (by decide +kernel))
  | j + 18, hj => exact absurd hj (Nat.not_lt.mpr (Nat.le_add_left _ _))
theorem lw_s19 (hs : ∀ w ∈ lw_flat, w.before args s = true) (hts : ∀ w ∈ lw_tbl, w.before args s = true) (hA : ∀ a : Nat, a < s.heap.size → ¬ A a) : ∃ q : Nat × Nat, lw_S ("StorageLedger", 358, "reason out of range", [114, 101, 97, 115, 111, 110, 32, 111, 117, 116, 32, 111, 102, 32, 114, 97, 110, 103, 101]) A s q := by
  refine lw_str ("StorageLedger", 358, "reason out of range", [114, 101, 97, 115, 111, 110, 32, 111, 117, 116, 32, 111, 102, 32, 114, 97, 110, 103, 101]) (by decide) (hts _ (List.mem_append_right _ (List.mem_of_getElem? (i := 920) (by decide +kernel)))) (hs _ (List.mem_of_getElem? (i := 280) (by decide +kernel))) (hs _ (List.mem_of_getElem? (i := 281) (by decide +kernel))) (hs _ (List.mem_of_getElem? (i := 282) (by decide +kernel))) (hs _ (List.mem_of_getElem? (i := 283) (by decide +kernel))) (fun j hj => ?_) hA
  match j, hj with
  | 0, _ => exact hs _ (List.mem_of_getElem? (i := 284) (by decide +kernel))
  | 1, _ => exact hs _ (List.mem_of_getElem? (i := 285) (by decide +kernel))
  | 2, _ => exact hs _ (List.mem_of_getElem? (i := 286) (by decide +kernel))
  | 3, _ => exact hs _ (List.mem_of_getElem? (i := 287) (by decide +kernel))
  | 4, _ => exact hs _ (List.mem_of_getElem? (i := 288) (by decide +kernel))
  | 5, _ => exact hs _ (List.mem_of_getElem? (i := 289) (by decide +kernel))
  | 6, _ => exact hs _ (List.mem_of_getElem? (i := 290) (by decide +kernel))
  | 7, _ => exact hs _ (List.mem_of_getElem? (i := 291) (by decide +kernel))
  | 8, _ => exact hs _ (List.mem_of_getElem? (i := 292) (by decide +kernel))
  | 9, _ => exact hs _ (List.mem_of_getElem? (i := 293) (by decide +kernel))
  | 10, _ => exact hs _ (List.mem_of_getElem? (i := 294) (by decide +kernel))
  | 11, _ => exact hs _ (List.mem_of_getElem? (i := 295) (by decide +kernel))
  | 12, _ => exact hs _ (List.mem_of_getElem? (i := 296) (by decide +kernel))
  | 13, _ => exact hs _ (List.mem_of_getElem? (i := 297) (by decide +kernel))
  | 14, _ => exact hs _ (List.mem_of_getElem? (i := 298) (by decide +kernel))
  | 15, _ => exact hs _ (List.mem_of_getElem? (i := 299) (by decide +kernel))
  | 16, _ => exact hs _ (List.mem_of_getElem? (i := 300) (by decide +kernel))
  | 17, _ => exact hs _ (List.mem_of_getElem? (i := 301) (by decide +kernel))
  | 18, _ => exact hs _ (List.mem_of_getElem? (i := 302) (by decide +kernel))
  | j + 19, hj => exact absurd hj (Nat.not_lt.mpr (Nat.le_add_left _ _))
theorem lw_s20 (hs : ∀ w ∈ lw_flat, w.before args s = true) (hts : ∀ w ∈ lw_tbl, w.before args s = true) (hA : ∀ a : Nat, a < s.heap.size → ¬ A a) : ∃ q : Nat × Nat, lw_S ("StorageLedger", 343, "no such block", [110, 111, 32, 115, 117, 99, 104, 32, 98, 108, 111, 99, 107]) A s q := by
  refine lw_str ("StorageLedger", 343, "no such block", [110, 111, 32, 115, 117, 99, 104, 32, 98, 108, 111, 99, 107]) (by decide) (hts _ (List.mem_append_right _ (List.mem_of_getElem? (i := 933) (by decide +kernel)))) (hs _ (List.mem_of_getElem? (i := 303) (by decide +kernel))) (hs _ (List.mem_of_getElem? (i := 304) (by decide +kernel))) (hs _ (List.mem_of_getElem? (i := 305) (by decide +kernel))) (hs _ (List.mem_of_getElem? (i := 306) (by decide +kernel))) (fun j hj => ?_) hA
  match j, hj with
  | 0, _ => exact hs _ (List.mem_of_getElem? (i := 307) (by decide +kernel))
  | 1, _ => exact hs _ (List.mem_of_getElem? (i := 308) (by decide +kernel))
  | 2, _ => exact hs _ (List.mem_of_getElem? (i := 309) (by decide +kernel))
  | 3, _ => exact hs _ (List.mem_of_getElem? (i := 310) (by decide +kernel))
  | 4, _ => exact hs _ (List.mem_of_getElem? (i := 311) (by decide +kernel))
  | 5, _ => exact hs _ (List.mem_of_getElem? (i := 312) (by decide +kernel))
  | 6, _ => exact hs _ (List.mem_of_getElem? (i := 313) (by decide +kernel))
  | 7, _ => exact hs _ (List.mem_of_getElem? (i := 314) (by decide +kernel))
  | 8, _ => exact hs _ (List.mem_of_getElem? (i := 315) (by decide +kernel))
  | 9, _ => exact hs _ (List.mem_of_getElem? (i := 316) (by decide +kernel))
  | 10, _ => exact hs _ (List.mem_of_getElem? (i := 317) (by decide +kernel))
  | 11, _ => exact hs _ (List.mem_of_getElem? (i := 318) (by decide +kernel))
  | 12, _ => exact hs _ (List.mem_of_getElem? (i := 319) (by decide +kernel))
  | j + 13, hj => exact absurd hj (Nat.not_lt.mpr (Nat.le_add_left _ _))
theorem lw_s21 (hs : ∀ w ∈ lw_flat, w.before args s = true) (hts : ∀ w ∈ lw_tbl, w.before args s = true) (hA : ∀ a : Nat, a < s.heap.size → ¬ A a) : ∃ q : Nat × Nat, lw_S ("StorageLedger", 345, "no such entry", [110, 111, 32, 115, 117, 99, 104, 32, 101, 110, 116, 114, 121]) A s q := by
  refine lw_str ("StorageLedger", 345, "no such entry", [110, 111, 32, 115, 117, 99, 104, 32, 101, 110, 116, 114, 121]) (by decide) (hts _ (List.mem_append_right _ (List.mem_of_getElem? (i := 953) (by decide +kernel)))) (hs _ (List.mem_of_getElem? (i := 320) (by decide +kernel))) (hs _ (List.mem_of_getElem? (i := 321) (by decide +kernel))) (hs _ (List.mem_of_getElem? (i := 322) (by decide +kernel))) (hs _ (List.mem_of_getElem? (i := 323) (by decide +kernel))) (fun j hj => ?_) hA
  match j, hj with
  | 0, _ => exact hs _ (List.mem_of_getElem? (i := 324) (by decide +kernel))
  | 1, _ => exact hs _ (List.mem_of_getElem? (i := 325) (by decide +kernel))
  | 2, _ => exact hs _ (List.mem_of_getElem? (i := 326) (by decide +kernel))
  | 3, _ => exact hs _ (List.mem_of_getElem? (i := 327) (by decide +kernel))
  | 4, _ => exact hs _ (List.mem_of_getElem? (i := 328) (by decide +kernel))
  | 5, _ => exact hs _ (List.mem_of_getElem? (i := 329) (by decide +kernel))
  | 6, _ => exact hs _ (List.mem_of_getElem? (i := 330) (by decide +kernel))
  | 7, _ => exact hs _ (List.mem_of_getElem? (i := 331) (by decide +kernel))
  | 8, _ => exact hs _ (List.mem_of_getElem? (i := 332) (by decide +kernel))
  | 9, _ => exact hs _ (List.mem_of_getElem? (i := 333) (by decide +kernel))
  | 10, _ => exact hs _ (List.mem_of_getElem? (i := 334) (by decide +kernel))
  | 11, _ => exact hs _ (List.mem_of_getElem? (i := 335) (by decide +kernel))
  | 12, _ => exact hs _ (List.mem_of_getElem? (i := 336) (by decide +kernel))
  | j + 13, hj => exact absurd hj (Nat.not_lt.mpr (Nat.le_add_left _ _))
theorem lw_s22 (hs : ∀ w ∈ lw_flat, w.before args s = true) (hts : ∀ w ∈ lw_tbl, w.before args s = true) (hA : ∀ a : Nat, a < s.heap.size → ¬ A a) : ∃ q : Nat × Nat, lw_S ("StorageLedger", 347, "no such reservation", [110, 111, 32, 115, 117, 99, 104, 32, 114, 101, 115, 101, 114, 118, 97, 116, 105, 111, 110]) A s q := by
  refine lw_str ("StorageLedger", 347, "no such reservation", [110, 111, 32, 115, 117, 99, 104, 32, 114, 101, 115, 101, 114, 118, 97, 116, 105, 111, 110]) (by decide) (hts _ (List.mem_append_right _ (List.mem_of_getElem? (i := 974) (by decide +kernel)))) (hs _ (List.mem_of_getElem? (i := 337) (by decide +kernel))) (hs _ (List.mem_of_getElem? (i := 338) (by decide +kernel))) (hs _ (List.mem_of_getElem? (i := 339) (by decide +kernel))) (hs _ (List.mem_of_getElem? (i := 340) (by decide +kernel))) (fun j hj => ?_) hA
  match j, hj with
  | 0, _ => exact hs _ (List.mem_of_getElem? (i := 341) (by decide +kernel))
  | 1, _ => exact hs _ (List.mem_of_getElem? (i := 342) (by decide +kernel))
  | 2, _ => exact hs _ (List.mem_of_getElem? (i := 343) (by decide +kernel))
  | 3, _ => exact hs _ (List.mem_of_getElem? (i := 344) (by decide +kernel))
  | 4, _ => exact hs _ (List.mem_of_getElem? (i := 345) (by decide +kernel))
  | 5, _ => exact hs _ (List.mem_of_getElem? (i := 346) (by decide +kernel))
  | 6, _ => exact hs _ (List.mem_of_getElem? (i := 347) (by decide +kernel))
  | 7, _ => exact hs _ (List.mem_of_getElem? (i := 348) (by decide +kernel))
  | 8, _ => exact hs _ (List.mem_of_getElem? (i := 349) (by decide +kernel))
  | 9, _ => exact hs _ (List.mem_of_getElem? (i := 350) (by decide +kernel))
  | 10, _ => exact hs _ (List.mem_of_getElem? (i := 351) (by decide +kernel))
  | 11, _ => exact hs _ (List.mem_of_getElem? (i := 352) (by decide +kernel))
  | 12, _ => exact hs _ (List.mem_of_getElem? (i := 353) (by decide +kernel))
  | 13, _ => exact hs _ (List.mem_of_getElem? (i := 354) (by decide +kernel))
  | 14, _ => exact hs _ (List.mem_of_getElem? (i := 355) (by decide +kernel))
  | 15, _ => exact hs _ (List.mem_of_getElem? (i := 356) (by decide +kernel))
  | 16, _ => exact hs _ (List.mem_of_getElem? (i := 357) (by decide +kernel))
  | 17, _ => exact hs _ (List.mem_of_getElem? (i := 358) (by decide +kernel))
  | 18, _ => exact hs _ (List.mem_of_getElem? (i := 359) (by decide +kernel))
  | j + 19, hj => exact absurd hj (Nat.not_lt.mpr (Nat.le_add_left _ _))
theorem lw_s23 (hs : ∀ w ∈ lw_flat, w.before args s = true) (hts : ∀ w ∈ lw_tbl, w.before args s = true) (hA : ∀ a : Nat, a < s.heap.size → ¬ A a) : ∃ q : Nat × Nat, lw_S ("StorageLedger", 252, "a block cannot be exchanged with itself", [97, 32, 98, 108, 111, 99, 107, 32, 99, 97, 110, 110, 111, 116, 32, 98, 101, 32, 101, 120, 99, 104, 97, 110, 103, 101, 100, 32, 119, 105, 116, 104, 32, 105, 116, 115, 101, 108, 102]) A s q := by
  refine lw_str ("StorageLedger", 252, "a block cannot be exchanged with itself", [97, 32, 98, 108, 111, 99, 107, 32, 99, 97, 110, 110, 111, 116, 32, 98, 101, 32, 101, 120, 99, 104, 97, 110, 103, 101, 100, 32, 119, 105, 116, 104, 32, 105, 116, 115, 101, 108, 102]) (by decide) (hts _ (List.mem_append_right _ (List.mem_of_getElem? (i := 1125) (by decide +kernel)))) (hs _ (List.mem_of_getElem? (i := 360) (by decide +kernel))) (hs _ (List.mem_of_getElem? (i := 361) (by decide +kernel))) (hs _ (List.mem_of_getElem? (i := 362) (by decide +kernel))) (hs _ (List.mem_of_getElem? (i := 363) (by decide +kernel))) (fun j hj => ?_) hA
  match j, hj with
  | 0, _ => exact hs _ (List.mem_of_getElem? (i := 364) (by decide +kernel))
  | 1, _ => exact hs _ (List.mem_of_getElem? (i := 365) (by decide +kernel))
  | 2, _ => exact hs _ (List.mem_of_getElem? (i := 366) (by decide +kernel))
  | 3, _ => exact hs _ (List.mem_of_getElem? (i := 367) (by decide +kernel))
  | 4, _ => exact hs _ (List.mem_of_getElem? (i := 368) (by decide +kernel))
  | 5, _ => exact hs _ (List.mem_of_getElem? (i := 369) (by decide +kernel))
  | 6, _ => exact hs _ (List.mem_of_getElem? (i := 370) (by decide +kernel))
  | 7, _ => exact hs _ (List.mem_of_getElem? (i := 371) (by decide +kernel))
  | 8, _ => exact hs _ (List.mem_of_getElem? (i := 372) (by decide +kernel))
  | 9, _ => exact hs _ (List.mem_of_getElem? (i := 373) (by decide +kernel))
  | 10, _ => exact hs _ (List.mem_of_getElem? (i := 374) (by decide +kernel))
  | 11, _ => exact hs _ (List.mem_of_getElem? (i := 375) (by decide +kernel))
  | 12, _ => exact hs _ (List.mem_of_getElem? (i := 376) (by decide +kernel))
  | 13, _ => exact hs _ (List.mem_of_getElem? (i := 377) (by decide +kernel))
  | 14, _ => exact hs _ (List.mem_of_getElem? (i := 378) (by decide +kernel))
  | 15, _ => exact hs _ (List.mem_of_getElem? (i := 379) (by decide +kernel))
  | 16, _ => exact hs _ (List.mem_of_getElem? (i := 380) (by decide +kernel))
  | 17, _ => exact hs _ (List.mem_of_getElem? (i := 381) (by decide +kernel))
  | 18, _ => exact hs _ (List.mem_of_getElem? (i := 382) (by decide +kernel))
  | 19, _ => exact hs _ (List.mem_of_getElem? (i := 383) (by decide +kernel))
  | 20, _ => exact hs _ (List.mem_of_getElem? (i := 384) (by decide +kernel))
  | 21, _ => exact hs _ (List.mem_of_getElem? (i := 385) (by decide +kernel))
  | 22, _ => exact hs _ (List.mem_of_getElem? (i := 386) (by decide +kernel))
  | 23, _ => exact hs _ (List.mem_of_getElem? (i := 387) (by decide +kernel))
  | 24, _ => exact hs _ (List.mem_of_getElem? (i := 388) (by decide +kernel))
  | 25, _ => exact hs _ (List.mem_of_getElem? (i := 389) (by decide +kernel))
  | 26, _ => exact hs _ (List.mem_of_getElem? (i := 390) (by decide +kernel))
  | 27, _ => exact hs _ (List.mem_of_getElem? (i := 391) (by decide +kernel))
  | 28, _ => exact hs _ (List.mem_of_getElem? (i := 392) (by decide +kernel))
  | 29, _ => exact hs _ (List.mem_of_getElem? (i := 393) (by decide +kernel))
  | 30, _ => exact hs _ (List.mem_of_getElem? (i := 394) (by decide +kernel))
  | 31, _ => exact hs _ (List.mem_of_getElem? (i := 395) (by decide +kernel))
  | 32, _ => exact hs _ (List.mem_of_getElem? (i := 396) (by decide +kernel))
  | 33, _ => exact hs _ (List.mem_of_getElem? (i := 397) (by decide +kernel))
  | 34, _ => exact hs _ (List.mem_of_getElem? (i := 398) (by decide +kernel))
  | 35, _ => exact hs _ (List.mem_of_getElem? (i := 399) (by decide +kernel))
  | 36, _ => exact hs _ (List.mem_of_getElem? (i := 400) (by decide +kernel))
  | 37, _ => exact hs _ (List.mem_of_getElem? (i := 401) (by decide +kernel))
  | 38, _ => exact hs _ (List.mem_of_getElem? (i := 402) (by decide +kernel))
  | j + 39, hj => exact absurd hj (Nat.not_lt.mpr (Nat.le_add_left _ _))
theorem lw_s24 (hs : ∀ w ∈ lw_flat, w.before args s = true) (hts : ∀ w ∈ lw_tbl, w.before args s = true) (hA : ∀ a : Nat, a < s.heap.size → ¬ A a) : ∃ q : Nat × Nat, lw_S ("StorageLedger", 209, "no such property", [110, 111, 32, 115, 117, 99, 104, 32, 112, 114, 111, 112, 101, 114, 116, 121]) A s q := by
  refine lw_str ("StorageLedger", 209, "no such property", [110, 111, 32, 115, 117, 99, 104, 32, 112, 114, 111, 112, 101, 114, 116, 121]) (by decide) (hts _ (List.mem_append_right _ (List.mem_of_getElem? (i := 1153) (by decide +kernel)))) (hs _ (List.mem_of_getElem? (i := 403) (by decide +kernel))) (hs _ (List.mem_of_getElem? (i := 404) (by decide +kernel))) (hs _ (List.mem_of_getElem? (i := 405) (by decide +kernel))) (hs _ (List.mem_of_getElem? (i := 406) (by decide +kernel))) (fun j hj => ?_) hA
  match j, hj with
  | 0, _ => exact hs _ (List.mem_of_getElem? (i := 407) (by decide +kernel))
  | 1, _ => exact hs _ (List.mem_of_getElem? (i := 408) (by decide +kernel))
  | 2, _ => exact hs _ (List.mem_of_getElem? (i := 409) (by decide +kernel))
  | 3, _ => exact hs _ (List.mem_of_getElem? (i := 410) (by decide +kernel))
  | 4, _ => exact hs _ (List.mem_of_getElem? (i := 411) (by decide +kernel))
  | 5, _ => exact hs _ (List.mem_of_getElem? (i := 412) (by decide +kernel))
  | 6, _ => exact hs _ (List.mem_of_getElem? (i := 413) (by decide +kernel))
  | 7, _ => exact hs _ (List.mem_of_getElem? (i := 414) (by decide +kernel))
  | 8, _ => exact hs _ (List.mem_of_getElem? (i := 415) (by decide +kernel))
  | 9, _ => exact hs _ (List.mem_of_getElem? (i := 416) (by decide +kernel))
  | 10, _ => exact hs _ (List.mem_of_getElem? (i := 417) (by decide +kernel))
  | 11, _ => exact hs _ (List.mem_of_getElem? (i := 418) (by decide +kernel))
  | 12, _ => exact hs _ (List.mem_of_getElem? (i := 419) (by decide +kernel))
  | 13, _ => exact hs _ (List.mem_of_getElem? (i := 420) (by decide +kernel))
  | 14, _ => exact hs _ (List.mem_of_getElem? (i := 421) (by decide +kernel))
  | 15, _ => exact hs _ (List.mem_of_getElem? (i := 422) (by decide +kernel))
  | j + 16, hj => exact absurd hj (Nat.not_lt.mpr (Nat.le_add_left _ _))
theorem lw_s25 (hs : ∀ w ∈ lw_flat, w.before args s = true) (hts : ∀ w ∈ lw_tbl, w.before args s = true) (hA : ∀ a : Nat, a < s.heap.size → ¬ A a) : ∃ q : Nat × Nat, lw_S ("StorageLedger", 280, "negative time", [110, 101, 103, 97, 116, 105, 118, 101, 32, 116, 105, 109, 101]) A s q := by
  refine lw_str ("StorageLedger", 280, "negative time", [110, 101, 103, 97, 116, 105, 118, 101, 32, 116, 105, 109, 101]) (by decide) (hts _ (List.mem_append_right _ (List.mem_of_getElem? (i := 1170) (by decide +kernel)))) (hs _ (List.mem_of_getElem? (i := 423) (by decide +kernel))) (hs _ (List.mem_of_getElem? (i := 424) (by decide +kernel))) (hs _ (List.mem_of_getElem? (i := 425) (by decide +kernel))) (hs _ (List.mem_of_getElem? (i := 426) (by decide +kernel))) (fun j hj => ?_) hA
  match j, hj with
  | 0, _ => exact hs _ (List.mem_of_getElem? (i := 427) (by decide +kernel))
  | 1, _ => exact hs _ (List.mem_of_getElem? (i := 428) (by decide +kernel))
  | 2, _ => exact hs _ (List.mem_of_getElem? (i := 429) (by decide +kernel))
  | 3, _ => exact hs _ (List.mem_of_getElem? (i := 430) (by decide +kernel))
  | 4, _ => exact hs _ (List.mem_of_getElem? (i := 431) (by decide +kernel))
  | 5, _ => exact hs _ (List.mem_of_getElem? (i := 432) (by decide +kernel))
  | 6, _ => exact hs _ (List.mem_of_getElem? (i := 433) (by decide +kernel))
  | 7, _ => exact hs _ (List.mem_of_getElem? (i := 434) (by decide +kernel))
  | 8, _ => exact hs _ (List.mem_of_getElem? (i := 435) (by decide +kernel))
  | 9, _ => exact hs _ (List.mem_of_getElem? (i := 436) (by decide +kernel))
  | 10, _ => exact hs _ (List.mem_of_getElem? (i := 437) (by decide +kernel))
  | 11, _ => exact hs _ (List.mem_of_getElem? (i := 438) (by decide +kernel))
  | 12, _ => exact hs _ (List.mem_of_getElem? (i := 439) (by decide +kernel))
  | j + 13, hj => exact absurd hj (Nat.not_lt.mpr (Nat.le_add_left _ _))
theorem lw_s26 (hs : ∀ w ∈ lw_flat, w.before args s = true) (hts : ∀ w ∈ lw_tbl, w.before args s = true) (hA : ∀ a : Nat, a < s.heap.size → ¬ A a) : ∃ q : Nat × Nat, lw_S ("StorageLedger", 362, "no such interval", [110, 111, 32, 115, 117, 99, 104, 32, 105, 110, 116, 101, 114, 118, 97, 108]) A s q := by
  refine lw_str ("StorageLedger", 362, "no such interval", [110, 111, 32, 115, 117, 99, 104, 32, 105, 110, 116, 101, 114, 118, 97, 108]) (by decide) (hts _ (List.mem_append_right _ (List.mem_of_getElem? (i := 1186) (by decide +kernel)))) (hs _ (List.mem_of_getElem? (i := 440) (by decide +kernel))) (hs _ (List.mem_of_getElem? (i := 441) (by decide +kernel))) (hs _ (List.mem_of_getElem? (i := 442) (by decide +kernel))) (hs _ (List.mem_of_getElem? (i := 443) (by decide +kernel))) (fun j hj => ?_) hA
  match j, hj with
  | 0, _ => exact hs _ (List.mem_of_getElem? (i := 444) (by decide +kernel))
  | 1, _ => exact hs _ (List.mem_of_getElem? (i := 445) (by decide +kernel))
  | 2, _ => exact hs _ (List.mem_of_getElem? (i := 446) (by decide +kernel))
  | 3, _ => exact hs _ (List.mem_of_getElem? (i := 447) (by decide +kernel))
  | 4, _ => exact hs _ (List.mem_of_getElem? (i := 448) (by decide +kernel))
  | 5, _ => exact hs _ (List.mem_of_getElem? (i := 449) (by decide +kernel))
  | 6, _ => exact hs _ (List.mem_of_getElem? (i := 450) (by decide +kernel))
  | 7, _ => exact hs _ (List.mem_of_getElem? (i := 451) (by decide +kernel))
  | 8, _ => exact hs _ (List.mem_of_getElem? (i := 452) (by decide +kernel))
  | 9, _ => exact hs _ (List.mem_of_getElem? (i := 453) (by decide +kernel))
  | 10, _ => exact hs _ (List.mem_of_getElem? (i := 454) (by decide +kernel))
  | 11, _ => exact hs _ (List.mem_of_getElem? (i := 455) (by decide +kernel))
  | 12, _ => exact hs _ (List.mem_of_getElem? (i := 456) (by decide +kernel))
  | 13, _ => exact hs _ (List.mem_of_getElem? (i := 457) (by decide +kernel))
  | 14, _ => exact hs _ (List.mem_of_getElem? (i := 458) (by decide +kernel))
  | 15, _ => exact hs _ (List.mem_of_getElem? (i := 459) (by decide +kernel))
  | j + 16, hj => exact absurd hj (Nat.not_lt.mpr (Nat.le_add_left _ _))
theorem lw_s27 (hs : ∀ w ∈ lw_flat, w.before args s = true) (hts : ∀ w ∈ lw_tbl, w.before args s = true) (hA : ∀ a : Nat, a < s.heap.size → ¬ A a) : ∃ q : Nat × Nat, lw_S ("StorageLedger", 356, "no such checkpoints", [110, 111, 32, 115, 117, 99, 104, 32, 99, 104, 101, 99, 107, 112, 111, 105, 110, 116, 115]) A s q := by
  refine lw_str ("StorageLedger", 356, "no such checkpoints", [110, 111, 32, 115, 117, 99, 104, 32, 99, 104, 101, 99, 107, 112, 111, 105, 110, 116, 115]) (by decide) (hts _ (List.mem_append_right _ (List.mem_of_getElem? (i := 1306) (by decide +kernel)))) (hs _ (List.mem_of_getElem? (i := 460) (by decide +kernel))) (hs _ (List.mem_of_getElem? (i := 461) (by decide +kernel))) (hs _ (List.mem_of_getElem? (i := 462) (by decide +kernel))) (hs _ (List.mem_of_getElem? (i := 463) (by decide +kernel))) (fun j hj => ?_) hA
  match j, hj with
  | 0, _ => exact hs _ (List.mem_of_getElem? (i := 464) (by decide +kernel))
  | 1, _ => exact hs _ (List.mem_of_getElem? (i := 465) (by decide +kernel))
  | 2, _ => exact hs _ (List.mem_of_getElem? (i := 466) (by decide +kernel))
  | 3, _ => exact hs _ (List.mem_of_getElem? (i := 467) (by decide +kernel))
  | 4, _ => exact hs _ (List.mem_of_getElem? (i := 468) (by decide +kernel))
  | 5, _ => exact hs _ (List.mem_of_getElem? (i := 469) (by decide +kernel))
  | 6, _ => exact hs _ (List.mem_of_getElem? (i := 470) (by decide +kernel))
  | 7, _ => exact hs _ (List.mem_of_getElem? (i := 471) (by decide +kernel))
  | 8, _ => exact hs _ (List.mem_of_getElem? (i := 472) (by decide +kernel))
  | 9, _ => exact hs _ (List.mem_of_getElem? (i := 473) (by decide +kernel))
  | 10, _ => exact hs _ (List.mem_of_getElem? (i := 474) (by decide +kernel))
  | 11, _ => exact hs _ (List.mem_of_getElem? (i := 475) (by decide +kernel))
  | 12, _ => exact hs _ (List.mem_of_getElem? (i := 476) (by decide +kernel))
  | 13, _ => exact hs _ (List.mem_of_getElem? (i := 477) (by decide +kernel))
  | 14, _ => exact hs _ (List.mem_of_getElem? (i := 478) (by decide +kernel))
  | 15, _ => exact hs _ (List.mem_of_getElem? (i := 479) (by decide +kernel))
  | 16, _ => exact hs _ (List.mem_of_getElem? (i := 480) (by decide +kernel))
  | 17, _ => exact hs _ (List.mem_of_getElem? (i := 481) (by decide +kernel))
  | 18, _ => exact hs _ (List.mem_of_getElem? (i := 482) (by decide +kernel))
  | j + 19, hj => exact absurd hj (Nat.not_lt.mpr (Nat.le_add_left _ _))
theorem lw_s28 (hs : ∀ w ∈ lw_flat, w.before args s = true) (hts : ∀ w ∈ lw_tbl, w.before args s = true) (hA : ∀ a : Nat, a < s.heap.size → ¬ A a) : ∃ q : Nat × Nat, lw_S ("StorageLedger", 364, "no such slot", [110, 111, 32, 115, 117, 99, 104, 32, 115, 108, 111, 116]) A s q := by
  refine lw_str ("StorageLedger", 364, "no such slot", [110, 111, 32, 115, 117, 99, 104, 32, 115, 108, 111, 116]) (by decide) (hts _ (List.mem_append_right _ (List.mem_of_getElem? (i := 1341) (by decide +kernel)))) (hs _ (List.mem_of_getElem? (i := 483) (by decide +kernel))) (hs _ (List.mem_of_getElem? (i := 484) (by decide +kernel))) (hs _ (List.mem_of_getElem? (i := 485) (by decide +kernel))) (hs _ (List.mem_of_getElem? (i := 486) (by decide +kernel))) (fun j hj => ?_) hA
  match j, hj with
  | 0, _ => exact hs _ (List.mem_of_getElem? (i := 487) (by decide +kernel))
  | 1, _ => exact hs _ (List.mem_of_getElem? (i := 488) (by decide +kernel))
  | 2, _ => exact hs _ (List.mem_of_getElem? (i := 489) (by decide +kernel))
  | 3, _ => exact hs _ (List.mem_of_getElem? (i := 490) (by decide +kernel))
  | 4, _ => exact hs _ (List.mem_of_getElem? (i := 491) (by decide +kernel))
  | 5, _ => exact hs _ (List.mem_of_getElem? (i := 492) (by decide +kernel))
  | 6, _ => exact hs _ (List.mem_of_getElem? (i := 493) (by decide +kernel))
  | 7, _ => exact hs _ (List.mem_of_getElem? (i := 494) (by decide +kernel))
  | 8, _ => exact hs _ (List.mem_of_getElem? (i := 495) (by decide +kernel))
  | 9, _ => exact hs _ (List.mem_of_getElem? (i := 496) (by decide +kernel))
  | 10, _ => exact hs _ (List.mem_of_getElem? (i := 497) (by decide +kernel))
  | 11, _ => exact hs _ (List.mem_of_getElem? (i := 498) (by decide +kernel))
  | j + 12, hj => exact absurd hj (Nat.not_lt.mpr (Nat.le_add_left _ _))
theorem lw_s29 (hs : ∀ w ∈ lw_flat, w.before args s = true) (hts : ∀ w ∈ lw_tbl, w.before args s = true) (hA : ∀ a : Nat, a < s.heap.size → ¬ A a) : ∃ q : Nat × Nat, lw_S ("StorageLedgerModel", 240, "blocks", [98, 108, 111, 99, 107, 115]) A s q := by
  refine lw_str ("StorageLedgerModel", 240, "blocks", [98, 108, 111, 99, 107, 115]) (by decide) (hts _ (List.mem_append_right _ (List.mem_of_getElem? (i := 1597) (by decide +kernel)))) (hs _ (List.mem_of_getElem? (i := 499) (by decide +kernel))) (hs _ (List.mem_of_getElem? (i := 500) (by decide +kernel))) (hs _ (List.mem_of_getElem? (i := 501) (by decide +kernel))) (hs _ (List.mem_of_getElem? (i := 502) (by decide +kernel))) (fun j hj => ?_) hA
  match j, hj with
  | 0, _ => exact hs _ (List.mem_of_getElem? (i := 503) (by decide +kernel))
  | 1, _ => exact hs _ (List.mem_of_getElem? (i := 504) (by decide +kernel))
  | 2, _ => exact hs _ (List.mem_of_getElem? (i := 505) (by decide +kernel))
  | 3, _ => exact hs _ (List.mem_of_getElem? (i := 506) (by decide +kernel))
  | 4, _ => exact hs _ (List.mem_of_getElem? (i := 507) (by decide +kernel))
  | 5, _ => exact hs _ (List.mem_of_getElem? (i := 508) (by decide +kernel))
  | j + 6, hj => exact absurd hj (Nat.not_lt.mpr (Nat.le_add_left _ _))
theorem lw_s30 (hs : ∀ w ∈ lw_flat, w.before args s = true) (hts : ∀ w ∈ lw_tbl, w.before args s = true) (hA : ∀ a : Nat, a < s.heap.size → ¬ A a) : ∃ q : Nat × Nat, lw_S ("StorageLedgerModel", 226, "pool", [112, 111, 111, 108]) A s q := by
  refine lw_str ("StorageLedgerModel", 226, "pool", [112, 111, 111, 108]) (by decide) (hts _ (List.mem_append_right _ (List.mem_of_getElem? (i := 1622) (by decide +kernel)))) (hs _ (List.mem_of_getElem? (i := 510) (by decide +kernel))) (hs _ (List.mem_of_getElem? (i := 511) (by decide +kernel))) (hs _ (List.mem_of_getElem? (i := 512) (by decide +kernel))) (hs _ (List.mem_of_getElem? (i := 513) (by decide +kernel))) (fun j hj => ?_) hA
  match j, hj with
  | 0, _ => exact hs _ (List.mem_of_getElem? (i := 514) (by decide +kernel))
  | 1, _ => exact hs _ (List.mem_of_getElem? (i := 515) (by decide +kernel))
  | 2, _ => exact hs _ (List.mem_of_getElem? (i := 516) (by decide +kernel))
  | 3, _ => exact hs _ (List.mem_of_getElem? (i := 517) (by decide +kernel))
  | j + 4, hj => exact absurd hj (Nat.not_lt.mpr (Nat.le_add_left _ _))
theorem lw_s31 (hs : ∀ w ∈ lw_flat, w.before args s = true) (hts : ∀ w ∈ lw_tbl, w.before args s = true) (hA : ∀ a : Nat, a < s.heap.size → ¬ A a) : ∃ q : Nat × Nat, lw_S ("StorageLedgerModel", 205, "free", [102, 114, 101, 101]) A s q := by
  refine lw_str ("StorageLedgerModel", 205, "free", [102, 114, 101, 101]) (by decide) (hts _ (List.mem_append_right _ (List.mem_of_getElem? (i := 1627) (by decide +kernel)))) (hs _ (List.mem_of_getElem? (i := 519) (by decide +kernel))) (hs _ (List.mem_of_getElem? (i := 520) (by decide +kernel))) (hs _ (List.mem_of_getElem? (i := 521) (by decide +kernel))) (hs _ (List.mem_of_getElem? (i := 522) (by decide +kernel))) (fun j hj => ?_) hA
  match j, hj with
  | 0, _ => exact hs _ (List.mem_of_getElem? (i := 523) (by decide +kernel))
  | 1, _ => exact hs _ (List.mem_of_getElem? (i := 524) (by decide +kernel))
  | 2, _ => exact hs _ (List.mem_of_getElem? (i := 525) (by decide +kernel))
  | 3, _ => exact hs _ (List.mem_of_getElem? (i := 526) (by decide +kernel))
  | j + 4, hj => exact absurd hj (Nat.not_lt.mpr (Nat.le_add_left _ _))
theorem lw_s32 (hs : ∀ w ∈ lw_flat, w.before args s = true) (hts : ∀ w ∈ lw_tbl, w.before args s = true) (hA : ∀ a : Nat, a < s.heap.size → ¬ A a) : ∃ q : Nat × Nat, lw_S ("StorageLedgerModel", 230, "pick", [112, 105, 99, 107]) A s q := by
  refine lw_str ("StorageLedgerModel", 230, "pick", [112, 105, 99, 107]) (by decide) (hts _ (List.mem_append_right _ (List.mem_of_getElem? (i := 1636) (by decide +kernel)))) (hs _ (List.mem_of_getElem? (i := 528) (by decide +kernel))) (hs _ (List.mem_of_getElem? (i := 529) (by decide +kernel))) (hs _ (List.mem_of_getElem? (i := 530) (by decide +kernel))) (hs _ (List.mem_of_getElem? (i := 531) (by decide +kernel))) (fun j hj => ?_) hA
  match j, hj with
  | 0, _ => exact hs _ (List.mem_of_getElem? (i := 532) (by decide +kernel))
  | 1, _ => exact hs _ (List.mem_of_getElem? (i := 533) (by decide +kernel))
  | 2, _ => exact hs _ (List.mem_of_getElem? (i := 534) (by decide +kernel))
  | 3, _ => exact hs _ (List.mem_of_getElem? (i := 535) (by decide +kernel))
  | j + 4, hj => exact absurd hj (Nat.not_lt.mpr (Nat.le_add_left _ _))
theorem lw_s33 (hs : ∀ w ∈ lw_flat, w.before args s = true) (hts : ∀ w ∈ lw_tbl, w.before args s = true) (hA : ∀ a : Nat, a < s.heap.size → ¬ A a) : ∃ q : Nat × Nat, lw_S ("StorageLedgerModel", 214, "lowest", [108, 111, 119, 101, 115, 116]) A s q := by
  refine lw_str ("StorageLedgerModel", 214, "lowest", [108, 111, 119, 101, 115, 116]) (by decide) (hts _ (List.mem_append_right _ (List.mem_of_getElem? (i := 1641) (by decide +kernel)))) (hs _ (List.mem_of_getElem? (i := 537) (by decide +kernel))) (hs _ (List.mem_of_getElem? (i := 538) (by decide +kernel))) (hs _ (List.mem_of_getElem? (i := 539) (by decide +kernel))) (hs _ (List.mem_of_getElem? (i := 540) (by decide +kernel))) (fun j hj => ?_) hA
  match j, hj with
  | 0, _ => exact hs _ (List.mem_of_getElem? (i := 541) (by decide +kernel))
  | 1, _ => exact hs _ (List.mem_of_getElem? (i := 542) (by decide +kernel))
  | 2, _ => exact hs _ (List.mem_of_getElem? (i := 543) (by decide +kernel))
  | 3, _ => exact hs _ (List.mem_of_getElem? (i := 544) (by decide +kernel))
  | 4, _ => exact hs _ (List.mem_of_getElem? (i := 545) (by decide +kernel))
  | 5, _ => exact hs _ (List.mem_of_getElem? (i := 546) (by decide +kernel))
  | j + 6, hj => exact absurd hj (Nat.not_lt.mpr (Nat.le_add_left _ _))
theorem lw_s34 (hs : ∀ w ∈ lw_flat, w.before args s = true) (hts : ∀ w ∈ lw_tbl, w.before args s = true) (hA : ∀ a : Nat, a < s.heap.size → ¬ A a) : ∃ q : Nat × Nat, lw_S ("StorageLedgerModel", 216, "highest", [104, 105, 103, 104, 101, 115, 116]) A s q := by
  refine lw_str ("StorageLedgerModel", 216, "highest", [104, 105, 103, 104, 101, 115, 116]) (by decide) (hts _ (List.mem_append_right _ (List.mem_of_getElem? (i := 1642) (by decide +kernel)))) (hs _ (List.mem_of_getElem? (i := 548) (by decide +kernel))) (hs _ (List.mem_of_getElem? (i := 549) (by decide +kernel))) (hs _ (List.mem_of_getElem? (i := 550) (by decide +kernel))) (hs _ (List.mem_of_getElem? (i := 551) (by decide +kernel))) (fun j hj => ?_) hA
  match j, hj with
  | 0, _ => exact hs _ (List.mem_of_getElem? (i := 552) (by decide +kernel))
  | 1, _ => exact hs _ (List.mem_of_getElem? (i := 553) (by decide +kernel))
  | 2, _ => exact hs _ (List.mem_of_getElem? (i := 554) (by decide +kernel))
  | 3, _ => exact hs _ (List.mem_of_getElem? (i := 555) (by decide +kernel))
  | 4, _ => exact hs _ (List.mem_of_getElem? (i := 556) (by decide +kernel))
  | 5, _ => exact hs _ (List.mem_of_getElem? (i := 557) (by decide +kernel))
  | 6, _ => exact hs _ (List.mem_of_getElem? (i := 558) (by decide +kernel))
  | j + 7, hj => exact absurd hj (Nat.not_lt.mpr (Nat.le_add_left _ _))
theorem lw_s35 (hs : ∀ w ∈ lw_flat, w.before args s = true) (hts : ∀ w ∈ lw_tbl, w.before args s = true) (hA : ∀ a : Nat, a < s.heap.size → ¬ A a) : ∃ q : Nat × Nat, lw_S ("StorageLedgerModel", 218, "oldest", [111, 108, 100, 101, 115, 116]) A s q := by
  refine lw_str ("StorageLedgerModel", 218, "oldest", [111, 108, 100, 101, 115, 116]) (by decide) (hts _ (List.mem_append_right _ (List.mem_of_getElem? (i := 1643) (by decide +kernel)))) (hs _ (List.mem_of_getElem? (i := 560) (by decide +kernel))) (hs _ (List.mem_of_getElem? (i := 561) (by decide +kernel))) (hs _ (List.mem_of_getElem? (i := 562) (by decide +kernel))) (hs _ (List.mem_of_getElem? (i := 563) (by decide +kernel))) (fun j hj => ?_) hA
  match j, hj with
  | 0, _ => exact hs _ (List.mem_of_getElem? (i := 564) (by decide +kernel))
  | 1, _ => exact hs _ (List.mem_of_getElem? (i := 565) (by decide +kernel))
  | 2, _ => exact hs _ (List.mem_of_getElem? (i := 566) (by decide +kernel))
  | 3, _ => exact hs _ (List.mem_of_getElem? (i := 567) (by decide +kernel))
  | 4, _ => exact hs _ (List.mem_of_getElem? (i := 568) (by decide +kernel))
  | 5, _ => exact hs _ (List.mem_of_getElem? (i := 569) (by decide +kernel))
  | j + 6, hj => exact absurd hj (Nat.not_lt.mpr (Nat.le_add_left _ _))
theorem lw_s36 (hs : ∀ w ∈ lw_flat, w.before args s = true) (hts : ∀ w ∈ lw_tbl, w.before args s = true) (hA : ∀ a : Nat, a < s.heap.size → ¬ A a) : ∃ q : Nat × Nat, lw_S ("StorageLedgerModel", 220, "fitting", [102, 105, 116, 116, 105, 110, 103]) A s q := by
  refine lw_str ("StorageLedgerModel", 220, "fitting", [102, 105, 116, 116, 105, 110, 103]) (by decide) (hts _ (List.mem_append_right _ (List.mem_of_getElem? (i := 1644) (by decide +kernel)))) (hs _ (List.mem_of_getElem? (i := 571) (by decide +kernel))) (hs _ (List.mem_of_getElem? (i := 572) (by decide +kernel))) (hs _ (List.mem_of_getElem? (i := 573) (by decide +kernel))) (hs _ (List.mem_of_getElem? (i := 574) (by decide +kernel))) (fun j hj => ?_) hA
  match j, hj with
  | 0, _ => exact hs _ (List.mem_of_getElem? (i := 575) (by decide +kernel))
  | 1, _ => exact hs _ (List.mem_of_getElem? (i := 576) (by decide +kernel))
  | 2, _ => exact hs _ (List.mem_of_getElem? (i := 577) (by decide +kernel))
  | 3, _ => exact hs _ (List.mem_of_getElem? (i := 578) (by decide +kernel))
  | 4, _ => exact hs _ (List.mem_of_getElem? (i := 579) (by decide +kernel))
  | 5, _ => exact hs _ (List.mem_of_getElem? (i := 580) (by decide +kernel))
  | 6, _ => exact hs _ (List.mem_of_getElem? (i := 581) (by decide +kernel))
  | j + 7, hj => exact absurd hj (Nat.not_lt.mpr (Nat.le_add_left _ _))
theorem lw_s37 (hs : ∀ w ∈ lw_flat, w.before args s = true) (hts : ∀ w ∈ lw_tbl, w.before args s = true) (hA : ∀ a : Nat, a < s.heap.size → ¬ A a) : ∃ q : Nat × Nat, lw_S ("StorageLedgerModel", 235, "grant", [103, 114, 97, 110, 116]) A s q := by
  refine lw_str ("StorageLedgerModel", 235, "grant", [103, 114, 97, 110, 116]) (by decide) (hts _ (List.mem_append_right _ (List.mem_of_getElem? (i := 1645) (by decide +kernel)))) (hs _ (List.mem_of_getElem? (i := 583) (by decide +kernel))) (hs _ (List.mem_of_getElem? (i := 584) (by decide +kernel))) (hs _ (List.mem_of_getElem? (i := 585) (by decide +kernel))) (hs _ (List.mem_of_getElem? (i := 586) (by decide +kernel))) (fun j hj => ?_) hA
  match j, hj with
  | 0, _ => exact hs _ (List.mem_of_getElem? (i := 587) (by decide +kernel))
  | 1, _ => exact hs _ (List.mem_of_getElem? (i := 588) (by decide +kernel))
  | 2, _ => exact hs _ (List.mem_of_getElem? (i := 589) (by decide +kernel))
  | 3, _ => exact hs _ (List.mem_of_getElem? (i := 590) (by decide +kernel))
  | 4, _ => exact hs _ (List.mem_of_getElem? (i := 591) (by decide +kernel))
  | j + 5, hj => exact absurd hj (Nat.not_lt.mpr (Nat.le_add_left _ _))
theorem lw_s38 (hs : ∀ w ∈ lw_flat, w.before args s = true) (hts : ∀ w ∈ lw_tbl, w.before args s = true) (hA : ∀ a : Nat, a < s.heap.size → ¬ A a) : ∃ q : Nat × Nat, lw_S ("StorageLedgerModel", 258, "move", [109, 111, 118, 101]) A s q := by
  refine lw_str ("StorageLedgerModel", 258, "move", [109, 111, 118, 101]) (by decide) (hts _ (List.mem_append_right _ (List.mem_of_getElem? (i := 1673) (by decide +kernel)))) (hs _ (List.mem_of_getElem? (i := 593) (by decide +kernel))) (hs _ (List.mem_of_getElem? (i := 594) (by decide +kernel))) (hs _ (List.mem_of_getElem? (i := 595) (by decide +kernel))) (hs _ (List.mem_of_getElem? (i := 596) (by decide +kernel))) (fun j hj => ?_) hA
  match j, hj with
  | 0, _ => exact hs _ (List.mem_of_getElem? (i := 597) (by decide +kernel))
  | 1, _ => exact hs _ (List.mem_of_getElem? (i := 598) (by decide +kernel))
  | 2, _ => exact hs _ (List.mem_of_getElem? (i := 599) (by decide +kernel))
  | 3, _ => exact hs _ (List.mem_of_getElem? (i := 600) (by decide +kernel))
  | j + 4, hj => exact absurd hj (Nat.not_lt.mpr (Nat.le_add_left _ _))
theorem lw_s39 (hs : ∀ w ∈ lw_flat, w.before args s = true) (hts : ∀ w ∈ lw_tbl, w.before args s = true) (hA : ∀ a : Nat, a < s.heap.size → ¬ A a) : ∃ q : Nat × Nat, lw_S ("StorageLedgerModel", 263, "hold", [104, 111, 108, 100]) A s q := by
  refine lw_str ("StorageLedgerModel", 263, "hold", [104, 111, 108, 100]) (by decide) (hts _ (List.mem_append_right _ (List.mem_of_getElem? (i := 1678) (by decide +kernel)))) (hs _ (List.mem_of_getElem? (i := 602) (by decide +kernel))) (hs _ (List.mem_of_getElem? (i := 603) (by decide +kernel))) (hs _ (List.mem_of_getElem? (i := 604) (by decide +kernel))) (hs _ (List.mem_of_getElem? (i := 605) (by decide +kernel))) (fun j hj => ?_) hA
  match j, hj with
  | 0, _ => exact hs _ (List.mem_of_getElem? (i := 606) (by decide +kernel))
  | 1, _ => exact hs _ (List.mem_of_getElem? (i := 607) (by decide +kernel))
  | 2, _ => exact hs _ (List.mem_of_getElem? (i := 608) (by decide +kernel))
  | 3, _ => exact hs _ (List.mem_of_getElem? (i := 609) (by decide +kernel))
  | j + 4, hj => exact absurd hj (Nat.not_lt.mpr (Nat.le_add_left _ _))
theorem lw_s40 (hs : ∀ w ∈ lw_flat, w.before args s = true) (hts : ∀ w ∈ lw_tbl, w.before args s = true) (hA : ∀ a : Nat, a < s.heap.size → ¬ A a) : ∃ q : Nat × Nat, lw_S ("StorageLedgerModel", 264, "wait", [119, 97, 105, 116]) A s q := by
  refine lw_str ("StorageLedgerModel", 264, "wait", [119, 97, 105, 116]) (by decide) (hts _ (List.mem_append_right _ (List.mem_of_getElem? (i := 1679) (by decide +kernel)))) (hs _ (List.mem_of_getElem? (i := 611) (by decide +kernel))) (hs _ (List.mem_of_getElem? (i := 612) (by decide +kernel))) (hs _ (List.mem_of_getElem? (i := 613) (by decide +kernel))) (hs _ (List.mem_of_getElem? (i := 614) (by decide +kernel))) (fun j hj => ?_) hA
  match j, hj with
  | 0, _ => exact hs _ (List.mem_of_getElem? (i := 615) (by decide +kernel))
  | 1, _ => exact hs _ (List.mem_of_getElem? (i := 616) (by decide +kernel))
  | 2, _ => exact hs _ (List.mem_of_getElem? (i := 617) (by decide +kernel))
  | 3, _ => exact hs _ (List.mem_of_getElem? (i := 618) (by decide +kernel))
  | j + 4, hj => exact absurd hj (Nat.not_lt.mpr (Nat.le_add_left _ _))
theorem lw_s41 (hs : ∀ w ∈ lw_flat, w.before args s = true) (hts : ∀ w ∈ lw_tbl, w.before args s = true) (hA : ∀ a : Nat, a < s.heap.size → ¬ A a) : ∃ q : Nat × Nat, lw_S ("StorageLedgerModel", 266, "back", [98, 97, 99, 107]) A s q := by
  refine lw_str ("StorageLedgerModel", 266, "back", [98, 97, 99, 107]) (by decide) (hts _ (List.mem_append_right _ (List.mem_of_getElem? (i := 1680) (by decide +kernel)))) (hs _ (List.mem_of_getElem? (i := 620) (by decide +kernel))) (hs _ (List.mem_of_getElem? (i := 621) (by decide +kernel))) (hs _ (List.mem_of_getElem? (i := 622) (by decide +kernel))) (hs _ (List.mem_of_getElem? (i := 623) (by decide +kernel))) (fun j hj => ?_) hA
  match j, hj with
  | 0, _ => exact hs _ (List.mem_of_getElem? (i := 624) (by decide +kernel))
  | 1, _ => exact hs _ (List.mem_of_getElem? (i := 625) (by decide +kernel))
  | 2, _ => exact hs _ (List.mem_of_getElem? (i := 626) (by decide +kernel))
  | 3, _ => exact hs _ (List.mem_of_getElem? (i := 627) (by decide +kernel))
  | j + 4, hj => exact absurd hj (Nat.not_lt.mpr (Nat.le_add_left _ _))
theorem lw_sall (hs : ∀ w ∈ lw_flat, w.before args s = true) (hts : ∀ w ∈ lw_tbl, w.before args s = true) (hA : ∀ a : Nat, a < s.heap.size → ¬ A a) : ∀ r ∈ ax_strs, ∃ q : Nat × Nat, lw_S r A s q := List.forall_mem_cons.mpr ⟨lw_s0 hs hts hA, List.forall_mem_cons.mpr ⟨lw_s1 hs hts hA, List.forall_mem_cons.mpr ⟨lw_s2 hs hts hA, List.forall_mem_cons.mpr ⟨lw_s3 hs hts hA, List.forall_mem_cons.mpr ⟨lw_s4 hs hts hA, List.forall_mem_cons.mpr ⟨lw_s5 hs hts hA, List.forall_mem_cons.mpr ⟨lw_s6 hs hts hA, List.forall_mem_cons.mpr ⟨lw_s7 hs hts hA, List.forall_mem_cons.mpr ⟨lw_s8 hs hts hA, List.forall_mem_cons.mpr ⟨lw_s9 hs hts hA, List.forall_mem_cons.mpr ⟨lw_s10 hs hts hA, List.forall_mem_cons.mpr ⟨lw_s11 hs hts hA, List.forall_mem_cons.mpr ⟨lw_s12 hs hts hA, List.forall_mem_cons.mpr ⟨lw_s13 hs hts hA, List.forall_mem_cons.mpr ⟨lw_s14 hs hts hA, List.forall_mem_cons.mpr ⟨lw_s15 hs hts hA, List.forall_mem_cons.mpr ⟨lw_s16 hs hts hA, List.forall_mem_cons.mpr ⟨lw_s17 hs hts hA, List.forall_mem_cons.mpr ⟨lw_s18 hs hts hA, List.forall_mem_cons.mpr ⟨lw_s19 hs hts hA, List.forall_mem_cons.mpr ⟨lw_s20 hs hts hA, List.forall_mem_cons.mpr ⟨lw_s21 hs hts hA, List.forall_mem_cons.mpr ⟨lw_s22 hs hts hA, List.forall_mem_cons.mpr ⟨lw_s23 hs hts hA, List.forall_mem_cons.mpr ⟨lw_s24 hs hts hA, List.forall_mem_cons.mpr ⟨lw_s25 hs hts hA, List.forall_mem_cons.mpr ⟨lw_s26 hs hts hA, List.forall_mem_cons.mpr ⟨lw_s27 hs hts hA, List.forall_mem_cons.mpr ⟨lw_s28 hs hts hA, List.forall_mem_cons.mpr ⟨lw_s29 hs hts hA, List.forall_mem_cons.mpr ⟨lw_s30 hs hts hA, List.forall_mem_cons.mpr ⟨lw_s31 hs hts hA, List.forall_mem_cons.mpr ⟨lw_s32 hs hts hA, List.forall_mem_cons.mpr ⟨lw_s33 hs hts hA, List.forall_mem_cons.mpr ⟨lw_s34 hs hts hA, List.forall_mem_cons.mpr ⟨lw_s35 hs hts hA, List.forall_mem_cons.mpr ⟨lw_s36 hs hts hA, List.forall_mem_cons.mpr ⟨lw_s37 hs hts hA, List.forall_mem_cons.mpr ⟨lw_s38 hs hts hA, List.forall_mem_cons.mpr ⟨lw_s39 hs hts hA, List.forall_mem_cons.mpr ⟨lw_s40 hs hts hA, List.forall_mem_cons.mpr ⟨lw_s41 hs hts hA, fun _ h => absurd h List.not_mem_nil⟩⟩⟩⟩⟩⟩⟩⟩⟩⟩⟩⟩⟩⟩⟩⟩⟩⟩⟩⟩⟩⟩⟩⟩⟩⟩⟩⟩⟩⟩⟩⟩⟩⟩⟩⟩⟩⟩⟩⟩⟩⟩
theorem lw_cl (hts : ∀ w ∈ lw_tbl, w.before args s = true) : ∀ ci : Nat, ∃ q : ClassId × (Nat → Nat), ∀ r : vw_C, vwCl[ci]? = some r → u_Kn s r.1 r.2.1 r.2.2 q.1 q.2 := by
  have hT : ∀ w ∈ TB, w.before args s = true := fun w hw => hts w (List.mem_filter.mp hw).1
  intro ci
  match ci with
  | 0 =>
    obtain ⟨c, i, h⟩ := u_known (C := RX0) (T := TX0) (N := 3) hT inX0 (hts (Cond.instantiable "StorageLedger$BatchReader" (3 : Nat)) (List.mem_append_right _ (List.mem_of_getElem? (i := 79) (by decide +kernel))))
    exact ⟨(c, i), fun r hr => by cases hr; exact h⟩
  | 1 =>
    obtain ⟨c, i, h⟩ := u_known (C := RX1) (T := TX1) (N := 4) hT inX1 (hts (Cond.instantiable "StorageLedger$BlockMap" (4 : Nat)) (List.mem_append_right _ (List.mem_of_getElem? (i := 136) (by decide +kernel))))
    exact ⟨(c, i), fun r hr => by cases hr; exact h⟩
  | 2 =>
    obtain ⟨c, i, h⟩ := u_known (C := RX2) (T := TX2) (N := 2) hT inX2 (hts (Cond.instantiable "StorageLedger$Checkpoints" (2 : Nat)) (List.mem_append_right _ (List.mem_of_getElem? (i := 198) (by decide +kernel))))
    exact ⟨(c, i), fun r hr => by cases hr; exact h⟩
  | 3 =>
    obtain ⟨c, i, h⟩ := u_known (C := RX3) (T := TX3) (N := 1) hT inX3 (hts (Cond.instantiable "StorageLedger$DescriptionReader" (1 : Nat)) (List.mem_append_right _ (List.mem_of_getElem? (i := 69) (by decide +kernel))))
    exact ⟨(c, i), fun r hr => by cases hr; exact h⟩
  | 4 =>
    obtain ⟨c, i, h⟩ := u_known (C := RX4) (T := TX4) (N := 3) hT inX4 (hts (Cond.instantiable "StorageLedger$Journal" (3 : Nat)) (List.mem_append_right _ (List.mem_of_getElem? (i := 163) (by decide +kernel))))
    exact ⟨(c, i), fun r hr => by cases hr; exact h⟩
  | 5 =>
    obtain ⟨c, i, h⟩ := u_known (C := RX5) (T := TX5) (N := 8) hT inX5 (hts (Cond.instantiable "StorageLedger$Ledger" (8 : Nat)) (List.mem_append_right _ (List.mem_of_getElem? (i := 97) (by decide +kernel))))
    exact ⟨(c, i), fun r hr => by cases hr; exact h⟩
  | 6 =>
    obtain ⟨c, i, h⟩ := u_known (C := RX6) (T := TX6) (N := 6) hT inX6 (hts (Cond.instantiable "StorageLedger$Pools" (6 : Nat)) (List.mem_append_right _ (List.mem_of_getElem? (i := 103) (by decide +kernel))))
    exact ⟨(c, i), fun r hr => by cases hr; exact h⟩
  | 7 =>
    obtain ⟨c, i, h⟩ := u_known (C := RX7) (T := TX7) (N := 2) hT inX7 (hts (Cond.instantiable "StorageLedger$Reservations" (2 : Nat)) (List.mem_append_right _ (List.mem_of_getElem? (i := 183) (by decide +kernel))))
    exact ⟨(c, i), fun r hr => by cases hr; exact h⟩
  | 8 =>
    obtain ⟨c, i, h⟩ := u_known (C := RX8) (T := TX8) (N := 7) hT inX8 (hts (Cond.instantiable "StorageLedger$Text" (7 : Nat)) (List.mem_append_right _ (List.mem_of_getElem? (i := 32) (by decide +kernel))))
    exact ⟨(c, i), fun r hr => by cases hr; exact h⟩
  | 9 =>
    obtain ⟨c, i, h⟩ := u_known (C := RX9) (T := TX9) (N := 7) hT inX9 (hts (Cond.instantiable "StorageLedger" (7 : Nat)) (List.mem_append_right _ (List.mem_of_getElem? (i := 24) (by decide +kernel))))
    exact ⟨(c, i), fun r hr => by cases hr; exact h⟩
  | 10 =>
    obtain ⟨c, i, h⟩ := u_known (C := RX10) (T := TX10) (N := 19) hT inX10 (hts (Cond.instantiable "StorageLedgerModel" (19 : Nat)) (List.mem_append_right _ (List.mem_of_getElem? (i := 1350) (by decide +kernel))))
    exact ⟨(c, i), fun r hr => by cases hr; exact h⟩
  | n + 11 => exact ⟨(Classical.choice ⟨(default : ClassId)⟩, fun _ => 0), fun r hr => absurd hr (by simp)⟩
theorem lw_free (hs : ∀ w ∈ lw_flat, w.before args s = true) (hA : ∀ a : Nat, a < s.heap.size → ¬ A a) : ∃ t : Nat, (Jvm.Term.static "StorageLedger" "FREE_NAME" "[I").eval args s none [] s = some (.ref t) ∧ va_T .int t 4 (fun j => .int (([102, 114, 101, 101] : List Int32).getD j 0)) A s s.heap := by
  refine va_Tof (N := 4) (by decide) (hs _ (List.mem_of_getElem? (i := 5) (by decide +kernel))) (va_eqt (hs _ (List.mem_of_getElem? (i := 6) (by decide +kernel)))) (fun j hj => ?_) hA
  match j, hj with
  | 0, _ => exact va_eqt (hs _ (List.mem_of_getElem? (i := 7) (by decide +kernel)))
  | 1, _ => exact va_eqt (hs _ (List.mem_of_getElem? (i := 8) (by decide +kernel)))
  | 2, _ => exact va_eqt (hs _ (List.mem_of_getElem? (i := 9) (by decide +kernel)))
  | 3, _ => exact va_eqt (hs _ (List.mem_of_getElem? (i := 10) (by decide +kernel)))
  | j + 4, hj => exact absurd hj (Nat.not_lt.mpr (Nat.le_add_left _ _))
end
