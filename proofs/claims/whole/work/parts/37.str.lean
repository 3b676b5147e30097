/-! ===== String constants ===== -/
theorem dJ0_length_8abf5_0 : decode cJ0_length_8abf5 0 = .ok (.aload_n 0, 1) := by decide +kernel
theorem dJ0_length_8abf5_1 : decode cJ0_length_8abf5 1 = .ok (.getfield 9, 3) := by decide +kernel
theorem dJ0_length_8abf5_4 : decode cJ0_length_8abf5 4 = .ok (.arraylength, 1) := by decide +kernel
theorem dJ0_length_8abf5_5 : decode cJ0_length_8abf5 5 = .ok (.aload_n 0, 1) := by decide +kernel
theorem dJ0_length_8abf5_6 : decode cJ0_length_8abf5 6 = .ok (.invokevirtual 335, 3) := by decide +kernel
theorem dJ0_length_8abf5_9 : decode cJ0_length_8abf5 9 = .ok (.ishr, 1) := by decide +kernel
theorem dJ0_length_8abf5_10 : decode cJ0_length_8abf5 10 = .ok (.ireturn, 1) := by decide +kernel
theorem dJ0_coder_7d493_0 : decode cJ0_coder_7d493 0 = .ok (.getstatic 38, 3) := by decide +kernel
theorem dJ0_coder_7d493_3 : decode cJ0_coder_7d493 3 = .ok (.ifCond .eq 10, 3) := by decide +kernel
theorem dJ0_coder_7d493_6 : decode cJ0_coder_7d493 6 = .ok (.aload_n 0, 1) := by decide +kernel
theorem dJ0_coder_7d493_7 : decode cJ0_coder_7d493 7 = .ok (.getfield 15, 3) := by decide +kernel
theorem dJ0_coder_7d493_10 : decode cJ0_coder_7d493 10 = .ok (.goto 4, 3) := by decide +kernel
theorem dJ0_coder_7d493_13 : decode cJ0_coder_7d493 13 = .ok (.iconst 1, 1) := by decide +kernel
theorem dJ0_coder_7d493_14 : decode cJ0_coder_7d493 14 = .ok (.ireturn, 1) := by decide +kernel
theorem dJ0_charAt_5068e_0 : decode cJ0_charAt_5068e 0 = .ok (.aload_n 0, 1) := by decide +kernel
theorem dJ0_charAt_5068e_1 : decode cJ0_charAt_5068e 1 = .ok (.invokevirtual 492, 3) := by decide +kernel
theorem dJ0_charAt_5068e_4 : decode cJ0_charAt_5068e 4 = .ok (.ifCond .eq 12, 3) := by decide +kernel
theorem dJ0_charAt_5068e_7 : decode cJ0_charAt_5068e 7 = .ok (.aload_n 0, 1) := by decide +kernel
theorem dJ0_charAt_5068e_8 : decode cJ0_charAt_5068e 8 = .ok (.getfield 9, 3) := by decide +kernel
theorem dJ0_charAt_5068e_11 : decode cJ0_charAt_5068e 11 = .ok (.iload_n 1, 1) := by decide +kernel
theorem dJ0_charAt_5068e_12 : decode cJ0_charAt_5068e 12 = .ok (.invokestatic 495, 3) := by decide +kernel
theorem dJ0_charAt_5068e_15 : decode cJ0_charAt_5068e 15 = .ok (.ireturn, 1) := by decide +kernel
theorem dJ0_charAt_5068e_16 : decode cJ0_charAt_5068e 16 = .ok (.aload_n 0, 1) := by decide +kernel
theorem dJ0_charAt_5068e_17 : decode cJ0_charAt_5068e 17 = .ok (.getfield 9, 3) := by decide +kernel
theorem dJ0_charAt_5068e_20 : decode cJ0_charAt_5068e 20 = .ok (.iload_n 1, 1) := by decide +kernel
theorem dJ0_charAt_5068e_21 : decode cJ0_charAt_5068e 21 = .ok (.invokestatic 498, 3) := by decide +kernel
theorem dJ0_charAt_5068e_24 : decode cJ0_charAt_5068e 24 = .ok (.ireturn, 1) := by decide +kernel
theorem dJ0_isLatin1_aae02_0 : decode cJ0_isLatin1_aae02 0 = .ok (.getstatic 38, 3) := by decide +kernel
theorem dJ0_isLatin1_aae02_3 : decode cJ0_isLatin1_aae02 3 = .ok (.ifCond .eq 14, 3) := by decide +kernel
theorem dJ0_isLatin1_aae02_6 : decode cJ0_isLatin1_aae02 6 = .ok (.aload_n 0, 1) := by decide +kernel
theorem dJ0_isLatin1_aae02_7 : decode cJ0_isLatin1_aae02 7 = .ok (.getfield 15, 3) := by decide +kernel
theorem dJ0_isLatin1_aae02_10 : decode cJ0_isLatin1_aae02 10 = .ok (.ifCond .ne 7, 3) := by decide +kernel
theorem dJ0_isLatin1_aae02_13 : decode cJ0_isLatin1_aae02 13 = .ok (.iconst 1, 1) := by decide +kernel
theorem dJ0_isLatin1_aae02_14 : decode cJ0_isLatin1_aae02 14 = .ok (.goto 4, 3) := by decide +kernel
theorem dJ0_isLatin1_aae02_17 : decode cJ0_isLatin1_aae02 17 = .ok (.iconst 0, 1) := by decide +kernel
theorem dJ0_isLatin1_aae02_18 : decode cJ0_isLatin1_aae02 18 = .ok (.ireturn, 1) := by decide +kernel
theorem dJ0_checkIndex_df160_0 : decode cJ0_checkIndex_df160 0 = .ok (.iload_n 0, 1) := by decide +kernel
theorem dJ0_checkIndex_df160_1 : decode cJ0_checkIndex_df160 1 = .ok (.iload_n 1, 1) := by decide +kernel
theorem dJ0_checkIndex_df160_2 : decode cJ0_checkIndex_df160 2 = .ok (.getstatic 1053, 3) := by decide +kernel
theorem dJ0_checkIndex_df160_5 : decode cJ0_checkIndex_df160 5 = .ok (.invokestatic 1059, 3) := by decide +kernel
theorem dJ0_checkIndex_df160_8 : decode cJ0_checkIndex_df160 8 = .ok (.pop, 1) := by decide +kernel
theorem dJ0_checkIndex_df160_9 : decode cJ0_checkIndex_df160 9 = .ok (.return_, 1) := by decide +kernel
theorem dJ1_charAt_3b067_0 : decode cJ1_charAt_3b067 0 = .ok (.iload_n 1, 1) := by decide +kernel
theorem dJ1_charAt_3b067_1 : decode cJ1_charAt_3b067 1 = .ok (.aload_n 0, 1) := by decide +kernel
theorem dJ1_charAt_3b067_2 : decode cJ1_charAt_3b067 2 = .ok (.arraylength, 1) := by decide +kernel
theorem dJ1_charAt_3b067_3 : decode cJ1_charAt_3b067 3 = .ok (.invokestatic 9, 3) := by decide +kernel
theorem dJ1_charAt_3b067_6 : decode cJ1_charAt_3b067 6 = .ok (.aload_n 0, 1) := by decide +kernel
theorem dJ1_charAt_3b067_7 : decode cJ1_charAt_3b067 7 = .ok (.iload_n 1, 1) := by decide +kernel
theorem dJ1_charAt_3b067_8 : decode cJ1_charAt_3b067 8 = .ok (.baload, 1) := by decide +kernel
theorem dJ1_charAt_3b067_9 : decode cJ1_charAt_3b067 9 = .ok (.sipush 255, 3) := by decide +kernel
theorem dJ1_charAt_3b067_12 : decode cJ1_charAt_3b067 12 = .ok (.iand, 1) := by decide +kernel
theorem dJ1_charAt_3b067_13 : decode cJ1_charAt_3b067 13 = .ok (.i2c, 1) := by decide +kernel
theorem dJ1_charAt_3b067_14 : decode cJ1_charAt_3b067 14 = .ok (.ireturn, 1) := by decide +kernel
theorem dJ3_checkIndex_8e157_0 : decode cJ3_checkIndex_8e157 0 = .ok (.iload_n 0, 1) := by decide +kernel
theorem dJ3_checkIndex_8e157_1 : decode cJ3_checkIndex_8e157 1 = .ok (.ifCond .lt 8, 3) := by decide +kernel
theorem dJ3_checkIndex_8e157_4 : decode cJ3_checkIndex_8e157 4 = .ok (.iload_n 0, 1) := by decide +kernel
theorem dJ3_checkIndex_8e157_5 : decode cJ3_checkIndex_8e157 5 = .ok (.iload_n 1, 1) := by decide +kernel
theorem dJ3_checkIndex_8e157_6 : decode cJ3_checkIndex_8e157 6 = .ok (.if_icmp .lt 10, 3) := by decide +kernel
theorem dJ3_checkIndex_8e157_9 : decode cJ3_checkIndex_8e157 9 = .ok (.aload_n 2, 1) := by decide +kernel
theorem dJ3_checkIndex_8e157_10 : decode cJ3_checkIndex_8e157 10 = .ok (.iload_n 0, 1) := by decide +kernel
theorem dJ3_checkIndex_8e157_11 : decode cJ3_checkIndex_8e157 11 = .ok (.iload_n 1, 1) := by decide +kernel
theorem dJ3_checkIndex_8e157_12 : decode cJ3_checkIndex_8e157 12 = .ok (.invokestatic 95, 3) := by decide +kernel
theorem dJ3_checkIndex_8e157_15 : decode cJ3_checkIndex_8e157 15 = .ok (.athrow, 1) := by decide +kernel
theorem dJ3_checkIndex_8e157_16 : decode cJ3_checkIndex_8e157 16 = .ok (.iload_n 0, 1) := by decide +kernel
theorem dJ3_checkIndex_8e157_17 : decode cJ3_checkIndex_8e157 17 = .ok (.ireturn, 1) := by decide +kernel
set_option maxRecDepth 20000 in
theorem fkJ0_38 : Cond.fieldLink RJ0 38 "java/lang/String" "COMPACT_STRINGS" "Z" ∈ TB := TB_2 100 rfl rfl
set_option maxRecDepth 20000 in
theorem fkJ0_1053 : Cond.fieldLink RJ0 1053 "jdk/internal/util/Preconditions" "SIOOBE_FORMATTER" "Ljava/util/function/BiFunction;" ∈ TB := TB_2 116 rfl rfl
set_option maxRecDepth 20000 in
theorem fkJ0_9 : Cond.fieldLink RJ0 9 "java/lang/String" "value" "[B" ∈ TB := TB_8 227 rfl rfl
set_option maxRecDepth 20000 in
theorem fkJ0_15 : Cond.fieldLink RJ0 15 "java/lang/String" "coder" "B" ∈ TB := TB_8 228 rfl rfl
section
variable {Γ : GE} {M M' : MD} {rm rm' : RM} {pc n : Nat} {lo : List (Option Value)} {st : List Value} {h : AH} {Q : PO}
theorem wp_getS {i idx : Nat} {q : String × Nat × String × List Int32} (hi : ax_strs[i]? = some q) (hd : decode M.2.1 pc = .ok (.getfield idx, 3)) (hn : pc + 3 = n) (hl : Cond.fieldLink M.1.cls idx "java/lang/String" "value" "[B" ∈ TB) (k : WP Γ M rm n lo (.ref (Γ.2.2.2.2.2 i) :: st) h Q) : WP Γ M rm pc lo (.ref (Γ.2.2.2.2.1 i) :: st) h Q := by
  subst hn
  refine wp_goC (fun p e R s m args below meth c H locs cells slots Z ls hx hb ho ht hml g1 g2 g3 g4 hR hG hS w => ?_) k
  obtain ⟨cf, kf, fi, f, cell, h1, h2, h3, h4, h5, h6⟩ := (hG.2.1 i _ hi).2.2.2.1.kept (ax_stat hR hS)
  exact W.getf hx hb ho (ht _ hl) h1 h2 h3 h4 (v := .ref (Γ.2.2.2.2.2 i)) h5 rfl rfl hd w
theorem wp_getK {i idx : Nat} {q : String × Nat × String × List Int32} (hi : ax_strs[i]? = some q) (hd : decode M.2.1 pc = .ok (.getfield idx, 3)) (hn : pc + 3 = n) (hl : Cond.fieldLink M.1.cls idx "java/lang/String" "coder" "B" ∈ TB) (k : WP Γ M rm n lo (.int 0 :: st) h Q) : WP Γ M rm pc lo (.ref (Γ.2.2.2.2.1 i) :: st) h Q := by
  subst hn
  refine wp_goC (fun p e R s m args below meth c H locs cells slots Z ls hx hb ho ht hml g1 g2 g3 g4 hR hG hS w => ?_) k
  obtain ⟨cf, kf, fi, f, cell, h1, h2, h3, h4, h5, h6⟩ := (hG.2.1 i _ hi).2.2.1.kept (ax_stat hR hS)
  exact W.getf hx hb ho (ht _ hl) h1 h2 h3 h4 (v := .int 0) h5 rfl rfl hd w
theorem wp_lenS {i : Nat} {q : String × Nat × String × List Int32} {v : Int32} (hi : ax_strs[i]? = some q) (hv : nI q.2.2.2.length = v) (hd : decode M.2.1 pc = .ok (.arraylength, 1)) (hn : pc + 1 = n) (k : WP Γ M rm n lo (.int v :: st) h Q) : WP Γ M rm pc lo (.ref (Γ.2.2.2.2.2 i) :: st) h Q := by
  subst hn
  intro p e R s m args below meth c C0 hf hl H locs cells slots ls mc ms h1 h2 h3 h4 hlo hR hS
  have hG := C0.2.2.2.2.2.2.2.2.2
  have hkp : ∀ a : Nat, a < Γ.2.2.1.size → ¬ ax_A Γ a → s.heap[a]? = Γ.2.2.1[a]? := fun a _ hA => C0.2.2.2.2.2.2.2.2.1.2 a (Nat.not_le.mp hA)
  exact va_tlen C0.1 C0.2.1 ((hG.2.1 i _ hi).2.2.2.2.kept hkp) hS hv hd (k p e R s m args below meth c C0 hf hl H locs cells slots ls mc ms h1 h2 h3 h4 hlo hR hS)
theorem wp_baldS {i j : Nat} {q : String × Nat × String × List Int32} (hi : ax_strs[i]? = some q) (hj : j < q.2.2.2.length) (hN : q.2.2.2.length < 2147483648) (hd : decode M.2.1 pc = .ok (.baload, 1)) (hn : pc + 1 = n) (k : WP Γ M rm n lo (.int (q.2.2.2.getD j 0) :: st) h Q) : WP Γ M rm pc lo (.int (nI j) :: .ref (Γ.2.2.2.2.2 i) :: st) h Q := by
  subst hn
  intro p e R s m args below meth c C0 hf hl H locs cells slots ls mc ms h1 h2 h3 h4 hlo hR hS
  have hG := C0.2.2.2.2.2.2.2.2.2
  have hkp : ∀ a : Nat, a < Γ.2.2.1.size → ¬ ax_A Γ a → s.heap[a]? = Γ.2.2.1[a]? := fun a _ hA => C0.2.2.2.2.2.2.2.2.1.2 a (Nat.not_le.mp hA)
  obtain ⟨g1, g2⟩ := ax_in hj hN (rfl : nI j = nI j)
  exact va_tb C0.1 C0.2.1 ((hG.2.1 i _ hi).2.2.2.2.kept hkp) hS g1 (by rw [g2]) hd (k p e R s m args below meth c C0 hf hl H locs cells slots ls mc ms h1 h2 h3 h4 hlo hR hS)
theorem wp_getCS {idx : Nat} (hd : decode M.2.1 pc = .ok (.getstatic idx, 3)) (hn : pc + 3 = n) (hl : Cond.fieldLink M.1.cls idx "java/lang/String" "COMPACT_STRINGS" "Z" ∈ TB) (k : WP Γ M rm n lo (.int (nI 1) :: st) h Q) : WP Γ M rm pc lo st h Q := by
  subst hn
  intro p e R s m args below meth c C0 hf hl0 H locs cells slots ls mc ms h1 h2 h3 h4 hlo hR hS
  have hG := C0.2.2.2.2.2.2.2.2.2
  have hkp : ∀ a : Nat, a < Γ.2.2.1.size → ¬ ax_A Γ a → s.heap[a]? = Γ.2.2.1[a]? := fun a _ hA => C0.2.2.2.2.2.2.2.2.1.2 a (Nat.not_le.mp hA)
  exact va_gets C0.1 C0.2.1 (hG.2.2.2.2.2.2.2.1.kept hkp) hS C0.2.2.2.1 (C0.2.2.2.2.1 _ hl) (fun _ h => h) hd (k p e R s m args below meth c C0 hf hl0 H locs cells slots ls mc ms h1 h2 h3 h4 hlo hR hS)
theorem wp_getSF {idx : Nat} (hd : decode M.2.1 pc = .ok (.getstatic idx, 3)) (hn : pc + 3 = n) (hl : Cond.fieldLink M.1.cls idx "jdk/internal/util/Preconditions" "SIOOBE_FORMATTER" "Ljava/util/function/BiFunction;" ∈ TB) (k : ∀ v, v = .null ∨ (∃ t, v = .ref t) → WP Γ M rm n lo (v :: st) h Q) : WP Γ M rm pc lo st h Q := by
  subst hn
  intro p e R s m args below meth c C0 hf hl0 H locs cells slots ls mc ms h1 h2 h3 h4 hlo hR hS
  have hG := C0.2.2.2.2.2.2.2.2.2
  have hkp : ∀ a : Nat, a < Γ.2.2.1.size → ¬ ax_A Γ a → s.heap[a]? = Γ.2.2.1[a]? := fun a _ hA => C0.2.2.2.2.2.2.2.2.1.2 a (Nat.not_le.mp hA)
  rcases hG.2.2.2.2.2.2.2.2.1 with hz | ⟨t, hz⟩
  · exact va_gets C0.1 C0.2.1 (hz.kept hkp) hS C0.2.2.2.1 (C0.2.2.2.2.1 _ hl) (fun _ h => h) hd (k _ (Or.inl rfl) p e R s m args below meth c C0 hf hl0 H locs cells slots ls mc ms h1 h2 h3 h4 hlo hR hS)
  · exact va_gets C0.1 C0.2.1 (hz.kept hkp) hS C0.2.2.2.1 (C0.2.2.2.2.1 _ hl) (fun _ h => h) hd (k _ (Or.inr ⟨t, rfl⟩) p e R s m args below meth c C0 hf hl0 H locs cells slots ls mc ms h1 h2 h3 h4 hlo hR hS)
theorem wp_callVT {idx k i : Nat} {q : String × Nat × String × List Int32} {rest : List Value} (hi : ax_strs[i]? = some q) (hT0 : M.2.2.2.2 = []) (hd : decode M.2.1 pc = .ok (.invokevirtual idx, 3)) (hn : pc + 3 = n) (hL : ax_CV M.1.cls idx M' k) (As : List Value) (hst : st = As.reverse ++ .ref (Γ.2.2.2.2.1 i) :: rest) (hk : As.length = k) (hci : M'.1.cls = "java/lang/String") (hc : As.all (fun v => v.category == 1) = true) (hml : Nat.ble (k + 1) M'.2.2.1 = true) (hrs : (rest.map fun v => v.category).sum ≤ 8) (hfit : ax_fit rm rm' M'.2.2.1 = true)
    (kk : WP Γ M' rm' 0 (ax_en (.ref (Γ.2.2.2.2.1 i) :: As) M'.2.2.1) [] h (ax_K Γ M (rm.1, rm.2.1, rm.2.2.1 - rm'.2.2.1, rm.2.2.2 - rm'.2.2.2) n lo rest Q)) : WP Γ M rm pc lo st h Q := by
  obtain ⟨f1, f2, f3, f4⟩ := ax_fit_of hfit
  intro p e R s m args below meth c C0 hf hl H locs cells slots ls mc ms h1 h2 h3 h4 hlo hR hS
  have ht := C0.2.2.2.2.1
  have hc' : ∀ v ∈ (.ref (Γ.2.2.2.2.1 i) :: As : List Value), v.category = 1 := by
    intro v hv
    rcases List.mem_cons.mp hv with rfl | hv
    · rfl
    · exact beq_iff_eq.mp (List.all_eq_true.mp hc v hv)
  have hM := ax_met hL.1.2.2.2.2.2.2 hL.1.2.2.2.2.2.1 hc' (by simp only [List.length_cons]; rw [hk]; exact Nat.le_of_ble_eq_true hml) kk
  refine ax_after (rm := rm) (rm' := rm') hT0 hn C0 hf hl ⟨f3, f4⟩ h1 h2 h3 h4 hlo hR hS (vx_runV (nL := M.2.2.1) (Ts := TB) (own := M.1.cls) (C := M'.1.cls) (index := idx) (bytes := M'.2.1) (maxL := M'.2.2.1) (ret := M'.2.2.2.1) (n := k) (As := As) (rest := rest) (b := Γ.2.2.2.2.1 i) ⟨C0.1, C0.2.1, C0.2.2.1, C0.2.2.2.1, ht⟩ hM ⟨hL.1.callB ht (by omega) (by omega), ht _ hL.2.1, ht _ hL.2.2⟩ ⟨ax_Pc_blind _ _ _, ?_, fun U hU hW => ⟨rfl, ax_G.warm hW C0.2.2.2.2.2.2.2.2.2, by rw [hU]; exact hR.moved hW.alike⟩⟩ rfl hk hlo.1 hst (lv_room hrs) hd ⟨by omega, by omega⟩)
  obtain ⟨cell, q1, q2, q3, q4⟩ := ((C0.2.2.2.2.2.2.2.2.2).2.1 i _ hi).2.1.kept (ax_stat hR hS)
  exact ⟨cell, q1, q2, by rw [hci]; exact q3⟩
end
section
variable {Γ : GE} {h : AH} {Q : PO} {i : Nat} {q : String × Nat × String × List Int32}
theorem s_J0_coder (hi : ax_strs[i]? = some q) (k : Q (.inl (some (.int 0))) h) : WP Γ MJ0_coder_7d493 (0, 0, 0, 0) 0 [some (.ref (Γ.2.2.2.2.1 i))] [] h Q := by
  refine wp_getCS (n := 3) dJ0_coder_7d493_0 rfl fkJ0_38 ?_
  refine wp_if_eq (t := 13) (n := 6) dJ0_coder_7d493_3 (by decide) rfl (fun hc => ?_) (fun hc => ?_)
  · exact absurd hc (by decide)
  · refine wp_aload_n (n := 7) dJ0_coder_7d493_6 rfl rfl ?_
    refine wp_getK (n := 10) hi dJ0_coder_7d493_7 rfl fkJ0_15 ?_
    refine wp_goto (t := 14) dJ0_coder_7d493_10 (by decide) ?_
    exact wp_ireturn dJ0_coder_7d493_14 rfl rfl (k)
theorem s_J0_isLatin1 (hi : ax_strs[i]? = some q) (k : Q (.inl (some (.int (nI 1)))) h) : WP Γ MJ0_isLatin1_aae02 (0, 0, 0, 0) 0 [some (.ref (Γ.2.2.2.2.1 i))] [] h Q := by
  refine wp_getCS (n := 3) dJ0_isLatin1_aae02_0 rfl fkJ0_38 ?_
  refine wp_if_eq (t := 17) (n := 6) dJ0_isLatin1_aae02_3 (by decide) rfl (fun hc => ?_) (fun hc => ?_)
  · exact absurd hc (by decide)
  · refine wp_aload_n (n := 7) dJ0_isLatin1_aae02_6 rfl rfl ?_
    refine wp_getK (n := 10) hi dJ0_isLatin1_aae02_7 rfl fkJ0_15 ?_
    refine wp_if_ne (t := 17) (n := 13) dJ0_isLatin1_aae02_10 (by decide) rfl (fun hq => ?_) (fun hq => ?_)
    · exact absurd rfl hq
    · refine wp_iconst (n := 14) (v := nI 1) dJ0_isLatin1_aae02_13 rfl (by decide) ?_
      refine wp_goto (t := 18) dJ0_isLatin1_aae02_14 (by decide) ?_
      exact wp_ireturn dJ0_isLatin1_aae02_18 rfl rfl (k)
theorem s_J0_length (hi : ax_strs[i]? = some q) (hN : q.2.2.2.length < 2147483648) (k : Q (.inl (some (.int (nI q.2.2.2.length)))) h) : WP Γ MJ0_length_8abf5 (1, 20, 0, 0) 0 [some (.ref (Γ.2.2.2.2.1 i))] [] h Q := by
  refine wp_aload_n (n := 1) dJ0_length_8abf5_0 rfl rfl ?_
  refine wp_getS (n := 4) hi dJ0_length_8abf5_1 rfl fkJ0_9 ?_
  refine wp_lenS (n := 5) hi rfl dJ0_length_8abf5_4 rfl ?_
  refine wp_aload_n (n := 6) dJ0_length_8abf5_5 rfl rfl ?_
  refine wp_callVT (n := 9) (rm' := (0, 0, 0, 0)) hi rfl dJ0_length_8abf5_6 rfl mlJ0_335 [] rfl rfl rfl rfl rfl (Nat.le_of_ble_eq_true rfl) rfl ?_
  refine s_J0_coder hi ?_
  show WP Γ _ _ _ _ _ _ _
  refine wp_ishr (n := 10) dJ0_length_8abf5_9 rfl ?_
  refine wp_ireturn dJ0_length_8abf5_10 rfl rfl ?_
  simpa using k
theorem s_J3_checkIndex {j m : Nat} {v : Value} (hj : j < m) (hm : m < 2147483648) (k : Q (.inl (some (.int (nI j)))) h) : WP Γ MJ3_checkIndex_8e157 (0, 0, 0, 0) 0 [some (.int (nI j)), some (.int (nI m)), some v] [] h Q := by
  refine wp_iload_n (n := 1) dJ3_checkIndex_8e157_0 rfl rfl ?_
  refine wp_if_lt (t := 9) (n := 4) dJ3_checkIndex_8e157_1 (by decide) rfl (fun hc => ?_) (fun hc => ?_)
  · exact absurd hc (Int32.not_lt.mpr ((nI_le9 (a := 0) (by omega) (by omega)).mpr (by omega)))
  · refine wp_iload_n (n := 5) dJ3_checkIndex_8e157_4 rfl rfl ?_
    refine wp_iload_n (n := 6) dJ3_checkIndex_8e157_5 rfl rfl ?_
    refine wp_icmp_lt (t := 16) (n := 9) dJ3_checkIndex_8e157_6 (by decide) rfl (fun hq => ?_) (fun hq => ?_)
    · refine wp_iload_n (n := 17) dJ3_checkIndex_8e157_16 rfl rfl ?_
      exact wp_ireturn dJ3_checkIndex_8e157_17 rfl rfl (k)
    · exact absurd ((nI_lt9 (by omega) (by omega)).mpr hj) hq
theorem s_J0_checkIndex {j m : Nat} (hj : j < m) (hm : m < 2147483648) (k : Q (.inl none) h) : WP Γ MJ0_checkIndex_df160 (1, 22, 0, 0) 0 [some (.int (nI j)), some (.int (nI m))] [] h Q := by
  refine wp_iload_n (n := 1) dJ0_checkIndex_df160_0 rfl rfl ?_
  refine wp_iload_n (n := 2) dJ0_checkIndex_df160_1 rfl rfl ?_
  refine wp_getSF (n := 5) dJ0_checkIndex_df160_2 rfl fkJ0_1053 (fun v hv => ?_)
  rcases hv with rfl | ⟨t, rfl⟩
  · refine wp_callS3 (n := 8) (rm' := (0, 0, 0, 0)) rfl dJ0_checkIndex_df160_5 rfl mlJ0_1059 rfl rfl rfl rfl ?_
    refine s_J3_checkIndex hj hm ?_
    show WP Γ _ _ _ _ _ _ _
    refine wp_pop (n := 9) dJ0_checkIndex_df160_8 rfl rfl ?_
    exact wp_return dJ0_checkIndex_df160_9 rfl (k)
  · refine wp_callS3 (n := 8) (rm' := (0, 0, 0, 0)) rfl dJ0_checkIndex_df160_5 rfl mlJ0_1059 rfl rfl rfl rfl ?_
    refine s_J3_checkIndex hj hm ?_
    show WP Γ _ _ _ _ _ _ _
    refine wp_pop (n := 9) dJ0_checkIndex_df160_8 rfl rfl ?_
    exact wp_return dJ0_checkIndex_df160_9 rfl (k)
theorem nI_and255 : ∀ c, c < 128 → nI c &&& nI 255 = nI c := by decide +kernel
theorem nI_i2c : ∀ c, c < 128 → ((nI c).toUInt32 % 65536).toInt32 = nI c := by decide +kernel
theorem nI_narc : ∀ c, c < 128 → narrow .char (.int (nI c)) = .int (nI c) := by decide +kernel
theorem s_J1_charAt {j c : Nat} (hi : ax_strs[i]? = some q) (hj : j < q.2.2.2.length) (hN : q.2.2.2.length < 2147483648) (hb : q.2.2.2.getD j 0 = nI c) (hc9 : c < 128) (k : Q (.inl (some (.int (nI c)))) h) : WP Γ MJ1_charAt_3b067 (2, 43, 0, 0) 0 [some (.ref (Γ.2.2.2.2.2 i)), some (.int (nI j))] [] h Q := by
  refine wp_iload_n (n := 1) dJ1_charAt_3b067_0 rfl rfl ?_
  refine wp_aload_n (n := 2) dJ1_charAt_3b067_1 rfl rfl ?_
  refine wp_lenS (n := 3) hi rfl dJ1_charAt_3b067_2 rfl ?_
  refine wp_callS2 (n := 6) (rm' := (1, 22, 0, 0)) rfl dJ1_charAt_3b067_3 rfl mlJ1_9 rfl rfl rfl rfl ?_
  refine s_J0_checkIndex hj hN ?_
  show WP Γ _ _ _ _ _ _ _
  refine wp_aload_n (n := 7) dJ1_charAt_3b067_6 rfl rfl ?_
  refine wp_iload_n (n := 8) dJ1_charAt_3b067_7 rfl rfl ?_
  refine wp_baldS (n := 9) hi hj hN dJ1_charAt_3b067_8 rfl ?_
  rw [hb]
  refine wp_sipush (n := 12) (v := nI 255) dJ1_charAt_3b067_9 rfl (by decide) ?_
  refine wp_iand (n := 13) dJ1_charAt_3b067_12 rfl ?_
  rw [nI_and255 c hc9]
  refine wp_i2c (n := 14) dJ1_charAt_3b067_13 rfl (nI_i2c c hc9) ?_
  exact wp_ireturn dJ1_charAt_3b067_14 rfl (nI_narc c hc9) k
theorem s_J0_charAt {j c : Nat} (hi : ax_strs[i]? = some q) (hj : j < q.2.2.2.length) (hN : q.2.2.2.length < 2147483648) (hb : q.2.2.2.getD j 0 = nI c) (hc9 : c < 128) (k : Q (.inl (some (.int (nI c)))) h) : WP Γ MJ0_charAt_5068e (3, 64, 0, 0) 0 [some (.ref (Γ.2.2.2.2.1 i)), some (.int (nI j))] [] h Q := by
  refine wp_aload_n (n := 1) dJ0_charAt_5068e_0 rfl rfl ?_
  refine wp_callVT (n := 4) (rm' := (0, 0, 0, 0)) hi rfl dJ0_charAt_5068e_1 rfl mlJ0_492 [] rfl rfl rfl rfl rfl (Nat.le_of_ble_eq_true rfl) rfl ?_
  refine s_J0_isLatin1 hi ?_
  show WP Γ _ _ _ _ _ _ _
  refine wp_if_eq (t := 16) (n := 7) dJ0_charAt_5068e_4 (by decide) rfl (fun hc => ?_) (fun hc => ?_)
  · exact absurd hc (by decide)
  · refine wp_aload_n (n := 8) dJ0_charAt_5068e_7 rfl rfl ?_
    refine wp_getS (n := 11) hi dJ0_charAt_5068e_8 rfl fkJ0_9 ?_
    refine wp_iload_n (n := 12) dJ0_charAt_5068e_11 rfl rfl ?_
    refine wp_callS2 (n := 15) (rm' := (2, 43, 0, 0)) rfl dJ0_charAt_5068e_12 rfl mlJ0_495 rfl rfl rfl rfl ?_
    refine s_J1_charAt hi hj hN hb hc9 ?_
    show WP Γ _ _ _ _ _ _ _
    exact wp_ireturn dJ0_charAt_5068e_15 rfl (nI_narc c hc9) k
end
