/-! ===== the reference: copies, snapshots ===== -/

theorem byt_2 : ∀ v, v < 256 → (nI v).toInt8.toInt32.toInt8.toInt32 = (nI v).toInt8.toInt32 := by decide +kernel
theorem byt_255 : ∀ v, v < 256 → (nI v).toInt8.toInt32 &&& nI 255 = nI v := by decide +kernel
theorem byt_eq : ∀ v, v < 256 → ∀ c, c < 128 → ((nI v).toInt8.toInt32 = nI c ↔ v = c) := by decide +kernel

section
variable {Γ : GE} {h : AH} {Q : PO} {m a np nb ne nh nc y : Nat} {R : FI} {qu ra le ln pl tm rw hw cw pk : FI} {re : Nat → UInt32} {RE CE : Nat → UInt32} {CC SV B : FI} {len : Nat} {bk : Nat → Int64} {t x z w v th tl at' bg er ea lr cm : Int32}

theorem s_X10_copies {c1 c2 N1 N2 i j : Nat} {F T : FI} (h1 : h.2 c1 = some (.inl (.int, N1, .inl F))) (h2 : h.2 c2 = some (.inl (.int, N2, .inl T))) (hA : Γ.2.1 ≤ c2) (hne : ¬ c1 = c2) (hN1 : N1 ≤ 20000) (hN2 : N2 ≤ 20000) (hi : 5061 * i + 5061 ≤ N1) (hj : 5061 * j + 5061 ≤ N2)
    (k : ∀ h' T', ax_fr c2 (c2 + 1) h h' → h'.2 c2 = some (.inl (.int, N2, .inl T')) → (∀ q, q < 5061 → T' (5061 * j + q) = F (5061 * i + q)) → (∀ u, (u < 5061 * j ∨ 5061 * j + 5061 ≤ u) → T' u = T u) → Q (.inl none) h') : WP Γ MX10_copies (0, 0, 0, 0) 0 [some (.ref c1), some (.int (nI i)), some (.ref c2), some (.int (nI j)), none] [] h Q := by
  refine wp_iconst (n := 1) (v := 0) dX10_copies_0 rfl (by decide) ?_
  refine wp_istore (n := 3) dX10_copies_1 rfl rfl rfl rfl ?_
  suffices L : ∀ q, q ≤ 5061 → ∀ h' T', ax_fr c2 (c2 + 1) h h' → h'.2 c2 = some (.inl (.int, N2, .inl T')) → (∀ r, r < q → T' (5061 * j + r) = F (5061 * i + r)) → (∀ u, (u < 5061 * j ∨ 5061 * j + 5061 ≤ u) → T' u = T u) → WP Γ MX10_copies (0, 0, 0, 0) 3 [some (.ref c1), some (.int (nI i)), some (.ref c2), some (.int (nI j)), some (.int (nI q))] [] h' Q from L 0 (Nat.zero_le _) h T ax_fr.rf h2 (fun r hr => absurd hr (Nat.not_lt_zero _)) (fun u _ => rfl)
  refine ax_up 5061 (fun q hq ih => ?_)
  intro h3 T3 f3 c3 z3 o3
  have c1' := f3.get h1 (by omega)
  refine wp_iload (n := 5) dX10_copies_3 rfl rfl ?_
  refine wp_sipush (n := 8) (v := nI 5061) dX10_copies_5 rfl (by decide) ?_
  refine wp_icmp_ge (t := 37) (n := 11) dX10_copies_8 (by decide) rfl (fun hc => ?_) (fun hc => ?_)
  · rw [nI_le9 (by omega) (by omega)] at hc
    obtain rfl : q = 5061 := by omega
    exact wp_return dX10_copies_37 rfl (k h3 T3 f3 c3 z3 o3)
  · rw [nI_le9 (by omega) (by omega)] at hc
    refine wp_aload_n (n := 12) dX10_copies_11 rfl rfl ?_
    refine wp_sipush (n := 15) (v := nI 5061) dX10_copies_12 rfl (by decide) ?_
    refine wp_iload_n (n := 16) dX10_copies_15 rfl rfl ?_
    refine wp_imul (n := 17) dX10_copies_16 rfl ?_
    refine wp_iload (n := 19) dX10_copies_17 rfl rfl ?_
    refine wp_iadd (n := 20) dX10_copies_19 rfl ?_
    refine wp_aload_n (n := 21) dX10_copies_20 rfl rfl ?_
    refine wp_sipush (n := 24) (v := nI 5061) dX10_copies_21 rfl (by decide) ?_
    refine wp_iload_n (n := 25) dX10_copies_24 rfl rfl ?_
    refine wp_imul (n := 26) dX10_copies_25 rfl ?_
    refine wp_iload (n := 28) dX10_copies_26 rfl rfl ?_
    refine wp_iadd (n := 29) dX10_copies_28 rfl ?_
    refine wp_iald (n := 30) (5061 * i + q) dX10_copies_29 rfl (by repeat first | assumption | exact ax_set_self _ _ _ | exact ax_newA_self _ _ _ | refine (ax_set_ne _ _ (by omega)).trans ?_ | refine (ax_newA_ne _ _ _ (by omega)).trans ?_) (by simp only [nI_zero, nI_mul, nI_add]) (by omega) (by omega) ?_
    refine wp_iast (n := 31) (5061 * j + q) dX10_copies_30 rfl (by repeat first | assumption | exact ax_set_self _ _ _ | exact ax_newA_self _ _ _ | refine (ax_set_ne _ _ (by omega)).trans ?_ | refine (ax_newA_ne _ _ _ (by omega)).trans ?_) (by omega) (by simp only [nI_zero, nI_mul, nI_add]) (by omega) (by omega) ?_
    refine wp_iinc (n := 34) dX10_copies_31 rfl rfl (nI_inc q) rfl rfl rfl ?_
    refine wp_goto (t := 3) dX10_copies_34 (by decide) ?_
    have e9 : ∀ u, ¬ u = 5061 * j + q → upd T3 (5061 * j + q) (F (5061 * i + q)) u = T3 u := fun u hu => if_neg hu
    refine ih (by omega) _ _ (f3.put (by omega)) (ax_set_self _ _ _) (fun r hr => ?_) (fun u hu => (e9 u (by omega)).trans (o3 u hu))
    by_cases e : r = q
    · rw [e]; exact if_pos rfl
    · rw [e9 _ (by omega)]; exact z3 r (by omega)
theorem s_X10_copiesRents {c1 c2 N1 N2 i j : Nat} {F T : Nat → UInt32} (h1 : h.2 c1 = some (.inl (.float, N1, .inr (.inr (.inl F))))) (h2 : h.2 c2 = some (.inl (.float, N2, .inr (.inr (.inl T))))) (hA : Γ.2.1 ≤ c2) (hne : ¬ c1 = c2) (hN1 : N1 ≤ 20000) (hN2 : N2 ≤ 20000) (hi : 8 * i + 8 ≤ N1) (hj : 8 * j + 8 ≤ N2)
    (k : ∀ h' T', ax_fr c2 (c2 + 1) h h' → h'.2 c2 = some (.inl (.float, N2, .inr (.inr (.inl T')))) → (∀ q, q < 8 → T' (8 * j + q) = F (8 * i + q)) → (∀ u, (u < 8 * j ∨ 8 * j + 8 ≤ u) → T' u = T u) → Q (.inl none) h') : WP Γ MX10_copiesRents (0, 0, 0, 0) 0 [some (.ref c1), some (.int (nI i)), some (.ref c2), some (.int (nI j)), none] [] h Q := by
  refine wp_iconst (n := 1) (v := 0) dX10_copiesRents_0 rfl (by decide) ?_
  refine wp_istore (n := 3) dX10_copiesRents_1 rfl rfl rfl rfl ?_
  suffices L : ∀ q, q ≤ 8 → ∀ h' T', ax_fr c2 (c2 + 1) h h' → h'.2 c2 = some (.inl (.float, N2, .inr (.inr (.inl T')))) → (∀ r, r < q → T' (8 * j + r) = F (8 * i + r)) → (∀ u, (u < 8 * j ∨ 8 * j + 8 ≤ u) → T' u = T u) → WP Γ MX10_copiesRents (0, 0, 0, 0) 3 [some (.ref c1), some (.int (nI i)), some (.ref c2), some (.int (nI j)), some (.int (nI q))] [] h' Q from L 0 (Nat.zero_le _) h T ax_fr.rf h2 (fun r hr => absurd hr (Nat.not_lt_zero _)) (fun u _ => rfl)
  refine ax_up 8 (fun q hq ih => ?_)
  intro h3 T3 f3 c3 z3 o3
  have c1' := f3.get h1 (by omega)
  refine wp_iload (n := 5) dX10_copiesRents_3 rfl rfl ?_
  refine wp_bipush (n := 7) (v := nI 8) dX10_copiesRents_5 rfl (by decide) ?_
  refine wp_icmp_ge (t := 34) (n := 10) dX10_copiesRents_7 (by decide) rfl (fun hc => ?_) (fun hc => ?_)
  · rw [nI_le9 (by omega) (by omega)] at hc
    obtain rfl : q = 8 := by omega
    exact wp_return dX10_copiesRents_34 rfl (k h3 T3 f3 c3 z3 o3)
  · rw [nI_le9 (by omega) (by omega)] at hc
    refine wp_aload_n (n := 11) dX10_copiesRents_10 rfl rfl ?_
    refine wp_bipush (n := 13) (v := nI 8) dX10_copiesRents_11 rfl (by decide) ?_
    refine wp_iload_n (n := 14) dX10_copiesRents_13 rfl rfl ?_
    refine wp_imul (n := 15) dX10_copiesRents_14 rfl ?_
    refine wp_iload (n := 17) dX10_copiesRents_15 rfl rfl ?_
    refine wp_iadd (n := 18) dX10_copiesRents_17 rfl ?_
    refine wp_aload_n (n := 19) dX10_copiesRents_18 rfl rfl ?_
    refine wp_bipush (n := 21) (v := nI 8) dX10_copiesRents_19 rfl (by decide) ?_
    refine wp_iload_n (n := 22) dX10_copiesRents_21 rfl rfl ?_
    refine wp_imul (n := 23) dX10_copiesRents_22 rfl ?_
    refine wp_iload (n := 25) dX10_copiesRents_23 rfl rfl ?_
    refine wp_iadd (n := 26) dX10_copiesRents_25 rfl ?_
    refine wp_fald (n := 27) (8 * i + q) dX10_copiesRents_26 rfl (by repeat first | assumption | exact ax_set_self _ _ _ | exact ax_newA_self _ _ _ | refine (ax_set_ne _ _ (by omega)).trans ?_ | refine (ax_newA_ne _ _ _ (by omega)).trans ?_) (by simp only [nI_zero, nI_mul, nI_add]) (by omega) (by omega) ?_
    refine wp_fast (n := 28) (8 * j + q) dX10_copiesRents_27 rfl (by repeat first | assumption | exact ax_set_self _ _ _ | exact ax_newA_self _ _ _ | refine (ax_set_ne _ _ (by omega)).trans ?_ | refine (ax_newA_ne _ _ _ (by omega)).trans ?_) (by omega) (by simp only [nI_zero, nI_mul, nI_add]) (by omega) (by omega) ?_
    refine wp_iinc (n := 31) dX10_copiesRents_28 rfl rfl (nI_inc q) rfl rfl rfl ?_
    refine wp_goto (t := 3) dX10_copiesRents_31 (by decide) ?_
    have e9 : ∀ u, ¬ u = 8 * j + q → vf_upd T3 (8 * j + q) (F (8 * i + q)) u = T3 u := fun u hu => if_neg hu
    refine ih (by omega) _ _ (f3.put (by omega)) (ax_set_self _ _ _) (fun r hr => ?_) (fun u hu => (e9 u (by omega)).trans (o3 u hu))
    by_cases e : r = q
    · rw [e]; exact if_pos rfl
    · rw [e9 _ (by omega)]; exact z3 r (by omega)
/-- a row at its start -/
def begRow (R : FI) (v : Int32) : Prop := R 0 = v ∧ R 1 = nI 1 ∧ R 407 = v ∧ R 409 = nI 102 ∧ R 410 = nI 114 ∧ R 411 = nI 101 ∧ R 412 = nI 101 ∧ ∀ u, u < 5061 → ¬ u = 0 → ¬ u = 1 → ¬ u = 407 → ¬ u = 409 → ¬ u = 410 → ¬ u = 411 → ¬ u = 412 → R u = 0
theorem s_X10_begins {c : Nat} (h1 : h.2 c = some (.inl (.int, 5061, .inl R))) (hA : Γ.2.1 ≤ c)
    (k : ∀ h' R', ax_fr c (c + 1) h h' → h'.2 c = some (.inl (.int, 5061, .inl R')) → begRow R' x → Q (.inl none) h') : WP Γ MX10_begins (0, 0, 0, 0) 0 [some (.ref c), some (.int x), none] [] h Q := by
  refine wp_iconst (n := 1) (v := 0) dX10_begins_0 rfl (by decide) ?_
  refine wp_istore_n (n := 2) dX10_begins_1 rfl rfl rfl rfl ?_
  suffices L : ∀ q, q ≤ 5061 → ∀ h' T', ax_fr c (c + 1) h h' → h'.2 c = some (.inl (.int, 5061, .inl T')) → (∀ r, r < q → T' r = 0) → WP Γ MX10_begins (0, 0, 0, 0) 2 [some (.ref c), some (.int x), some (.int (nI q))] [] h' Q from L 0 (Nat.zero_le _) h R ax_fr.rf h1 (fun r hr => absurd hr (Nat.not_lt_zero _))
  refine ax_up 5061 (fun q hq ih => ?_)
  intro h3 T3 f3 c3 z3
  refine wp_iload_n (n := 3) dX10_begins_2 rfl rfl ?_
  refine wp_sipush (n := 6) (v := nI 5061) dX10_begins_3 rfl (by decide) ?_
  refine wp_icmp_ge (t := 19) (n := 9) dX10_begins_6 (by decide) rfl (fun hc => ?_) (fun hc => ?_)
  · rw [nI_le9 (by omega) (by omega)] at hc
    obtain rfl : q = 5061 := by omega
    refine wp_aload_n (n := 20) dX10_begins_19 rfl rfl ?_
    refine wp_iconst (n := 21) (v := 0) dX10_begins_20 rfl (by decide) ?_
    refine wp_iload_n (n := 22) dX10_begins_21 rfl rfl ?_
    refine wp_iast (n := 23) 0 dX10_begins_22 rfl c3 (by omega) rfl (by omega) (by omega) ?_
    refine wp_aload_n (n := 24) dX10_begins_23 rfl rfl ?_
    refine wp_iconst (n := 25) (v := nI 1) dX10_begins_24 rfl (by decide) ?_
    refine wp_iconst (n := 26) (v := nI 1) dX10_begins_25 rfl (by decide) ?_
    refine wp_iast (n := 27) _ dX10_begins_26 rfl (by repeat first | assumption | exact ax_set_self _ _ _ | exact ax_newA_self _ _ _ | refine (ax_set_ne _ _ (by omega)).trans ?_ | refine (ax_newA_ne _ _ _ (by omega)).trans ?_) (by omega) rfl (by omega) (by decide) ?_
    refine wp_aload_n (n := 28) dX10_begins_27 rfl rfl ?_
    refine wp_sipush (n := 31) (v := nI 407) dX10_begins_28 rfl (by decide) ?_
    refine wp_iload_n (n := 32) dX10_begins_31 rfl rfl ?_
    refine wp_iast (n := 33) _ dX10_begins_32 rfl (by repeat first | assumption | exact ax_set_self _ _ _ | exact ax_newA_self _ _ _ | refine (ax_set_ne _ _ (by omega)).trans ?_ | refine (ax_newA_ne _ _ _ (by omega)).trans ?_) (by omega) rfl (by omega) (by decide) ?_
    refine wp_aload_n (n := 34) dX10_begins_33 rfl rfl ?_
    refine wp_sipush (n := 37) (v := nI 409) dX10_begins_34 rfl (by decide) ?_
    refine wp_bipush (n := 39) (v := nI 102) dX10_begins_37 rfl (by decide) ?_
    refine wp_iast (n := 40) _ dX10_begins_39 rfl (by repeat first | assumption | exact ax_set_self _ _ _ | exact ax_newA_self _ _ _ | refine (ax_set_ne _ _ (by omega)).trans ?_ | refine (ax_newA_ne _ _ _ (by omega)).trans ?_) (by omega) rfl (by omega) (by decide) ?_
    refine wp_aload_n (n := 41) dX10_begins_40 rfl rfl ?_
    refine wp_sipush (n := 44) (v := nI 410) dX10_begins_41 rfl (by decide) ?_
    refine wp_bipush (n := 46) (v := nI 114) dX10_begins_44 rfl (by decide) ?_
    refine wp_iast (n := 47) _ dX10_begins_46 rfl (by repeat first | assumption | exact ax_set_self _ _ _ | exact ax_newA_self _ _ _ | refine (ax_set_ne _ _ (by omega)).trans ?_ | refine (ax_newA_ne _ _ _ (by omega)).trans ?_) (by omega) rfl (by omega) (by decide) ?_
    refine wp_aload_n (n := 48) dX10_begins_47 rfl rfl ?_
    refine wp_sipush (n := 51) (v := nI 411) dX10_begins_48 rfl (by decide) ?_
    refine wp_bipush (n := 53) (v := nI 101) dX10_begins_51 rfl (by decide) ?_
    refine wp_iast (n := 54) _ dX10_begins_53 rfl (by repeat first | assumption | exact ax_set_self _ _ _ | exact ax_newA_self _ _ _ | refine (ax_set_ne _ _ (by omega)).trans ?_ | refine (ax_newA_ne _ _ _ (by omega)).trans ?_) (by omega) rfl (by omega) (by decide) ?_
    refine wp_aload_n (n := 55) dX10_begins_54 rfl rfl ?_
    refine wp_sipush (n := 58) (v := nI 412) dX10_begins_55 rfl (by decide) ?_
    refine wp_bipush (n := 60) (v := nI 101) dX10_begins_58 rfl (by decide) ?_
    refine wp_iast (n := 61) _ dX10_begins_60 rfl (by repeat first | assumption | exact ax_set_self _ _ _ | exact ax_newA_self _ _ _ | refine (ax_set_ne _ _ (by omega)).trans ?_ | refine (ax_newA_ne _ _ _ (by omega)).trans ?_) (by omega) rfl (by omega) (by decide) ?_
    refine wp_return dX10_begins_61 rfl (k _ _ (((((((f3.put (by omega)).put (by omega)).put (by omega)).put (by omega)).put (by omega)).put (by omega)).put (by omega)) (ax_set_self _ _ _) ⟨?_, ?_, ?_, ?_, ?_, ?_, ?_, fun u hu h0 h1 h2 h3 h4 h5 h6 => ?_⟩)
    · simp [upd]
    · simp [upd]
    · simp [upd]
    · simp [upd]
    · simp [upd]
    · simp [upd]
    · simp [upd]
    · simp only [upd]
      rw [if_neg h6, if_neg h5, if_neg h4, if_neg h3, if_neg h2, if_neg h1, if_neg h0]
      exact z3 u hu
  · rw [nI_le9 (by omega) (by omega)] at hc
    refine wp_aload_n (n := 10) dX10_begins_9 rfl rfl ?_
    refine wp_iload_n (n := 11) dX10_begins_10 rfl rfl ?_
    refine wp_iconst (n := 12) (v := 0) dX10_begins_11 rfl (by decide) ?_
    refine wp_iast (n := 13) q dX10_begins_12 rfl c3 (by omega) rfl (by omega) (by omega) ?_
    refine wp_iinc (n := 16) dX10_begins_13 rfl rfl (nI_inc q) rfl rfl rfl ?_
    refine wp_goto (t := 2) dX10_begins_16 (by decide) ?_
    have e9 : ∀ u, ¬ u = q → upd T3 q 0 u = T3 u := fun u hu => if_neg hu
    refine ih (by omega) _ _ (f3.put (by omega)) (ax_set_self _ _ _) (fun r hr => ?_)
    by_cases e : r = q
    · rw [e]; exact if_pos rfl
    · rw [e9 _ e]; exact z3 r (by omega)
theorem s_X10_textError (hM : ModC h m a th tl at' bg er ea lr cm) (hA : Γ.2.1 ≤ m)
    (k : ∀ h', ax_fr m (m + 1) h h' → ModC h' m a (0) tl at' bg er ea lr cm → Q (.inl (some (.int lr))) h') : WP Γ MX10_textError (0, 0, 0, 0) 0 [some (.ref m)] [] h Q := by
  unfold ModC at hM
  refine wp_aload_n (n := 1) dX10_textError_0 rfl rfl ?_
  refine wp_iconst (n := 2) (v := 0) dX10_textError_1 rfl (by decide) ?_
  refine wp_putf (n := 5) dX10_textError_2 rfl flX10_50 (by repeat first | assumption | exact ax_set_self _ _ _ | exact ax_newA_self _ _ _ | refine (ax_set_ne _ _ (by omega)).trans ?_ | refine (ax_newA_ne _ _ _ (by omega)).trans ?_) (by omega) (by rfl) rfl rfl ?_
  refine wp_aload_n (n := 6) dX10_textError_5 rfl rfl ?_
  refine wp_getf (n := 9) dX10_textError_6 rfl flX10_249 (by repeat first | assumption | exact ax_set_self _ _ _ | exact ax_newA_self _ _ _ | refine (ax_set_ne _ _ (by omega)).trans ?_ | refine (ax_newA_ne _ _ _ (by omega)).trans ?_) (by rfl) ?_
  exact wp_ireturn dX10_textError_9 rfl rfl (k _ (ax_fr.set (by omega)) (ModC.set _ _ _ _ _ _ _ _ _ _ _))
theorem RowR.same {R' : FI} (h : RowR R np qu ra re le ln nb pl tm ne rw bk nh hw nc cw t y) (hS : InvS np nb ne nh nc y t) (eo : ∀ u, u < 5061 → R' u = R u) : RowR R' np qu ra re le ln nb pl tm ne rw bk nh hw nc cw t y := by
  obtain ⟨i1, i2, i3, i4, i5, i6, i7, i8, i9⟩ := hS
  obtain ⟨⟨r0, r1, r2, r3, r4, r5, r6⟩, rM, rP, rJ, rH, rC⟩ := h
  exact ⟨⟨(eo 0 (by omega)).trans r0, (eo 1 (by omega)).trans r1, (eo 2 (by omega)).trans r2, (eo 3 (by omega)).trans r3, (eo 4 (by omega)).trans r4, (eo 5 (by omega)).trans r5, (eo 6 (by omega)).trans r6⟩, fun d hd => ⟨(eo _ (by omega)).trans (rM d hd).1, (eo _ (by omega)).trans (rM d hd).2⟩, fun j hj => ⟨(eo _ (by omega)).trans (rP j hj).1, (eo _ (by omega)).trans (rP j hj).2.1, fun i hi => (eo _ (by omega)).trans ((rP j hj).2.2 i hi)⟩, fun e he => ⟨fun q hq => (eo _ (by omega)).trans ((rJ e he).1 q hq), fun d hd => by rw [eo _ (by omega)]; exact (rJ e he).2 d hd⟩, fun r hr q hq => (eo _ (by omega)).trans (rH r hr q hq), fun c hc => ⟨fun j hj => (eo _ (by omega)).trans ((rC c hc).1 j hj), (eo _ (by omega)).trans (rC c hc).2⟩⟩

theorem s_X10_saveSnapshot (hM : ModC h m a th tl at' bg er ea lr cm) (hR : h.2 a = some (.inl (.int, 5061, .inl R))) (hr : RowR R np qu ra re le ln nb pl tm ne rw bk nh hw nc cw t y) (hI : Inv np qu ra re le ln nb pl tm ne rw bk nh hw nc cw t y) (hA : Γ.2.1 ≤ m) (ham : ¬ a = m) (hC : h.2 (m + 4) = some (.inl (.int, 10122, .inl CC))) (hE : h.2 (m + 5) = some (.inl (.float, 8, .inr (.inr (.inl RE))))) (hF : h.2 (m + 7) = some (.inl (.float, 16, .inr (.inr (.inl CE))))) (hV : h.2 (m + 8) = some (.inl (.boolean, 2, .inl SV))) (hA2 : a = m + 1)
    (k1 : inI x 0 1 = false → ∀ h', ax_fr m (m + 1) h h' → ModC h' m a (nI 1) tl at' bg er ea lr cm → Q (.inl (some (.int 0))) h')
    (k : ∀ j, j ≤ 1 → x = nI j → ∀ h' C' E', h'.1 = h.1 → (∀ c, ¬ c = m → ¬ c = m + 4 → ¬ c = m + 7 → ¬ c = m + 8 → h'.2 c = h.2 c) → ModC h' m (m + 1) 0 tl at' bg er ea lr cm → h'.2 (m + 4) = some (.inl (.int, 10122, .inl C')) → h'.2 (m + 7) = some (.inl (.float, 16, .inr (.inr (.inl E')))) → h'.2 (m + 8) = some (.inl (.boolean, 2, .inl (upd SV j (nI 1)))) → (∀ q, q < 5061 → C' (5061 * j + q) = R q) → (∀ u, (u < 5061 * j ∨ 5061 * j + 5061 ≤ u) → C' u = CC u) → (∀ q, q < 8 → E' (8 * j + q) = RE q) → (∀ u, (u < 8 * j ∨ 8 * j + 8 ≤ u) → E' u = CE u) → Q (.inl (some (.int t))) h') : WP Γ MX10_saveSnapshot (1, 24, 0, 0) 0 [some (.ref m), some (.int x)] [] h Q := by
  have hM0 := hM
  unfold ModC at hM
  have hI0 := hI
  have hr0 := hr
  obtain ⟨⟨s1, s2, s3, s4, s5, s6, s7, s8, tn, s9, s10⟩, IM, IP, IJ, IR, IC⟩ := hI
  obtain ⟨⟨r0, r1, r2, r3, r4, r5, r6⟩, rM, rP, rJ, rH, rC⟩ := hr
  refine wp_aload_n (n := 1) dX10_saveSnapshot_0 rfl rfl ?_
  refine wp_iload_n (n := 2) dX10_saveSnapshot_1 rfl rfl ?_
  refine wp_iconst (n := 3) (v := 0) dX10_saveSnapshot_2 rfl (by decide) ?_
  refine wp_iconst (n := 4) (v := nI 1) dX10_saveSnapshot_3 rfl (by decide) ?_
  refine wp_callS3 (n := 7) (rm' := (0, 0, 0, 0)) rfl dX10_saveSnapshot_4 rfl mlX10_54 rfl rfl rfl rfl ?_
  refine s_X10_inJ (p := 0) (q := 1) rfl rfl ?_
  show WP Γ _ _ _ _ _ _ _
  refine wp_iconst (n := 8) (v := nI 1) dX10_saveSnapshot_7 rfl (by decide) ?_
  refine wp_callV2 (n := 11) (rm' := (0, 0, 0, 0)) rfl dX10_saveSnapshot_8 rfl mlX10_113 (by repeat first | assumption | exact ax_set_self _ _ _ | exact ax_newA_self _ _ _ | refine (ax_set_ne _ _ (by omega)).trans ?_ | refine (ax_newA_ne _ _ _ (by omega)).trans ?_) rfl rfl rfl rfl rfl ?_
  refine s_X10_isThrown hM0 hA (fun hB f1 mB => ?_)
  show WP Γ _ _ _ _ _ _ _
  have fB := f1
  have hRB := fB.get hR (by omega)
  cases hx1 : inI x 0 1 with
  | false =>
    rw [hx1] at mB
    refine wp_if_eq (t := 16) (n := 14) dX10_saveSnapshot_11 (by decide) rfl (fun hq => ?_) (fun hq => ?_)
    · exact absurd hq (by decide)
    · refine wp_iconst (n := 15) (v := 0) dX10_saveSnapshot_14 rfl (by decide) ?_
      exact wp_ireturn dX10_saveSnapshot_15 rfl rfl (k1 hx1 hB fB mB)
  | true =>
    rw [hx1] at mB
    have mB' := mB
    unfold ModC at mB'
    refine wp_if_eq (t := 16) (n := 14) dX10_saveSnapshot_11 (by decide) rfl (fun hq => ?_) (fun hq => ?_)
    · skip
      obtain ⟨j, j1, j2, rfl⟩ := inI_get (a := 0) (b := 1) (by omega) (by omega) (of_decide_eq_true hx1).1 (of_decide_eq_true hx1).2
      subst hA2
      have hCB := fB.get hC (by omega)
      have hEB := fB.get hE (by omega)
      have hFB := fB.get hF (by omega)
      have hVB := fB.get hV (by omega)
      refine wp_aload_n (n := 17) dX10_saveSnapshot_16 rfl rfl ?_
      refine wp_getf (n := 20) dX10_saveSnapshot_17 rfl flX10_9 (by repeat first | assumption | exact ax_set_self _ _ _ | exact ax_newA_self _ _ _ | refine (ax_set_ne _ _ (by omega)).trans ?_ | refine (ax_newA_ne _ _ _ (by omega)).trans ?_) (by rfl) ?_
      refine wp_iconst (n := 21) (v := 0) dX10_saveSnapshot_20 rfl (by decide) ?_
      refine wp_aload_n (n := 22) dX10_saveSnapshot_21 rfl rfl ?_
      refine wp_getf (n := 25) dX10_saveSnapshot_22 rfl flX10_19 (by repeat first | assumption | exact ax_set_self _ _ _ | exact ax_newA_self _ _ _ | refine (ax_set_ne _ _ (by omega)).trans ?_ | refine (ax_newA_ne _ _ _ (by omega)).trans ?_) (by rfl) ?_
      refine wp_iload_n (n := 26) dX10_saveSnapshot_25 rfl rfl ?_
      refine wp_callS4 (n := 29) (rm' := (0, 0, 0, 0)) rfl dX10_saveSnapshot_26 rfl mlX10_252 rfl rfl rfl rfl ?_
      refine s_X10_copies (i := 0) (j := j) hRB hCB (by omega) (by omega) (by omega) (by omega) (by omega) (by omega) (fun h3 C3 f3 c3 z3 o3 => ?_)
      show WP Γ _ _ _ _ _ _ _
      have m3 := mB.fr f3 (by omega)
      have m3' := m3
      unfold ModC at m3'
      refine wp_aload_n (n := 30) dX10_saveSnapshot_29 rfl rfl ?_
      refine wp_getf (n := 33) dX10_saveSnapshot_30 rfl flX10_22 (by repeat first | assumption | exact ax_set_self _ _ _ | exact ax_newA_self _ _ _ | refine (ax_set_ne _ _ (by omega)).trans ?_ | refine (ax_newA_ne _ _ _ (by omega)).trans ?_) (by rfl) ?_
      refine wp_iconst (n := 34) (v := 0) dX10_saveSnapshot_33 rfl (by decide) ?_
      refine wp_aload_n (n := 35) dX10_saveSnapshot_34 rfl rfl ?_
      refine wp_getf (n := 38) dX10_saveSnapshot_35 rfl flX10_29 (by repeat first | assumption | exact ax_set_self _ _ _ | exact ax_newA_self _ _ _ | refine (ax_set_ne _ _ (by omega)).trans ?_ | refine (ax_newA_ne _ _ _ (by omega)).trans ?_) (by rfl) ?_
      refine wp_iload_n (n := 39) dX10_saveSnapshot_38 rfl rfl ?_
      refine wp_callS4 (n := 42) (rm' := (0, 0, 0, 0)) rfl dX10_saveSnapshot_39 rfl mlX10_268 rfl rfl rfl rfl ?_
      refine s_X10_copiesRents (i := 0) (j := j) (f3.get hEB (by omega)) (f3.get hFB (by omega)) (by omega) (by omega) (by omega) (by omega) (by omega) (by omega) (fun h4 E4 f4 c4 z4 o4 => ?_)
      show WP Γ _ _ _ _ _ _ _
      have m4 := m3.fr f4 (by omega)
      have m4' := m4
      unfold ModC at m4'
      have v4 := f4.get (f3.get hVB (by omega)) (by omega)
      refine wp_aload_n (n := 43) dX10_saveSnapshot_42 rfl rfl ?_
      refine wp_getf (n := 46) dX10_saveSnapshot_43 rfl flX10_32 (by repeat first | assumption | exact ax_set_self _ _ _ | exact ax_newA_self _ _ _ | refine (ax_set_ne _ _ (by omega)).trans ?_ | refine (ax_newA_ne _ _ _ (by omega)).trans ?_) (by rfl) ?_
      refine wp_iload_n (n := 47) dX10_saveSnapshot_46 rfl rfl ?_
      refine wp_iconst (n := 48) (v := nI 1) dX10_saveSnapshot_47 rfl (by decide) ?_
      refine wp_zast (n := 49) j dX10_saveSnapshot_48 rfl v4 (by omega) rfl (by omega) (by omega) rfl ?_
      refine wp_aload_n (n := 50) dX10_saveSnapshot_49 rfl rfl ?_
      refine wp_getf (n := 53) dX10_saveSnapshot_50 rfl flX10_9 (by repeat first | assumption | exact ax_set_self _ _ _ | exact ax_newA_self _ _ _ | refine (ax_set_ne _ _ (by omega)).trans ?_ | refine (ax_newA_ne _ _ _ (by omega)).trans ?_) (by rfl) ?_
      refine wp_iconst (n := 54) (v := nI 2) dX10_saveSnapshot_53 rfl (by decide) ?_
      refine wp_iald (n := 55) 2 dX10_saveSnapshot_54 rfl ((ax_set_ne _ _ (by omega)).trans (f4.get (f3.get hRB (by omega)) (by omega))) rfl (by omega) (by omega) ?_
      rw [r2]
      exact wp_ireturn dX10_saveSnapshot_55 rfl rfl (k j j2 rfl _ C3 E4 (f4.1.trans (f3.1.trans fB.1)) (fun c c1 c2 c3 c9 => (ax_set_ne _ _ c9).trans ((f4.2 c (by omega)).trans ((f3.2 c (by omega)).trans (fB.2 c (by omega))))) ((ax_set_ne _ _ (by omega)).trans m4) ((ax_set_ne _ _ (by omega)).trans (f4.get c3 (by omega))) ((ax_set_ne _ _ (by omega)).trans c4) (ax_set_self _ _ _) (fun q hq => by have := z3 q hq; rw [show 5061 * 0 + q = q by omega] at this; exact this) o3 (fun q hq => by have := z4 q hq; rw [show 8 * 0 + q = q by omega] at this; exact this) o4)
    · exact absurd rfl hq
theorem s_X10_restoreSnapshot (hM : ModC h m a th tl at' bg er ea lr cm) (hR : h.2 a = some (.inl (.int, 5061, .inl R))) (hr : RowR R np qu ra re le ln nb pl tm ne rw bk nh hw nc cw t y) (hI : Inv np qu ra re le ln nb pl tm ne rw bk nh hw nc cw t y) (hA : Γ.2.1 ≤ m) (ham : ¬ a = m) (hC : h.2 (m + 4) = some (.inl (.int, 10122, .inl CC))) (hE : h.2 (m + 5) = some (.inl (.float, 8, .inr (.inr (.inl RE))))) (hF : h.2 (m + 7) = some (.inl (.float, 16, .inr (.inr (.inl CE))))) (hV : h.2 (m + 8) = some (.inl (.boolean, 2, .inl SV))) (hA2 : a = m + 1)
    (k1 : inI x 0 1 = false → ∀ h', ax_fr m (m + 1) h h' → ModC h' m a (nI 1) tl at' bg er ea lr cm → Q (.inl (some (.int 0))) h')
    (k0 : ∀ j, j ≤ 1 → x = nI j → SV j = 0 → ∀ h', ax_fr m (m + 1) h h' → ModC h' m (m + 1) (0) tl at' bg er ea lr cm → Q (.inl (some (.int (-1)))) h')
    (k : ∀ j, j ≤ 1 → x = nI j → ¬ SV j = 0 → ∀ h' R' E', h'.1 = h.1 → (∀ c, ¬ c = m → ¬ c = m + 1 → ¬ c = m + 5 → h'.2 c = h.2 c) → ModC h' m (m + 1) 0 tl at' bg er ea lr cm → h'.2 (m + 1) = some (.inl (.int, 5061, .inl R')) → h'.2 (m + 5) = some (.inl (.float, 8, .inr (.inr (.inl E')))) → (∀ q, q < 5061 → R' q = CC (5061 * j + q)) → (∀ q, q < 8 → E' q = CE (8 * j + q)) → Q (.inl (some (.int (CC (5061 * j + 2))))) h') : WP Γ MX10_restoreSnapshot (1, 24, 0, 0) 0 [some (.ref m), some (.int x)] [] h Q := by
  have hM0 := hM
  unfold ModC at hM
  have hI0 := hI
  have hr0 := hr
  obtain ⟨⟨s1, s2, s3, s4, s5, s6, s7, s8, tn, s9, s10⟩, IM, IP, IJ, IR, IC⟩ := hI
  obtain ⟨⟨r0, r1, r2, r3, r4, r5, r6⟩, rM, rP, rJ, rH, rC⟩ := hr
  refine wp_aload_n (n := 1) dX10_restoreSnapshot_0 rfl rfl ?_
  refine wp_iload_n (n := 2) dX10_restoreSnapshot_1 rfl rfl ?_
  refine wp_iconst (n := 3) (v := 0) dX10_restoreSnapshot_2 rfl (by decide) ?_
  refine wp_iconst (n := 4) (v := nI 1) dX10_restoreSnapshot_3 rfl (by decide) ?_
  refine wp_callS3 (n := 7) (rm' := (0, 0, 0, 0)) rfl dX10_restoreSnapshot_4 rfl mlX10_54 rfl rfl rfl rfl ?_
  refine s_X10_inJ (p := 0) (q := 1) rfl rfl ?_
  show WP Γ _ _ _ _ _ _ _
  refine wp_iconst (n := 8) (v := nI 1) dX10_restoreSnapshot_7 rfl (by decide) ?_
  refine wp_callV2 (n := 11) (rm' := (0, 0, 0, 0)) rfl dX10_restoreSnapshot_8 rfl mlX10_113 (by repeat first | assumption | exact ax_set_self _ _ _ | exact ax_newA_self _ _ _ | refine (ax_set_ne _ _ (by omega)).trans ?_ | refine (ax_newA_ne _ _ _ (by omega)).trans ?_) rfl rfl rfl rfl rfl ?_
  refine s_X10_isThrown hM0 hA (fun hB f1 mB => ?_)
  show WP Γ _ _ _ _ _ _ _
  have fB := f1
  have hRB := fB.get hR (by omega)
  cases hx1 : inI x 0 1 with
  | false =>
    rw [hx1] at mB
    refine wp_if_eq (t := 16) (n := 14) dX10_restoreSnapshot_11 (by decide) rfl (fun hq => ?_) (fun hq => ?_)
    · exact absurd hq (by decide)
    · refine wp_iconst (n := 15) (v := 0) dX10_restoreSnapshot_14 rfl (by decide) ?_
      exact wp_ireturn dX10_restoreSnapshot_15 rfl rfl (k1 hx1 hB fB mB)
  | true =>
    rw [hx1] at mB
    have mB' := mB
    unfold ModC at mB'
    refine wp_if_eq (t := 16) (n := 14) dX10_restoreSnapshot_11 (by decide) rfl (fun hq => ?_) (fun hq => ?_)
    · skip
      obtain ⟨j, j1, j2, rfl⟩ := inI_get (a := 0) (b := 1) (by omega) (by omega) (of_decide_eq_true hx1).1 (of_decide_eq_true hx1).2
      subst hA2
      have hCB := fB.get hC (by omega)
      have hEB := fB.get hE (by omega)
      have hFB := fB.get hF (by omega)
      have hVB := fB.get hV (by omega)
      refine wp_aload_n (n := 17) dX10_restoreSnapshot_16 rfl rfl ?_
      refine wp_getf (n := 20) dX10_restoreSnapshot_17 rfl flX10_32 (by repeat first | assumption | exact ax_set_self _ _ _ | exact ax_newA_self _ _ _ | refine (ax_set_ne _ _ (by omega)).trans ?_ | refine (ax_newA_ne _ _ _ (by omega)).trans ?_) (by rfl) ?_
      refine wp_iload_n (n := 21) dX10_restoreSnapshot_20 rfl rfl ?_
      refine wp_zald (n := 22) j dX10_restoreSnapshot_21 rfl hVB rfl (by omega) (by omega) ?_
      refine wp_if_ne (t := 27) (n := 25) dX10_restoreSnapshot_22 (by decide) rfl (fun hc => ?_) (fun hc => ?_)
      · refine wp_aload_n (n := 28) dX10_restoreSnapshot_27 rfl rfl ?_
        refine wp_getf (n := 31) dX10_restoreSnapshot_28 rfl flX10_19 (by repeat first | assumption | exact ax_set_self _ _ _ | exact ax_newA_self _ _ _ | refine (ax_set_ne _ _ (by omega)).trans ?_ | refine (ax_newA_ne _ _ _ (by omega)).trans ?_) (by rfl) ?_
        refine wp_iload_n (n := 32) dX10_restoreSnapshot_31 rfl rfl ?_
        refine wp_aload_n (n := 33) dX10_restoreSnapshot_32 rfl rfl ?_
        refine wp_getf (n := 36) dX10_restoreSnapshot_33 rfl flX10_9 (by repeat first | assumption | exact ax_set_self _ _ _ | exact ax_newA_self _ _ _ | refine (ax_set_ne _ _ (by omega)).trans ?_ | refine (ax_newA_ne _ _ _ (by omega)).trans ?_) (by rfl) ?_
        refine wp_iconst (n := 37) (v := 0) dX10_restoreSnapshot_36 rfl (by decide) ?_
        refine wp_callS4 (n := 40) (rm' := (0, 0, 0, 0)) rfl dX10_restoreSnapshot_37 rfl mlX10_252 rfl rfl rfl rfl ?_
        refine s_X10_copies (i := j) (j := 0) hCB hRB (by omega) (by omega) (by omega) (by omega) (by omega) (by omega) (fun h3 C3 f3 c3 z3 o3 => ?_)
        show WP Γ _ _ _ _ _ _ _
        have m3 := mB.fr f3 (by omega)
        have m3' := m3
        unfold ModC at m3'
        refine wp_aload_n (n := 41) dX10_restoreSnapshot_40 rfl rfl ?_
        refine wp_getf (n := 44) dX10_restoreSnapshot_41 rfl flX10_29 (by repeat first | assumption | exact ax_set_self _ _ _ | exact ax_newA_self _ _ _ | refine (ax_set_ne _ _ (by omega)).trans ?_ | refine (ax_newA_ne _ _ _ (by omega)).trans ?_) (by rfl) ?_
        refine wp_iload_n (n := 45) dX10_restoreSnapshot_44 rfl rfl ?_
        refine wp_aload_n (n := 46) dX10_restoreSnapshot_45 rfl rfl ?_
        refine wp_getf (n := 49) dX10_restoreSnapshot_46 rfl flX10_22 (by repeat first | assumption | exact ax_set_self _ _ _ | exact ax_newA_self _ _ _ | refine (ax_set_ne _ _ (by omega)).trans ?_ | refine (ax_newA_ne _ _ _ (by omega)).trans ?_) (by rfl) ?_
        refine wp_iconst (n := 50) (v := 0) dX10_restoreSnapshot_49 rfl (by decide) ?_
        refine wp_callS4 (n := 53) (rm' := (0, 0, 0, 0)) rfl dX10_restoreSnapshot_50 rfl mlX10_268 rfl rfl rfl rfl ?_
        refine s_X10_copiesRents (i := j) (j := 0) (f3.get hFB (by omega)) (f3.get hEB (by omega)) (by omega) (by omega) (by omega) (by omega) (by omega) (by omega) (fun h4 E4 f4 c4 z4 o4 => ?_)
        show WP Γ _ _ _ _ _ _ _
        have m4 := m3.fr f4 (by omega)
        have m4' := m4
        unfold ModC at m4'
        have e9 : ∀ q, q < 5061 → C3 q = CC (5061 * j + q) := fun q hq => by have := z3 q hq; rw [show 5061 * 0 + q = q by omega] at this; exact this
        have e8 : ∀ q, q < 8 → E4 q = CE (8 * j + q) := fun q hq => by have := z4 q hq; rw [show 8 * 0 + q = q by omega] at this; exact this
        refine wp_aload_n (n := 54) dX10_restoreSnapshot_53 rfl rfl ?_
        refine wp_getf (n := 57) dX10_restoreSnapshot_54 rfl flX10_9 (by repeat first | assumption | exact ax_set_self _ _ _ | exact ax_newA_self _ _ _ | refine (ax_set_ne _ _ (by omega)).trans ?_ | refine (ax_newA_ne _ _ _ (by omega)).trans ?_) (by rfl) ?_
        refine wp_iconst (n := 58) (v := nI 2) dX10_restoreSnapshot_57 rfl (by decide) ?_
        refine wp_iald (n := 59) 2 dX10_restoreSnapshot_58 rfl (f4.get c3 (by omega)) rfl (by omega) (by omega) ?_
        rw [e9 2 (by omega)]
        exact wp_ireturn dX10_restoreSnapshot_59 rfl rfl (k j j2 rfl hc h4 C3 E4 (f4.1.trans (f3.1.trans fB.1)) (fun c c1 c2 c3 => (f4.2 c (by omega)).trans ((f3.2 c (by omega)).trans (fB.2 c (by omega)))) m4 (f4.get c3 (by omega)) c4 e9 e8)
      · refine wp_iconst (n := 26) (v := (-1)) dX10_restoreSnapshot_25 rfl (by decide) ?_
        exact wp_ireturn dX10_restoreSnapshot_26 rfl rfl (k0 j j2 rfl hc hB fB mB)
    · exact absurd rfl hq
theorem s_X10_appendByte (hM : ModC h m a th tl at' bg er ea lr cm) (hR : h.2 a = some (.inl (.int, 5061, .inl R))) (hr : RowR R np qu ra re le ln nb pl tm ne rw bk nh hw nc cw t y) (hI : Inv np qu ra re le ln nb pl tm ne rw bk nh hw nc cw t y) (hA : Γ.2.1 ≤ m) (ham : ¬ a = m) (hU : h.2 (m + 10) = some (.inl (.byte, 500, .inl B))) (hl : tl = nI len) (hl2 : len ≤ 500)
    (k1 : inI x 0 255 = false → ∀ h', ax_fr m (m + 1) h h' → ModC h' m a (nI 1) tl at' bg er ea lr cm → Q (.inl (some (.int 0))) h')
    (k0 : ∀ v, v ≤ 255 → x = nI v → len = 500 → ∀ h', ax_fr m (m + 1) h h' → ModC h' m a (0) tl at' bg er ea lr cm → Q (.inl (some (.int (-2)))) h')
    (k : ∀ v, v ≤ 255 → x = nI v → len < 500 → ∀ h', h'.1 = h.1 → (∀ c, ¬ c = m → ¬ c = m + 10 → h'.2 c = h.2 c) → ModC h' m a 0 (nI (len + 1)) at' bg er ea lr cm → h'.2 (m + 10) = some (.inl (.byte, 500, .inl (upd B len (nI v).toInt8.toInt32))) → Q (.inl (some (.int (nI (len + 1))))) h') : WP Γ MX10_appendByte (1, 22, 0, 0) 0 [some (.ref m), some (.int x)] [] h Q := by
  subst hl
  have hM0 := hM
  unfold ModC at hM
  have hI0 := hI
  have hr0 := hr
  obtain ⟨⟨s1, s2, s3, s4, s5, s6, s7, s8, tn, s9, s10⟩, IM, IP, IJ, IR, IC⟩ := hI
  obtain ⟨⟨r0, r1, r2, r3, r4, r5, r6⟩, rM, rP, rJ, rH, rC⟩ := hr
  refine wp_aload_n (n := 1) dX10_appendByte_0 rfl rfl ?_
  refine wp_iload_n (n := 2) dX10_appendByte_1 rfl rfl ?_
  refine wp_iconst (n := 3) (v := 0) dX10_appendByte_2 rfl (by decide) ?_
  refine wp_sipush (n := 6) (v := nI 255) dX10_appendByte_3 rfl (by decide) ?_
  refine wp_callS3 (n := 9) (rm' := (0, 0, 0, 0)) rfl dX10_appendByte_6 rfl mlX10_54 rfl rfl rfl rfl ?_
  refine s_X10_inJ (p := 0) (q := 255) rfl rfl ?_
  show WP Γ _ _ _ _ _ _ _
  refine wp_iconst (n := 10) (v := nI 1) dX10_appendByte_9 rfl (by decide) ?_
  refine wp_callV2 (n := 13) (rm' := (0, 0, 0, 0)) rfl dX10_appendByte_10 rfl mlX10_113 (by repeat first | assumption | exact ax_set_self _ _ _ | exact ax_newA_self _ _ _ | refine (ax_set_ne _ _ (by omega)).trans ?_ | refine (ax_newA_ne _ _ _ (by omega)).trans ?_) rfl rfl rfl rfl rfl ?_
  refine s_X10_isThrown hM0 hA (fun hB f1 mB => ?_)
  show WP Γ _ _ _ _ _ _ _
  have fB := f1
  have hRB := fB.get hR (by omega)
  cases hx1 : inI x 0 255 with
  | false =>
    rw [hx1] at mB
    refine wp_if_eq (t := 18) (n := 16) dX10_appendByte_13 (by decide) rfl (fun hq => ?_) (fun hq => ?_)
    · exact absurd hq (by decide)
    · refine wp_iconst (n := 17) (v := 0) dX10_appendByte_16 rfl (by decide) ?_
      exact wp_ireturn dX10_appendByte_17 rfl rfl (k1 hx1 hB fB mB)
  | true =>
    rw [hx1] at mB
    have mB' := mB
    unfold ModC at mB'
    refine wp_if_eq (t := 18) (n := 16) dX10_appendByte_13 (by decide) rfl (fun hq => ?_) (fun hq => ?_)
    · skip
      obtain ⟨v, v1, v2, rfl⟩ := inI_get (a := 0) (b := 255) (by omega) (by omega) (of_decide_eq_true hx1).1 (of_decide_eq_true hx1).2
      have hUB := fB.get hU (by omega)
      by_cases hfull : len = 500
      · refine wp_aload_n (n := 19) dX10_appendByte_18 rfl rfl ?_
        refine wp_getf (n := 22) dX10_appendByte_19 rfl flX10_154 (by repeat first | assumption | exact ax_set_self _ _ _ | exact ax_newA_self _ _ _ | refine (ax_set_ne _ _ (by omega)).trans ?_ | refine (ax_newA_ne _ _ _ (by omega)).trans ?_) (by rfl) ?_
        refine wp_sipush (n := 25) (v := nI 500) dX10_appendByte_22 rfl (by decide) ?_
        refine wp_icmp_ne (t := 31) (n := 28) dX10_appendByte_25 (by decide) rfl (fun hc => ?_) (fun hc => ?_)
        · exact absurd (by rw [hfull]) hc
        · refine wp_bipush (n := 30) (v := (-2)) dX10_appendByte_28 rfl (by decide) ?_
          exact wp_ireturn dX10_appendByte_30 rfl rfl (k0 v v2 rfl hfull hB fB mB)
      · refine wp_aload_n (n := 19) dX10_appendByte_18 rfl rfl ?_
        refine wp_getf (n := 22) dX10_appendByte_19 rfl flX10_154 (by repeat first | assumption | exact ax_set_self _ _ _ | exact ax_newA_self _ _ _ | refine (ax_set_ne _ _ (by omega)).trans ?_ | refine (ax_newA_ne _ _ _ (by omega)).trans ?_) (by rfl) ?_
        refine wp_sipush (n := 25) (v := nI 500) dX10_appendByte_22 rfl (by decide) ?_
        refine wp_icmp_ne (t := 31) (n := 28) dX10_appendByte_25 (by decide) rfl (fun hc => ?_) (fun hc => ?_)
        · refine wp_aload_n (n := 32) dX10_appendByte_31 rfl rfl ?_
          refine wp_getf (n := 35) dX10_appendByte_32 rfl flX10_39 (by repeat first | assumption | exact ax_set_self _ _ _ | exact ax_newA_self _ _ _ | refine (ax_set_ne _ _ (by omega)).trans ?_ | refine (ax_newA_ne _ _ _ (by omega)).trans ?_) (by rfl) ?_
          refine wp_aload_n (n := 36) dX10_appendByte_35 rfl rfl ?_
          refine wp_getf (n := 39) dX10_appendByte_36 rfl flX10_154 (by repeat first | assumption | exact ax_set_self _ _ _ | exact ax_newA_self _ _ _ | refine (ax_set_ne _ _ (by omega)).trans ?_ | refine (ax_newA_ne _ _ _ (by omega)).trans ?_) (by rfl) ?_
          refine wp_iload_n (n := 40) dX10_appendByte_39 rfl rfl ?_
          refine wp_i2b (n := 41) dX10_appendByte_40 rfl ?_
          refine wp_bast (n := 42) len dX10_appendByte_41 rfl hUB (by omega) rfl (by omega) (by omega) (byt_2 v (by omega)) ?_
          refine wp_aload_n (n := 43) dX10_appendByte_42 rfl rfl ?_
          refine wp_dup (n := 44) dX10_appendByte_43 rfl rfl ?_
          refine wp_getf (n := 47) dX10_appendByte_44 rfl flX10_154 (by repeat first | assumption | exact ax_set_self _ _ _ | exact ax_newA_self _ _ _ | refine (ax_set_ne _ _ (by omega)).trans ?_ | refine (ax_newA_ne _ _ _ (by omega)).trans ?_) (by rfl) ?_
          refine wp_iconst (n := 48) (v := nI 1) dX10_appendByte_47 rfl (by decide) ?_
          refine wp_iadd (n := 49) dX10_appendByte_48 rfl ?_
          rw [nI_add]
          refine wp_putf (n := 52) dX10_appendByte_49 rfl flX10_154 (by repeat first | assumption | exact ax_set_self _ _ _ | exact ax_newA_self _ _ _ | refine (ax_set_ne _ _ (by omega)).trans ?_ | refine (ax_newA_ne _ _ _ (by omega)).trans ?_) (by omega) (by rfl) rfl rfl ?_
          refine wp_aload_n (n := 53) dX10_appendByte_52 rfl rfl ?_
          refine wp_getf (n := 56) dX10_appendByte_53 rfl flX10_154 (by repeat first | assumption | exact ax_set_self _ _ _ | exact ax_newA_self _ _ _ | refine (ax_set_ne _ _ (by omega)).trans ?_ | refine (ax_newA_ne _ _ _ (by omega)).trans ?_) (by rfl) ?_
          exact wp_ireturn dX10_appendByte_56 rfl rfl (k v v2 rfl (by omega) _ fB.1 (fun c c1 c2 => (ax_set_ne _ _ c1).trans ((ax_set_ne _ _ c2).trans (fB.2 c (by omega)))) (ax_set_self _ _ _) ((ax_set_ne _ _ (by omega)).trans (ax_set_self _ _ _)))
        · exact absurd ((nI_eq9 (by omega) (by omega)).mp hc) hfull
    · exact absurd rfl hq
end
