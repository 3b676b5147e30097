/-! ===== Journal: 0 from, 1 to, 2 number, 3 reason, 4 time, 5 kind, 6 partner ===== -/
def JrnAt (h : AH) (p n : Nat) (rw : Nat → Int32) (bk : Nat → Int64) : Prop := h.2 p = some (.inr (4, [.int (nI n), .ref (p + 1), .ref (p + 2)])) ∧ h.2 (p + 1) = some (.inl (.int, 2100, .inl rw)) ∧ h.2 (p + 2) = some (.inl (.long, 1200, .inr (.inl bk)))
section
variable {h h' : AH} {p n lo hi : Nat} {rw : Nat → Int32} {bk : Nat → Int64}
theorem JrnAt.fr (hM : JrnAt h p n rw bk) (hF : ax_fr lo hi h h') (hd : hi ≤ p ∨ p + 3 ≤ lo) : JrnAt h' p n rw bk := ⟨hF.get hM.1 (by omega), hF.get hM.2.1 (by omega), hF.get hM.2.2 (by omega)⟩
theorem JrnAt.setR (hM : JrnAt h p n rw bk) (f : Nat → Int32) : JrnAt (ax_set h (p + 1) (.inl (.int, 2100, .inl f))) p n f bk := ⟨(ax_set_ne _ _ (by omega)).trans hM.1, ax_set_self _ _ _, (ax_set_ne _ _ (by omega)).trans hM.2.2⟩
theorem JrnAt.setB (hM : JrnAt h p n rw bk) (f : Nat → Int64) : JrnAt (ax_set h (p + 2) (.inl (.long, 1200, .inr (.inl f)))) p n rw f := ⟨(ax_set_ne _ _ (by omega)).trans hM.1, (ax_set_ne _ _ (by omega)).trans hM.2.1, ax_set_self _ _ _⟩
theorem JrnAt.setN (hM : JrnAt h p n rw bk) (m : Nat) : JrnAt (ax_set h p (.inr (4, [.int (nI m), .ref (p + 1), .ref (p + 2)]))) p m rw bk := ⟨ax_set_self _ _ _, (ax_set_ne _ _ (by omega)).trans hM.2.1, (ax_set_ne _ _ (by omega)).trans hM.2.2⟩
end
def upd7 (rw : Nat → Int32) (r : Nat) (a b c d e f g : Int32) : Nat → Int32 := upd (upd (upd (upd (upd (upd (upd rw (r * 7 + 0) a) (r * 7 + 1) b) (r * 7 + 2) c) (r * 7 + 3) d) (r * 7 + 4) e) (r * 7 + 5) f) (r * 7 + 6) g
/-- whether the entry e has the block b -/
def blk (bk : Nat → Int64) (e b : Nat) : Bool := testL (bk (e * 4 + b / 64)) (b % 64)
def chgJ (rw : Nat → Int32) (x : Int32) (e : Nat) : Int32 := (if rw (e * 7 + 1) = x then rw (e * 7 + 2) else 0) - (if rw (e * 7 + 0) = x then rw (e * 7 + 2) else 0)
def witJ (rw : Nat → Int32) (f l : Int32) (e : Nat) : Bool := decide (¬ rw (e * 7 + 4) < f ∧ ¬ l < rw (e * 7 + 4))
def sgnJ (rw : Nat → Int32) (e : Nat) : Int32 := if rw (e * 7 + 5) = 0 then rw (e * 7 + 2) else if rw (e * 7 + 5) = nI 1 then - rw (e * 7 + 2) else 0
section
variable {Γ : GE} {h : AH} {Q : PO} {p n : Nat} {rw : Nat → Int32} {bk : Nat → Int64} {x : Int32}
theorem s_X4_init (hO : h.2 p = some (.inr (4, [.int 0, .null, .null]))) (hz : h.1 = p + 1) (hA : Γ.2.1 ≤ p)
    (k : ∀ h', h'.1 = p + 3 → (∀ a, a < p → h'.2 a = h.2 a) → JrnAt h' p 0 (fun _ => 0) (fun _ => 0) → Q (.inl none) h') : WP Γ MX4_init (1, 60, 2, 3300) 0 [some (.ref p)] [] h Q := by
  refine wp_aload_n (n := 1) dX4_init_0 rfl rfl ?_
  refine wp_objInit (n := 4) dX4_init_1 rfl olX4_3 ax_oi ax_oc rfl rfl ?_
  refine wp_aload_n (n := 5) dX4_init_4 rfl rfl ?_
  refine wp_iconst (n := 6) (v := 0) dX4_init_5 rfl (by decide) ?_
  refine wp_putf (n := 9) dX4_init_6 rfl flX4_9 (by repeat first | assumption | exact ax_set_self _ _ _ | exact ax_newA_self _ _ _ | refine (ax_set_ne _ _ (by omega)).trans ?_ | refine (ax_newA_ne _ _ _ (by omega)).trans ?_) (by omega) (by rfl) rfl rfl ?_
  refine wp_aload_n (n := 10) dX4_init_9 rfl rfl ?_
  refine wp_sipush (n := 13) (v := nI 2100) dX4_init_10 rfl (by decide) ?_
  refine wp_newaA (n := 15) (p + 1) 2100 (ty := .int) (2100, .inl (fun _ => 0)) dX4_init_13 rfl hz rfl ac_int rfl (by decide) rfl (fun _ => rfl) (fun _ q => by cases q) (by decide) rfl rfl ?_
  refine wp_putF (n := 18) dX4_init_15 rfl flX4_15 rfl rfl (by repeat first | assumption | exact ax_set_self _ _ _ | exact ax_newA_self _ _ _ | refine (ax_set_ne _ _ (by omega)).trans ?_ | refine (ax_newA_ne _ _ _ (by omega)).trans ?_) (by omega) (by rfl) rfl rfl ?_
  refine wp_aload_n (n := 19) dX4_init_18 rfl rfl ?_
  refine wp_sipush (n := 22) (v := nI 1200) dX4_init_19 rfl (by decide) ?_
  refine wp_newaA (n := 24) (p + 2) 1200 (ty := .long) (1200, .inr (.inl (fun _ => 0))) dX4_init_22 rfl rfl rfl ac_long rfl (by decide) rfl (fun _ => rfl) (fun _ q => by cases q) (by decide) rfl rfl ?_
  refine wp_putF (n := 27) dX4_init_24 rfl flX4_19 rfl rfl (by repeat first | assumption | exact ax_set_self _ _ _ | exact ax_newA_self _ _ _ | refine (ax_set_ne _ _ (by omega)).trans ?_ | refine (ax_newA_ne _ _ _ (by omega)).trans ?_) (by omega) (by rfl) rfl rfl ?_
  refine wp_return dX4_init_27 rfl (k _ rfl (fun a ha => ?_) ⟨?_, ?_, ?_⟩)
  · repeat first | rfl | refine (ax_set_ne _ _ (by omega)).trans ?_ | refine (ax_newA_ne _ _ _ (by omega)).trans ?_
  · repeat first | assumption | exact ax_set_self _ _ _ | exact ax_newA_self _ _ _ | refine (ax_set_ne _ _ (by omega)).trans ?_ | refine (ax_newA_ne _ _ _ (by omega)).trans ?_
  · repeat first | assumption | exact ax_set_self _ _ _ | exact ax_newA_self _ _ _ | refine (ax_set_ne _ _ (by omega)).trans ?_ | refine (ax_newA_ne _ _ _ (by omega)).trans ?_
  · repeat first | assumption | exact ax_set_self _ _ _ | exact ax_newA_self _ _ _ | refine (ax_set_ne _ _ (by omega)).trans ?_ | refine (ax_newA_ne _ _ _ (by omega)).trans ?_
theorem s_X4_isFull (hM : JrnAt h p n rw bk) (hn : n ≤ 300)
    (k : Q (.inl (some (.int (bI (decide (300 ≤ n)))))) h) : WP Γ MX4_isFull (0, 0, 0, 0) 0 [some (.ref p)] [] h Q := by
  obtain ⟨hO, hR, hB⟩ := hM
  refine wp_aload_n (n := 1) dX4_isFull_0 rfl rfl ?_
  refine wp_getf (n := 4) dX4_isFull_1 rfl flX4_9 (by repeat first | assumption | exact ax_set_self _ _ _ | exact ax_newA_self _ _ _ | refine (ax_set_ne _ _ (by omega)).trans ?_ | refine (ax_newA_ne _ _ _ (by omega)).trans ?_) (by rfl) ?_
  refine wp_sipush (n := 7) (v := nI 300) dX4_isFull_4 rfl (by decide) ?_
  refine wp_icmp_lt (t := 14) (n := 10) dX4_isFull_7 (by decide) rfl (fun hc => ?_) (fun hc => ?_)
  · rw [nI_lt9 (by omega) (by omega)] at hc
    have e : decide (300 ≤ n) = false := by simp; omega
    rw [e] at k
    refine wp_iconst (n := 15) (v := 0) dX4_isFull_14 rfl (by decide) ?_
    exact wp_ireturn dX4_isFull_15 rfl rfl (k)
  · rw [nI_lt9 (by omega) (by omega)] at hc
    have e : decide (300 ≤ n) = true := by simp; omega
    rw [e] at k
    refine wp_iconst (n := 11) (v := nI 1) dX4_isFull_10 rfl (by decide) ?_
    refine wp_goto (t := 15) dX4_isFull_11 (by decide) ?_
    exact wp_ireturn dX4_isFull_15 rfl rfl (k)
theorem s_X4_add {a b c d t y : Int32} (hM : JrnAt h p n rw bk) (hA : Γ.2.1 ≤ p) (hn : n < 300)
    (k : ∀ h' bk', ax_fr p (p + 3) h h' → JrnAt h' p (n + 1) (upd7 rw n a b c d t y (-1)) bk' → (∀ i, bk' i = if n * 4 ≤ i ∧ i < n * 4 + 4 then 0 else bk i) → Q (.inl (some (.int (nI n)))) h') : WP Γ MX4_add (0, 0, 0, 0) 0 [some (.ref p), some (.int a), some (.int b), some (.int c), some (.int d), some (.int t), some (.int y), none, none, none] [] h Q := by
  have hM0 := hM
  obtain ⟨hO, hR, hB⟩ := hM
  refine wp_aload_n (n := 1) dX4_add_0 rfl rfl ?_
  refine wp_getf (n := 4) dX4_add_1 rfl flX4_9 (by repeat first | assumption | exact ax_set_self _ _ _ | exact ax_newA_self _ _ _ | refine (ax_set_ne _ _ (by omega)).trans ?_ | refine (ax_newA_ne _ _ _ (by omega)).trans ?_) (by rfl) ?_
  refine wp_istore (n := 6) dX4_add_4 rfl rfl rfl rfl ?_
  refine wp_iload (n := 8) dX4_add_6 rfl rfl ?_
  refine wp_bipush (n := 10) (v := nI 7) dX4_add_8 rfl (by decide) ?_
  refine wp_imul (n := 11) dX4_add_10 rfl ?_
  refine wp_istore (n := 13) dX4_add_11 rfl rfl rfl rfl ?_
  refine wp_aload_n (n := 14) dX4_add_13 rfl rfl ?_
  refine wp_getf (n := 17) dX4_add_14 rfl flX4_15 (by repeat first | assumption | exact ax_set_self _ _ _ | exact ax_newA_self _ _ _ | refine (ax_set_ne _ _ (by omega)).trans ?_ | refine (ax_newA_ne _ _ _ (by omega)).trans ?_) (by rfl) ?_
  refine wp_iload (n := 19) dX4_add_17 rfl rfl ?_
  refine wp_iconst (n := 20) (v := 0) dX4_add_19 rfl (by decide) ?_
  refine wp_iadd (n := 21) dX4_add_20 rfl ?_
  refine wp_iload_n (n := 22) dX4_add_21 rfl rfl ?_
  refine wp_iast (n := 23) (n * 7 + 0) dX4_add_22 rfl (by repeat first | assumption | exact ax_set_self _ _ _ | exact ax_newA_self _ _ _ | refine (ax_set_ne _ _ (by omega)).trans ?_ | refine (ax_newA_ne _ _ _ (by omega)).trans ?_) (by omega) (by simp only [nI_zero, nI_mul, nI_add]) (by omega) (by decide) ?_
  refine wp_aload_n (n := 24) dX4_add_23 rfl rfl ?_
  refine wp_getf (n := 27) dX4_add_24 rfl flX4_15 (by repeat first | assumption | exact ax_set_self _ _ _ | exact ax_newA_self _ _ _ | refine (ax_set_ne _ _ (by omega)).trans ?_ | refine (ax_newA_ne _ _ _ (by omega)).trans ?_) (by rfl) ?_
  refine wp_iload (n := 29) dX4_add_27 rfl rfl ?_
  refine wp_iconst (n := 30) (v := nI 1) dX4_add_29 rfl (by decide) ?_
  refine wp_iadd (n := 31) dX4_add_30 rfl ?_
  refine wp_iload_n (n := 32) dX4_add_31 rfl rfl ?_
  refine wp_iast (n := 33) (n * 7 + 1) dX4_add_32 rfl (by repeat first | assumption | exact ax_set_self _ _ _ | exact ax_newA_self _ _ _ | refine (ax_set_ne _ _ (by omega)).trans ?_ | refine (ax_newA_ne _ _ _ (by omega)).trans ?_) (by omega) (by simp only [nI_zero, nI_mul, nI_add]) (by omega) (by decide) ?_
  refine wp_aload_n (n := 34) dX4_add_33 rfl rfl ?_
  refine wp_getf (n := 37) dX4_add_34 rfl flX4_15 (by repeat first | assumption | exact ax_set_self _ _ _ | exact ax_newA_self _ _ _ | refine (ax_set_ne _ _ (by omega)).trans ?_ | refine (ax_newA_ne _ _ _ (by omega)).trans ?_) (by rfl) ?_
  refine wp_iload (n := 39) dX4_add_37 rfl rfl ?_
  refine wp_iconst (n := 40) (v := nI 2) dX4_add_39 rfl (by decide) ?_
  refine wp_iadd (n := 41) dX4_add_40 rfl ?_
  refine wp_iload_n (n := 42) dX4_add_41 rfl rfl ?_
  refine wp_iast (n := 43) (n * 7 + 2) dX4_add_42 rfl (by repeat first | assumption | exact ax_set_self _ _ _ | exact ax_newA_self _ _ _ | refine (ax_set_ne _ _ (by omega)).trans ?_ | refine (ax_newA_ne _ _ _ (by omega)).trans ?_) (by omega) (by simp only [nI_zero, nI_mul, nI_add]) (by omega) (by decide) ?_
  refine wp_aload_n (n := 44) dX4_add_43 rfl rfl ?_
  refine wp_getf (n := 47) dX4_add_44 rfl flX4_15 (by repeat first | assumption | exact ax_set_self _ _ _ | exact ax_newA_self _ _ _ | refine (ax_set_ne _ _ (by omega)).trans ?_ | refine (ax_newA_ne _ _ _ (by omega)).trans ?_) (by rfl) ?_
  refine wp_iload (n := 49) dX4_add_47 rfl rfl ?_
  refine wp_iconst (n := 50) (v := nI 3) dX4_add_49 rfl (by decide) ?_
  refine wp_iadd (n := 51) dX4_add_50 rfl ?_
  refine wp_iload (n := 53) dX4_add_51 rfl rfl ?_
  refine wp_iast (n := 54) (n * 7 + 3) dX4_add_53 rfl (by repeat first | assumption | exact ax_set_self _ _ _ | exact ax_newA_self _ _ _ | refine (ax_set_ne _ _ (by omega)).trans ?_ | refine (ax_newA_ne _ _ _ (by omega)).trans ?_) (by omega) (by simp only [nI_zero, nI_mul, nI_add]) (by omega) (by decide) ?_
  refine wp_aload_n (n := 55) dX4_add_54 rfl rfl ?_
  refine wp_getf (n := 58) dX4_add_55 rfl flX4_15 (by repeat first | assumption | exact ax_set_self _ _ _ | exact ax_newA_self _ _ _ | refine (ax_set_ne _ _ (by omega)).trans ?_ | refine (ax_newA_ne _ _ _ (by omega)).trans ?_) (by rfl) ?_
  refine wp_iload (n := 60) dX4_add_58 rfl rfl ?_
  refine wp_iconst (n := 61) (v := nI 4) dX4_add_60 rfl (by decide) ?_
  refine wp_iadd (n := 62) dX4_add_61 rfl ?_
  refine wp_iload (n := 64) dX4_add_62 rfl rfl ?_
  refine wp_iast (n := 65) (n * 7 + 4) dX4_add_64 rfl (by repeat first | assumption | exact ax_set_self _ _ _ | exact ax_newA_self _ _ _ | refine (ax_set_ne _ _ (by omega)).trans ?_ | refine (ax_newA_ne _ _ _ (by omega)).trans ?_) (by omega) (by simp only [nI_zero, nI_mul, nI_add]) (by omega) (by decide) ?_
  refine wp_aload_n (n := 66) dX4_add_65 rfl rfl ?_
  refine wp_getf (n := 69) dX4_add_66 rfl flX4_15 (by repeat first | assumption | exact ax_set_self _ _ _ | exact ax_newA_self _ _ _ | refine (ax_set_ne _ _ (by omega)).trans ?_ | refine (ax_newA_ne _ _ _ (by omega)).trans ?_) (by rfl) ?_
  refine wp_iload (n := 71) dX4_add_69 rfl rfl ?_
  refine wp_iconst (n := 72) (v := nI 5) dX4_add_71 rfl (by decide) ?_
  refine wp_iadd (n := 73) dX4_add_72 rfl ?_
  refine wp_iload (n := 75) dX4_add_73 rfl rfl ?_
  refine wp_iast (n := 76) (n * 7 + 5) dX4_add_75 rfl (by repeat first | assumption | exact ax_set_self _ _ _ | exact ax_newA_self _ _ _ | refine (ax_set_ne _ _ (by omega)).trans ?_ | refine (ax_newA_ne _ _ _ (by omega)).trans ?_) (by omega) (by simp only [nI_zero, nI_mul, nI_add]) (by omega) (by decide) ?_
  refine wp_aload_n (n := 77) dX4_add_76 rfl rfl ?_
  refine wp_getf (n := 80) dX4_add_77 rfl flX4_15 (by repeat first | assumption | exact ax_set_self _ _ _ | exact ax_newA_self _ _ _ | refine (ax_set_ne _ _ (by omega)).trans ?_ | refine (ax_newA_ne _ _ _ (by omega)).trans ?_) (by rfl) ?_
  refine wp_iload (n := 82) dX4_add_80 rfl rfl ?_
  refine wp_bipush (n := 84) (v := nI 6) dX4_add_82 rfl (by decide) ?_
  refine wp_iadd (n := 85) dX4_add_84 rfl ?_
  refine wp_iconst (n := 86) (v := (-1)) dX4_add_85 rfl (by decide) ?_
  refine wp_iast (n := 87) (n * 7 + 6) dX4_add_86 rfl (by repeat first | assumption | exact ax_set_self _ _ _ | exact ax_newA_self _ _ _ | refine (ax_set_ne _ _ (by omega)).trans ?_ | refine (ax_newA_ne _ _ _ (by omega)).trans ?_) (by omega) (by simp only [nI_zero, nI_mul, nI_add]) (by omega) (by decide) ?_
  refine wp_iconst (n := 88) (v := 0) dX4_add_87 rfl (by decide) ?_
  refine wp_istore (n := 90) dX4_add_88 rfl rfl rfl rfl ?_
  have L : ∀ j, j ≤ 4 → ∀ h1 bk1, ax_fr p (p + 3) h h1 → JrnAt h1 p n (upd7 rw n a b c d t y (-1)) bk1 → (∀ i, bk1 i = if n * 4 ≤ i ∧ i < n * 4 + j then 0 else bk i) → WP Γ MX4_add (0, 0, 0, 0) 90 [some (.ref p), some (.int a), some (.int b), some (.int c), some (.int d), some (.int t), some (.int y), some (.int (nI n)), some (.int (nI n * nI 7)), some (.int (nI j))] [] h1 Q := by
    refine ax_up 4 (fun j hj ih => ?_)
    intro h1 bk1 hF1 hM1 hz
    have hM0 := hM1
    obtain ⟨hO, hR, hB⟩ := hM1
    refine wp_iload (n := 92) dX4_add_90 rfl rfl ?_
    refine wp_iconst (n := 93) (v := nI 4) dX4_add_92 rfl (by decide) ?_
    refine wp_icmp_ge (t := 115) (n := 96) dX4_add_93 (by decide) rfl (fun hc => ?_) (fun hc => ?_)
    · rw [nI_le9 (by omega) (by omega)] at hc
      obtain rfl : j = 4 := by omega
      refine wp_aload_n (n := 116) dX4_add_115 rfl rfl ?_
      refine wp_dup (n := 117) dX4_add_116 rfl rfl ?_
      refine wp_getf (n := 120) dX4_add_117 rfl flX4_9 (by repeat first | assumption | exact ax_set_self _ _ _ | exact ax_newA_self _ _ _ | refine (ax_set_ne _ _ (by omega)).trans ?_ | refine (ax_newA_ne _ _ _ (by omega)).trans ?_) (by rfl) ?_
      refine wp_iconst (n := 121) (v := nI 1) dX4_add_120 rfl (by decide) ?_
      refine wp_iadd (n := 122) dX4_add_121 rfl ?_
      rw [nI_add]
      refine wp_putf (n := 125) dX4_add_122 rfl flX4_9 (by repeat first | assumption | exact ax_set_self _ _ _ | exact ax_newA_self _ _ _ | refine (ax_set_ne _ _ (by omega)).trans ?_ | refine (ax_newA_ne _ _ _ (by omega)).trans ?_) (by omega) (by rfl) rfl rfl ?_
      refine wp_iload (n := 127) dX4_add_125 rfl rfl ?_
      exact wp_ireturn dX4_add_127 rfl rfl (k _ bk1 (hF1.put (by omega)) (hM0.setN _) hz)
    · rw [nI_le9 (by omega) (by omega)] at hc
      refine wp_aload_n (n := 97) dX4_add_96 rfl rfl ?_
      refine wp_getf (n := 100) dX4_add_97 rfl flX4_19 (by repeat first | assumption | exact ax_set_self _ _ _ | exact ax_newA_self _ _ _ | refine (ax_set_ne _ _ (by omega)).trans ?_ | refine (ax_newA_ne _ _ _ (by omega)).trans ?_) (by rfl) ?_
      refine wp_iload (n := 102) dX4_add_100 rfl rfl ?_
      refine wp_iconst (n := 103) (v := nI 4) dX4_add_102 rfl (by decide) ?_
      refine wp_imul (n := 104) dX4_add_103 rfl ?_
      refine wp_iload (n := 106) dX4_add_104 rfl rfl ?_
      refine wp_iadd (n := 107) dX4_add_106 rfl ?_
      refine wp_lconst (n := 108) (v := 0) dX4_add_107 rfl (by decide) ?_
      refine wp_last (n := 109) (n * 4 + j) dX4_add_108 rfl (by repeat first | assumption | exact ax_set_self _ _ _ | exact ax_newA_self _ _ _ | refine (ax_set_ne _ _ (by omega)).trans ?_ | refine (ax_newA_ne _ _ _ (by omega)).trans ?_) (by omega) (by simp only [nI_zero, nI_mul, nI_add]) (by omega) (by decide) ?_
      refine wp_iinc (n := 112) dX4_add_109 rfl rfl (nI_inc j) rfl rfl rfl ?_
      refine wp_goto (t := 90) dX4_add_112 (by decide) ?_
      refine ih (by omega) _ _ (hF1.put (by omega)) (hM0.setB _) (fun i => ?_)
      simp only [vp_updL]
      by_cases e : i = n * 4 + j
      · rw [if_pos e, if_pos (by omega)]
      · rw [if_neg e, hz i]
        have : (n * 4 ≤ i ∧ i < n * 4 + j) ↔ (n * 4 ≤ i ∧ i < n * 4 + (j + 1)) := by omega
        simp only [this]
  refine L 0 (by omega) _ bk (((((((ax_fr.set (lo := p) (hi := p + 3) (by omega)).put (by omega)).put (by omega)).put (by omega)).put (by omega)).put (by omega)).put (by omega)) ⟨?_, ax_set_self _ _ _, ?_⟩ (fun i => by rw [if_neg (by omega)])
  · repeat first | assumption | refine (ax_set_ne _ _ (by omega)).trans ?_
  · repeat first | assumption | refine (ax_set_ne _ _ (by omega)).trans ?_
theorem s_X4_value {e j : Nat} (hM : JrnAt h p n rw bk) (he : e < 300) (hj : j < 7)
    (k : Q (.inl (some (.int (rw (e * 7 + j))))) h) : WP Γ MX4_value (0, 0, 0, 0) 0 [some (.ref p), some (.int (nI e)), some (.int (nI j))] [] h Q := by
  obtain ⟨hO, hR, hB⟩ := hM
  refine wp_aload_n (n := 1) dX4_value_0 rfl rfl ?_
  refine wp_getf (n := 4) dX4_value_1 rfl flX4_15 (by repeat first | assumption | exact ax_set_self _ _ _ | exact ax_newA_self _ _ _ | refine (ax_set_ne _ _ (by omega)).trans ?_ | refine (ax_newA_ne _ _ _ (by omega)).trans ?_) (by rfl) ?_
  refine wp_iload_n (n := 5) dX4_value_4 rfl rfl ?_
  refine wp_bipush (n := 7) (v := nI 7) dX4_value_5 rfl (by decide) ?_
  refine wp_imul (n := 8) dX4_value_7 rfl ?_
  refine wp_iload_n (n := 9) dX4_value_8 rfl rfl ?_
  refine wp_iadd (n := 10) dX4_value_9 rfl ?_
  refine wp_iald (n := 11) (e * 7 + j) dX4_value_10 rfl (by repeat first | assumption | exact ax_set_self _ _ _ | exact ax_newA_self _ _ _ | refine (ax_set_ne _ _ (by omega)).trans ?_ | refine (ax_newA_ne _ _ _ (by omega)).trans ?_) (by simp only [nI_zero, nI_mul, nI_add]) (by omega) (by decide) ?_
  exact wp_ireturn dX4_value_11 rfl rfl (k)
theorem s_X4_link {e r : Nat} (hM : JrnAt h p n rw bk) (hA : Γ.2.1 ≤ p) (he : e < 300) (hr : r < 300)
    (k : ∀ h', ax_fr p (p + 3) h h' → JrnAt h' p n (upd (upd rw (e * 7 + 6) (nI r)) (r * 7 + 6) (nI e)) bk → Q (.inl none) h') : WP Γ MX4_link (0, 0, 0, 0) 0 [some (.ref p), some (.int (nI e)), some (.int (nI r))] [] h Q := by
  have hM0 := hM
  obtain ⟨hO, hR, hB⟩ := hM
  refine wp_aload_n (n := 1) dX4_link_0 rfl rfl ?_
  refine wp_getf (n := 4) dX4_link_1 rfl flX4_15 (by repeat first | assumption | exact ax_set_self _ _ _ | exact ax_newA_self _ _ _ | refine (ax_set_ne _ _ (by omega)).trans ?_ | refine (ax_newA_ne _ _ _ (by omega)).trans ?_) (by rfl) ?_
  refine wp_iload_n (n := 5) dX4_link_4 rfl rfl ?_
  refine wp_bipush (n := 7) (v := nI 7) dX4_link_5 rfl (by decide) ?_
  refine wp_imul (n := 8) dX4_link_7 rfl ?_
  refine wp_bipush (n := 10) (v := nI 6) dX4_link_8 rfl (by decide) ?_
  refine wp_iadd (n := 11) dX4_link_10 rfl ?_
  refine wp_iload_n (n := 12) dX4_link_11 rfl rfl ?_
  refine wp_iast (n := 13) (e * 7 + 6) dX4_link_12 rfl (by repeat first | assumption | exact ax_set_self _ _ _ | exact ax_newA_self _ _ _ | refine (ax_set_ne _ _ (by omega)).trans ?_ | refine (ax_newA_ne _ _ _ (by omega)).trans ?_) (by omega) (by simp only [nI_zero, nI_mul, nI_add]) (by omega) (by decide) ?_
  refine wp_aload_n (n := 14) dX4_link_13 rfl rfl ?_
  refine wp_getf (n := 17) dX4_link_14 rfl flX4_15 (by repeat first | assumption | exact ax_set_self _ _ _ | exact ax_newA_self _ _ _ | refine (ax_set_ne _ _ (by omega)).trans ?_ | refine (ax_newA_ne _ _ _ (by omega)).trans ?_) (by rfl) ?_
  refine wp_iload_n (n := 18) dX4_link_17 rfl rfl ?_
  refine wp_bipush (n := 20) (v := nI 7) dX4_link_18 rfl (by decide) ?_
  refine wp_imul (n := 21) dX4_link_20 rfl ?_
  refine wp_bipush (n := 23) (v := nI 6) dX4_link_21 rfl (by decide) ?_
  refine wp_iadd (n := 24) dX4_link_23 rfl ?_
  refine wp_iload_n (n := 25) dX4_link_24 rfl rfl ?_
  refine wp_iast (n := 26) (r * 7 + 6) dX4_link_25 rfl (by repeat first | assumption | exact ax_set_self _ _ _ | exact ax_newA_self _ _ _ | refine (ax_set_ne _ _ (by omega)).trans ?_ | refine (ax_newA_ne _ _ _ (by omega)).trans ?_) (by omega) (by simp only [nI_zero, nI_mul, nI_add]) (by omega) (by decide) ?_
  exact wp_return dX4_link_26 rfl (k _ ((ax_fr.set (lo := p) (hi := p + 3) (by omega)).put (by omega)) ((hM0.setR _).setR _))
theorem s_X4_isReversible {e : Nat} (hM : JrnAt h p n rw bk) (he : e < 300)
    (k : Q (.inl (some (.int (bI (decide (rw (e * 7 + 5) = 0 ∧ rw (e * 7 + 6) = -1)))))) h) : WP Γ MX4_isReversible (1, 22, 0, 0) 0 [some (.ref p), some (.int (nI e))] [] h Q := by
  have hM0 := hM
  obtain ⟨hO, hR, hB⟩ := hM
  refine wp_aload_n (n := 1) dX4_isReversible_0 rfl rfl ?_
  refine wp_iload_n (n := 2) dX4_isReversible_1 rfl rfl ?_
  refine wp_iconst (n := 3) (v := nI 5) dX4_isReversible_2 rfl (by decide) ?_
  refine wp_callV2 (n := 6) (rm' := (0, 0, 0, 0)) rfl dX4_isReversible_3 rfl mlX4_23 (by assumption) rfl rfl rfl rfl rfl ?_
  refine s_X4_value hM0 he (by omega) ?_
  show WP Γ _ _ _ _ _ _ _
  refine wp_if_ne (t := 24) (n := 9) dX4_isReversible_6 (by decide) rfl (fun hc => ?_) (fun hc => ?_)
  · refine wp_iconst (n := 25) (v := 0) dX4_isReversible_24 rfl (by decide) ?_
    simp only [hc, false_and, decide_false] at k
    exact wp_ireturn dX4_isReversible_25 rfl rfl (k)
  · refine wp_aload_n (n := 10) dX4_isReversible_9 rfl rfl ?_
    refine wp_iload_n (n := 11) dX4_isReversible_10 rfl rfl ?_
    refine wp_bipush (n := 13) (v := nI 6) dX4_isReversible_11 rfl (by decide) ?_
    refine wp_callV2 (n := 16) (rm' := (0, 0, 0, 0)) rfl dX4_isReversible_13 rfl mlX4_23 (by assumption) rfl rfl rfl rfl rfl ?_
    refine s_X4_value hM0 he (by omega) ?_
    show WP Γ _ _ _ _ _ _ _
    refine wp_iconst (n := 17) (v := (-1)) dX4_isReversible_16 rfl (by decide) ?_
    refine wp_icmp_ne (t := 24) (n := 20) dX4_isReversible_17 (by decide) rfl (fun hq => ?_) (fun hq => ?_)
    · refine wp_iconst (n := 25) (v := 0) dX4_isReversible_24 rfl (by decide) ?_
      simp only [hq, and_false, decide_false] at k
      exact wp_ireturn dX4_isReversible_25 rfl rfl (k)
    · refine wp_iconst (n := 21) (v := nI 1) dX4_isReversible_20 rfl (by decide) ?_
      refine wp_goto (t := 25) dX4_isReversible_21 (by decide) ?_
      simp only [hc, hq, and_self, decide_true] at k
      exact wp_ireturn dX4_isReversible_25 rfl rfl (k)
theorem s_X4_copyFrom {q m : Nat} {rw2 : Nat → Int32} {bk2 : Nat → Int64} (hM : JrnAt h p n rw bk) (hM2 : JrnAt h q m rw2 bk2) (hA : Γ.2.1 ≤ p) (hd : q + 3 ≤ p ∨ p + 3 ≤ q)
    (k : ∀ h', ax_fr p (p + 3) h h' → JrnAt h' p m rw2 bk2 → Q (.inl none) h') : WP Γ MX4_copyFrom (1, 60, 0, 0) 0 [some (.ref p), some (.ref q)] [] h Q := by
  have hM0 := hM
  obtain ⟨hO, hR, hB⟩ := hM
  obtain ⟨hO2, hR2, hB2⟩ := hM2
  refine wp_aload_n (n := 1) dX4_copyFrom_0 rfl rfl ?_
  refine wp_aload_n (n := 2) dX4_copyFrom_1 rfl rfl ?_
  refine wp_getf (n := 5) dX4_copyFrom_2 rfl flX4_9 (by repeat first | assumption | exact ax_set_self _ _ _ | exact ax_newA_self _ _ _ | refine (ax_set_ne _ _ (by omega)).trans ?_ | refine (ax_newA_ne _ _ _ (by omega)).trans ?_) (by rfl) ?_
  refine wp_putf (n := 8) dX4_copyFrom_5 rfl flX4_9 (by repeat first | assumption | exact ax_set_self _ _ _ | exact ax_newA_self _ _ _ | refine (ax_set_ne _ _ (by omega)).trans ?_ | refine (ax_newA_ne _ _ _ (by omega)).trans ?_) (by omega) (by rfl) rfl rfl ?_
  refine wp_aload_n (n := 9) dX4_copyFrom_8 rfl rfl ?_
  refine wp_getf (n := 12) dX4_copyFrom_9 rfl flX4_15 (by repeat first | assumption | exact ax_set_self _ _ _ | exact ax_newA_self _ _ _ | refine (ax_set_ne _ _ (by omega)).trans ?_ | refine (ax_newA_ne _ _ _ (by omega)).trans ?_) (by rfl) ?_
  refine wp_iconst (n := 13) (v := 0) dX4_copyFrom_12 rfl (by decide) ?_
  refine wp_aload_n (n := 14) dX4_copyFrom_13 rfl rfl ?_
  refine wp_getf (n := 17) dX4_copyFrom_14 rfl flX4_15 (by repeat first | assumption | exact ax_set_self _ _ _ | exact ax_newA_self _ _ _ | refine (ax_set_ne _ _ (by omega)).trans ?_ | refine (ax_newA_ne _ _ _ (by omega)).trans ?_) (by rfl) ?_
  refine wp_iconst (n := 18) (v := 0) dX4_copyFrom_17 rfl (by decide) ?_
  refine wp_sipush (n := 21) (v := nI 2100) dX4_copyFrom_18 rfl (by decide) ?_
  refine wp_copyAll (n := 24) (N := 2100) dX4_copyFrom_21 rfl cpX4_27 ax_cn ax_cs ax_ci (by repeat first | assumption | exact ax_set_self _ _ _ | exact ax_newA_self _ _ _ | refine (ax_set_ne _ _ (by omega)).trans ?_ | refine (ax_newA_ne _ _ _ (by omega)).trans ?_) (by repeat first | assumption | exact ax_set_self _ _ _ | exact ax_newA_self _ _ _ | refine (ax_set_ne _ _ (by omega)).trans ?_ | refine (ax_newA_ne _ _ _ (by omega)).trans ?_) (by rfl) (by rfl) (by omega) rfl (fun _ => by rfl) (fun _ _ _ => by trivial) rfl rfl rfl (by decide) rfl rfl ?_
  refine wp_aload_n (n := 25) dX4_copyFrom_24 rfl rfl ?_
  refine wp_getf (n := 28) dX4_copyFrom_25 rfl flX4_19 (by repeat first | assumption | exact ax_set_self _ _ _ | exact ax_newA_self _ _ _ | refine (ax_set_ne _ _ (by omega)).trans ?_ | refine (ax_newA_ne _ _ _ (by omega)).trans ?_) (by rfl) ?_
  refine wp_iconst (n := 29) (v := 0) dX4_copyFrom_28 rfl (by decide) ?_
  refine wp_aload_n (n := 30) dX4_copyFrom_29 rfl rfl ?_
  refine wp_getf (n := 33) dX4_copyFrom_30 rfl flX4_19 (by repeat first | assumption | exact ax_set_self _ _ _ | exact ax_newA_self _ _ _ | refine (ax_set_ne _ _ (by omega)).trans ?_ | refine (ax_newA_ne _ _ _ (by omega)).trans ?_) (by rfl) ?_
  refine wp_iconst (n := 34) (v := 0) dX4_copyFrom_33 rfl (by decide) ?_
  refine wp_sipush (n := 37) (v := nI 1200) dX4_copyFrom_34 rfl (by decide) ?_
  refine wp_copyAll (n := 40) (N := 1200) dX4_copyFrom_37 rfl cpX4_27 ax_cn ax_cs ax_ci (by repeat first | assumption | exact ax_set_self _ _ _ | exact ax_newA_self _ _ _ | refine (ax_set_ne _ _ (by omega)).trans ?_ | refine (ax_newA_ne _ _ _ (by omega)).trans ?_) (by repeat first | assumption | exact ax_set_self _ _ _ | exact ax_newA_self _ _ _ | refine (ax_set_ne _ _ (by omega)).trans ?_ | refine (ax_newA_ne _ _ _ (by omega)).trans ?_) (by rfl) (by rfl) (by omega) rfl (fun _ => by rfl) (fun _ _ _ => by trivial) rfl rfl rfl (by decide) rfl rfl ?_
  exact wp_return dX4_copyFrom_40 rfl (k _ (((ax_fr.set (lo := p) (hi := p + 3) (by omega)).put (by omega)).put (by omega)) (((hM0.setN _).setR _).setB _))
theorem blk_upd {e e' b j : Nat} {w : Int64} (hb : b < 200) (hj : j < 200) : blk (vp_updL bk (e * 4 + j / 64) w) e' b = if e' = e ∧ b / 64 = j / 64 then testL w (b % 64) else blk bk e' b := by
  unfold blk vp_updL
  by_cases h1 : e' = e ∧ b / 64 = j / 64
  · rw [if_pos h1, if_pos (by omega)]
  · rw [if_neg h1, if_neg (by omega)]
theorem s_X4_keepBlocks {e pa : Nat} {pk : Nat → Int32} (hM : JrnAt h p n rw bk) (hP : h.2 pa = some (.inl (.boolean, 200, .inl pk))) (hpa : pa < p ∨ p + 3 ≤ pa) (hA : Γ.2.1 ≤ p) (he : e < 300)
    (k : ∀ h' bk', ax_fr p (p + 3) h h' → JrnAt h' p n rw bk' → (∀ e' b, e' < 300 → b < 200 → blk bk' e' b = (blk bk e' b || decide (e' = e ∧ ¬ pk b = 0))) → Q (.inl none) h') : WP Γ MX4_keepBlocks (0, 0, 0, 0) 0 [some (.ref p), some (.int (nI e)), some (.ref pa), none] [] h Q := by
  refine wp_iconst (n := 1) (v := 0) dX4_keepBlocks_0 rfl (by decide) ?_
  refine wp_istore_n (n := 2) dX4_keepBlocks_1 rfl rfl rfl rfl ?_
  have L : ∀ j, j ≤ 200 → ∀ h1 bk1, ax_fr p (p + 3) h h1 → JrnAt h1 p n rw bk1 → (∀ e' b, e' < 300 → b < 200 → blk bk1 e' b = (blk bk e' b || decide (e' = e ∧ b < j ∧ ¬ pk b = 0))) → WP Γ MX4_keepBlocks (0, 0, 0, 0) 2 [some (.ref p), some (.int (nI e)), some (.ref pa), some (.int (nI j))] [] h1 Q := by
    refine ax_up 200 (fun j hj ih => ?_)
    intro h1 bk1 hF1 hM1 hz
    have hM0 := hM1
    obtain ⟨hO, hR, hB⟩ := hM1
    have hP1 := hF1.get hP (by omega)
    refine wp_iload_n (n := 3) dX4_keepBlocks_2 rfl rfl ?_
    refine wp_sipush (n := 6) (v := nI 200) dX4_keepBlocks_3 rfl (by decide) ?_
    refine wp_icmp_ge (t := 43) (n := 9) dX4_keepBlocks_6 (by decide) rfl (fun hc => ?_) (fun hc => ?_)
    · rw [nI_le9 (by omega) (by omega)] at hc
      refine wp_return dX4_keepBlocks_43 rfl (k h1 bk1 hF1 hM0 (fun e' b h1 h2 => ?_))
      rw [hz e' b h1 h2]
      have : decide (e' = e ∧ b < j ∧ ¬ pk b = 0) = decide (e' = e ∧ ¬ pk b = 0) := by
        rw [decide_eq_decide]
        constructor
        · rintro ⟨a, b, c⟩; exact ⟨a, c⟩
        · rintro ⟨a, c⟩; exact ⟨a, by omega, c⟩
      rw [this]
    · rw [nI_le9 (by omega) (by omega)] at hc
      have hlt : j < 200 := by omega
      refine wp_aload_n (n := 10) dX4_keepBlocks_9 rfl rfl ?_
      refine wp_iload_n (n := 11) dX4_keepBlocks_10 rfl rfl ?_
      refine wp_zald (n := 12) _ dX4_keepBlocks_11 rfl (by repeat first | assumption | exact ax_set_self _ _ _ | exact ax_newA_self _ _ _ | refine (ax_set_ne _ _ (by omega)).trans ?_ | refine (ax_newA_ne _ _ _ (by omega)).trans ?_) rfl (by omega) (by decide) ?_
      refine wp_if_eq (t := 37) (n := 15) dX4_keepBlocks_12 (by decide) rfl (fun hq => ?_) (fun hq => ?_)
      · refine wp_iinc (n := 40) dX4_keepBlocks_37 rfl rfl (nI_inc j) rfl rfl rfl ?_
        refine wp_goto (t := 2) dX4_keepBlocks_40 (by decide) ?_
        refine ih hlt h1 bk1 hF1 hM0 (fun e' b h1 h2 => ?_)
        rw [hz e' b h1 h2]
        have : decide (e' = e ∧ b < j ∧ ¬ pk b = 0) = decide (e' = e ∧ b < j + 1 ∧ ¬ pk b = 0) := by
          rw [decide_eq_decide]
          constructor
          · rintro ⟨a, b, c⟩; exact ⟨a, by omega, c⟩
          · rintro ⟨a, b9, c⟩
            refine ⟨a, ?_, c⟩
            by_cases e9 : b = j
            · subst e9; exact absurd hq c
            · omega
        rw [this]
      · refine wp_aload_n (n := 16) dX4_keepBlocks_15 rfl rfl ?_
        refine wp_getf (n := 19) dX4_keepBlocks_16 rfl flX4_19 (by repeat first | assumption | exact ax_set_self _ _ _ | exact ax_newA_self _ _ _ | refine (ax_set_ne _ _ (by omega)).trans ?_ | refine (ax_newA_ne _ _ _ (by omega)).trans ?_) (by rfl) ?_
        refine wp_iload_n (n := 20) dX4_keepBlocks_19 rfl rfl ?_
        refine wp_iconst (n := 21) (v := nI 4) dX4_keepBlocks_20 rfl (by decide) ?_
        refine wp_imul (n := 22) dX4_keepBlocks_21 rfl ?_
        refine wp_iload_n (n := 23) dX4_keepBlocks_22 rfl rfl ?_
        refine wp_bipush (n := 25) (v := nI 64) dX4_keepBlocks_23 rfl (by decide) ?_
        refine wp_idiv (n := 26) dX4_keepBlocks_25 rfl (by decide) ?_
        refine wp_iadd (n := 27) dX4_keepBlocks_26 rfl ?_
        refine wp_dup2 (n := 28) dX4_keepBlocks_27 rfl rfl rfl ?_
        refine wp_lald (n := 29) (e * 4 + j / 64) dX4_keepBlocks_28 rfl (by assumption) (by rw [nI_d64 j hlt, nI_mul, nI_add]) (by omega) (by decide) ?_
        refine wp_lconst (n := 30) (v := 1) dX4_keepBlocks_29 rfl (by decide) ?_
        refine wp_iload_n (n := 31) dX4_keepBlocks_30 rfl rfl ?_
        refine wp_bipush (n := 33) (v := nI 64) dX4_keepBlocks_31 rfl (by decide) ?_
        refine wp_irem (n := 34) dX4_keepBlocks_33 rfl (by decide) ?_
        refine wp_lshl (n := 35) dX4_keepBlocks_34 rfl ?_
        refine wp_lor (n := 36) dX4_keepBlocks_35 rfl ?_
        rw [nI_r64 j hlt]
        refine wp_last (n := 37) (e * 4 + j / 64) dX4_keepBlocks_36 rfl (by assumption) (by omega) (by rw [nI_d64 j hlt, nI_mul, nI_add]) (by omega) (by decide) ?_
        refine wp_iinc (n := 40) dX4_keepBlocks_37 rfl rfl (nI_inc j) rfl rfl rfl ?_
        refine wp_goto (t := 2) dX4_keepBlocks_40 (by decide) ?_
        refine ih hlt _ _ (hF1.put (by omega)) (hM0.setB _) (fun e' b h1 h2 => ?_)
        rw [blk_upd h2 hlt]
        by_cases h9 : e' = e ∧ b / 64 = j / 64
        · rw [if_pos h9, bl_or (by omega) (by omega)]
          have h8 : testL (bk1 (e * 4 + j / 64)) (b % 64) = blk bk1 e' b := by
            unfold blk
            rw [h9.1, h9.2]
          rw [h8, hz e' b h1 h2, Bool.or_assoc]
          congr 1
          by_cases e9 : b = j
          · subst e9
            simp [h9.1, hq]
          · have : ¬ b % 64 = j % 64 := by omega
            simp only [this, decide_false, Bool.or_false]
            rw [decide_eq_decide]
            constructor
            · rintro ⟨a, b, c⟩; exact ⟨a, by omega, c⟩
            · rintro ⟨a, b, c⟩; exact ⟨a, by omega, c⟩
        · rw [if_neg h9, hz e' b h1 h2]
          congr 1
          rw [decide_eq_decide]
          constructor
          · rintro ⟨a, b, c⟩; exact ⟨a, by omega, c⟩
          · rintro ⟨a, b9, c⟩
            refine ⟨a, ?_, c⟩
            by_cases e9 : b = j
            · subst e9; exact absurd ⟨a, rfl⟩ h9
            · omega
  refine L 0 (by omega) h bk ax_fr.rf hM (fun e' b h1 h2 => ?_)
  simp
theorem s_X4_pickBlocks {e pa : Nat} {pk : Nat → Int32} (hM : JrnAt h p n rw bk) (hP : h.2 pa = some (.inl (.boolean, 200, .inl pk))) (hpa : pa < p ∨ p + 3 ≤ pa) (hA : Γ.2.1 ≤ pa) (he : e < 300)
    (k : ∀ h' pk', ax_fr pa (pa + 1) h h' → h'.2 pa = some (.inl (.boolean, 200, .inl pk')) → (∀ b, b < 200 → pk' b = bI (blk bk e b)) → Q (.inl none) h') : WP Γ MX4_pickBlocks (0, 0, 0, 0) 0 [some (.ref p), some (.int (nI e)), some (.ref pa), none, none, none] [] h Q := by
  refine wp_iconst (n := 1) (v := 0) dX4_pickBlocks_0 rfl (by decide) ?_
  refine wp_istore_n (n := 2) dX4_pickBlocks_1 rfl rfl rfl rfl ?_
  have L : ∀ j, j ≤ 200 → ∀ h1 pk1 q4, ax_fr pa (pa + 1) h h1 → h1.2 pa = some (.inl (.boolean, 200, .inl pk1)) → (∀ b, b < j → pk1 b = bI (blk bk e b)) → WP Γ MX4_pickBlocks (0, 0, 0, 0) 2 [some (.ref p), some (.int (nI e)), some (.ref pa), some (.int (nI j)), q4, none] [] h1 Q := by
    refine ax_up 200 (fun j hj ih => ?_)
    intro h1 pk1 q4 hF1 hP1 hz
    refine wp_lo (lo' := [some (.ref p), some (.int (nI e)), some (.ref pa), some (.int (nI j)), none, none]) (fun k v hk => ?_) ?_
    · match k, hk with
      | 0, hk => exact hk
      | 1, hk => exact hk
      | 2, hk => exact hk
      | 3, hk => exact hk
      | 4, hk => exact absurd hk (by simp [ax_gl])
      | 5, hk => exact absurd hk (by simp [ax_gl])
      | k + 6, hk => exact absurd hk (by simp [ax_gl])
    obtain ⟨hO, hR, hB⟩ := hM.fr hF1 (by omega)
    refine wp_iload_n (n := 3) dX4_pickBlocks_2 rfl rfl ?_
    refine wp_sipush (n := 6) (v := nI 200) dX4_pickBlocks_3 rfl (by decide) ?_
    refine wp_icmp_ge (t := 52) (n := 9) dX4_pickBlocks_6 (by decide) rfl (fun hc => ?_) (fun hc => ?_)
    · rw [nI_le9 (by omega) (by omega)] at hc
      exact wp_return dX4_pickBlocks_52 rfl (k h1 pk1 hF1 hP1 (fun b hb => hz b (by omega)))
    · rw [nI_le9 (by omega) (by omega)] at hc
      have hlt : j < 200 := by omega
      have J : ∀ v, v = bI (blk bk e j) → WP Γ MX4_pickBlocks (0, 0, 0, 0) 45 [some (.ref p), some (.int (nI e)), some (.ref pa), some (.int (nI j)), some (.long (bk (e * 4 + j / 64))), none] [.int v, .int (nI j), .ref pa] h1 Q := by
        intro v hv
        subst hv
        refine wp_zast (n := 46) j dX4_pickBlocks_45 rfl (by assumption) (by omega) rfl (by omega) (by decide) (by cases blk bk e j <;> rfl) ?_
        refine wp_iinc (n := 49) dX4_pickBlocks_46 rfl rfl (nI_inc j) rfl rfl rfl ?_
        refine wp_goto (t := 2) dX4_pickBlocks_49 (by decide) ?_
        refine ih hlt _ _ _ (hF1.put (by omega)) (ax_set_self _ _ _) (fun b hb => ?_)
        simp only [upd]
        by_cases e9 : b = j
        · rw [if_pos e9, e9]
        · rw [if_neg e9]; exact hz b (by omega)
      refine wp_aload_n (n := 10) dX4_pickBlocks_9 rfl rfl ?_
      refine wp_getf (n := 13) dX4_pickBlocks_10 rfl flX4_19 (by repeat first | assumption | exact ax_set_self _ _ _ | exact ax_newA_self _ _ _ | refine (ax_set_ne _ _ (by omega)).trans ?_ | refine (ax_newA_ne _ _ _ (by omega)).trans ?_) (by rfl) ?_
      refine wp_iload_n (n := 14) dX4_pickBlocks_13 rfl rfl ?_
      refine wp_iconst (n := 15) (v := nI 4) dX4_pickBlocks_14 rfl (by decide) ?_
      refine wp_imul (n := 16) dX4_pickBlocks_15 rfl ?_
      refine wp_iload_n (n := 17) dX4_pickBlocks_16 rfl rfl ?_
      refine wp_bipush (n := 19) (v := nI 64) dX4_pickBlocks_17 rfl (by decide) ?_
      refine wp_idiv (n := 20) dX4_pickBlocks_19 rfl (by decide) ?_
      refine wp_iadd (n := 21) dX4_pickBlocks_20 rfl ?_
      refine wp_lald (n := 22) (e * 4 + j / 64) dX4_pickBlocks_21 rfl (by assumption) (by rw [nI_d64 j hlt, nI_mul, nI_add]) (by omega) (by decide) ?_
      refine wp_lstore (n := 24) dX4_pickBlocks_22 rfl rfl rfl rfl ?_
      refine wp_aload_n (n := 25) dX4_pickBlocks_24 rfl rfl ?_
      refine wp_iload_n (n := 26) dX4_pickBlocks_25 rfl rfl ?_
      refine wp_lload (n := 28) dX4_pickBlocks_26 rfl rfl ?_
      refine wp_iload_n (n := 29) dX4_pickBlocks_28 rfl rfl ?_
      refine wp_bipush (n := 31) (v := nI 64) dX4_pickBlocks_29 rfl (by decide) ?_
      refine wp_irem (n := 32) dX4_pickBlocks_31 rfl (by decide) ?_
      rw [nI_r64 j hlt]
      refine wp_lushr (n := 33) dX4_pickBlocks_32 rfl ?_
      refine wp_lconst (n := 34) (v := 1) dX4_pickBlocks_33 rfl (by decide) ?_
      refine wp_land (n := 35) dX4_pickBlocks_34 rfl ?_
      refine wp_lconst (n := 36) (v := 0) dX4_pickBlocks_35 rfl (by decide) ?_
      refine wp_lcmp (n := 37) dX4_pickBlocks_36 rfl ?_
      refine wp_if_eq (t := 44) (n := 40) dX4_pickBlocks_37 (by decide) rfl (fun hq => ?_) (fun hq => ?_)
      · rw [lg_cmp0, bl_read (by omega)] at hq
        refine wp_iconst (n := 45) (v := 0) dX4_pickBlocks_44 rfl (by decide) ?_
        exact J _ (by unfold blk; rw [hq]; rfl)
      · rw [lg_cmp0, bl_read (by omega)] at hq
        refine wp_iconst (n := 41) (v := nI 1) dX4_pickBlocks_40 rfl (by decide) ?_
        refine wp_goto (t := 45) dX4_pickBlocks_41 (by decide) ?_
        exact J _ (by unfold blk; rw [eq_true_of_ne_false hq]; rfl)
  exact L 0 (by omega) h pk none ax_fr.rf hP (fun b hb => absurd hb (Nat.not_lt_zero b))
theorem s_X4_change {e : Nat} (hM : JrnAt h p n rw bk) (he : e < 300)
    (k : Q (.inl (some (.int (chgJ rw x e)))) h) : WP Γ MX4_change (1, 22, 0, 0) 0 [some (.ref p), some (.int (nI e)), some (.int x), none] [] h Q := by
  have hM0 := hM
  obtain ⟨hO, hR, hB⟩ := hM
  have J : ∀ c, c = (if rw (e * 7 + 1) = x then rw (e * 7 + 2) else 0) → WP Γ MX4_change (1, 22, 0, 0) 21 [some (.ref p), some (.int (nI e)), some (.int x), some (.int c)] [] h Q := by
    intro c hc
    refine wp_aload_n (n := 22) dX4_change_21 rfl rfl ?_
    refine wp_iload_n (n := 23) dX4_change_22 rfl rfl ?_
    refine wp_iconst (n := 24) (v := 0) dX4_change_23 rfl (by decide) ?_
    refine wp_callV2 (n := 27) (rm' := (0, 0, 0, 0)) rfl dX4_change_24 rfl mlX4_23 (by assumption) rfl rfl rfl rfl rfl ?_
    refine s_X4_value (j := 0) hM0 he (by omega) ?_
    show WP Γ _ _ _ _ _ _ _
    refine wp_iload_n (n := 28) dX4_change_27 rfl rfl ?_
    refine wp_icmp_ne (t := 40) (n := 31) dX4_change_28 (by decide) rfl (fun hq => ?_) (fun hq => ?_)
    · refine wp_iload_n (n := 41) dX4_change_40 rfl rfl ?_
      simp only [chgJ, if_neg hq, Int32.sub_zero, ← hc] at k
      exact wp_ireturn dX4_change_41 rfl rfl (k)
    · refine wp_iload_n (n := 32) dX4_change_31 rfl rfl ?_
      refine wp_aload_n (n := 33) dX4_change_32 rfl rfl ?_
      refine wp_iload_n (n := 34) dX4_change_33 rfl rfl ?_
      refine wp_iconst (n := 35) (v := nI 2) dX4_change_34 rfl (by decide) ?_
      refine wp_callV2 (n := 38) (rm' := (0, 0, 0, 0)) rfl dX4_change_35 rfl mlX4_23 (by assumption) rfl rfl rfl rfl rfl ?_
      refine s_X4_value hM0 he (by omega) ?_
      show WP Γ _ _ _ _ _ _ _
      refine wp_isub (n := 39) dX4_change_38 rfl ?_
      refine wp_istore_n (n := 40) dX4_change_39 rfl rfl rfl rfl ?_
      refine wp_iload_n (n := 41) dX4_change_40 rfl rfl ?_
      simp only [chgJ, if_pos hq, ← hc] at k
      exact wp_ireturn dX4_change_41 rfl rfl (k)
  refine wp_iconst (n := 1) (v := 0) dX4_change_0 rfl (by decide) ?_
  refine wp_istore_n (n := 2) dX4_change_1 rfl rfl rfl rfl ?_
  refine wp_aload_n (n := 3) dX4_change_2 rfl rfl ?_
  refine wp_iload_n (n := 4) dX4_change_3 rfl rfl ?_
  refine wp_iconst (n := 5) (v := nI 1) dX4_change_4 rfl (by decide) ?_
  refine wp_callV2 (n := 8) (rm' := (0, 0, 0, 0)) rfl dX4_change_5 rfl mlX4_23 (by assumption) rfl rfl rfl rfl rfl ?_
  refine s_X4_value hM0 he (by omega) ?_
  show WP Γ _ _ _ _ _ _ _
  refine wp_iload_n (n := 9) dX4_change_8 rfl rfl ?_
  refine wp_icmp_ne (t := 21) (n := 12) dX4_change_9 (by decide) rfl (fun hc => ?_) (fun hc => ?_)
  · exact J _ (by rw [if_neg hc])
  · refine wp_iload_n (n := 13) dX4_change_12 rfl rfl ?_
    refine wp_aload_n (n := 14) dX4_change_13 rfl rfl ?_
    refine wp_iload_n (n := 15) dX4_change_14 rfl rfl ?_
    refine wp_iconst (n := 16) (v := nI 2) dX4_change_15 rfl (by decide) ?_
    refine wp_callV2 (n := 19) (rm' := (0, 0, 0, 0)) rfl dX4_change_16 rfl mlX4_23 (by assumption) rfl rfl rfl rfl rfl ?_
    refine s_X4_value hM0 he (by omega) ?_
    show WP Γ _ _ _ _ _ _ _
    refine wp_iadd (n := 20) dX4_change_19 rfl ?_
    refine wp_istore_n (n := 21) dX4_change_20 rfl rfl rfl rfl ?_
    exact J _ (by rw [if_pos hc, Int32.zero_add])
theorem s_X4_isWithin {e : Nat} {f l : Int32} (hM : JrnAt h p n rw bk) (he : e < 300)
    (k : Q (.inl (some (.int (bI (witJ rw f l e))))) h) : WP Γ MX4_isWithin (1, 22, 0, 0) 0 [some (.ref p), some (.int (nI e)), some (.int f), some (.int l), none] [] h Q := by
  have hM0 := hM
  obtain ⟨hO, hR, hB⟩ := hM
  refine wp_aload_n (n := 1) dX4_isWithin_0 rfl rfl ?_
  refine wp_iload_n (n := 2) dX4_isWithin_1 rfl rfl ?_
  refine wp_iconst (n := 3) (v := nI 4) dX4_isWithin_2 rfl (by decide) ?_
  refine wp_callV2 (n := 6) (rm' := (0, 0, 0, 0)) rfl dX4_isWithin_3 rfl mlX4_23 (by assumption) rfl rfl rfl rfl rfl ?_
  refine s_X4_value hM0 he (by omega) ?_
  show WP Γ _ _ _ _ _ _ _
  refine wp_istore (n := 8) dX4_isWithin_6 rfl rfl rfl rfl ?_
  refine wp_iload_n (n := 9) dX4_isWithin_8 rfl rfl ?_
  refine wp_iload (n := 11) dX4_isWithin_9 rfl rfl ?_
  refine wp_icmp_gt (t := 24) (n := 14) dX4_isWithin_11 (by decide) rfl (fun hc => ?_) (fun hc => ?_)
  · refine wp_iconst (n := 25) (v := 0) dX4_isWithin_24 rfl (by decide) ?_
    simp only [witJ, hc, not_true_eq_false, false_and, decide_false] at k
    exact wp_ireturn dX4_isWithin_25 rfl rfl (k)
  · refine wp_iload (n := 16) dX4_isWithin_14 rfl rfl ?_
    refine wp_iload_n (n := 17) dX4_isWithin_16 rfl rfl ?_
    refine wp_icmp_gt (t := 24) (n := 20) dX4_isWithin_17 (by decide) rfl (fun hq => ?_) (fun hq => ?_)
    · refine wp_iconst (n := 25) (v := 0) dX4_isWithin_24 rfl (by decide) ?_
      simp only [witJ, hq, not_true_eq_false, and_false, decide_false] at k
      exact wp_ireturn dX4_isWithin_25 rfl rfl (k)
    · refine wp_iconst (n := 21) (v := nI 1) dX4_isWithin_20 rfl (by decide) ?_
      refine wp_goto (t := 25) dX4_isWithin_21 (by decide) ?_
      simp only [witJ, hc, hq, not_false_eq_true, and_self, decide_true] at k
      exact wp_ireturn dX4_isWithin_25 rfl rfl (k)
theorem s_X4_signed {e : Nat} (hM : JrnAt h p n rw bk) (he : e < 300)
    (k : Q (.inl (some (.int (sgnJ rw e)))) h) : WP Γ MX4_signed (1, 22, 0, 0) 0 [some (.ref p), some (.int (nI e)), none] [] h Q := by
  have hM0 := hM
  obtain ⟨hO, hR, hB⟩ := hM
  refine wp_aload_n (n := 1) dX4_signed_0 rfl rfl ?_
  refine wp_iload_n (n := 2) dX4_signed_1 rfl rfl ?_
  refine wp_iconst (n := 3) (v := nI 2) dX4_signed_2 rfl (by decide) ?_
  refine wp_callV2 (n := 6) (rm' := (0, 0, 0, 0)) rfl dX4_signed_3 rfl mlX4_23 (by assumption) rfl rfl rfl rfl rfl ?_
  refine s_X4_value hM0 he (by omega) ?_
  show WP Γ _ _ _ _ _ _ _
  refine wp_istore_n (n := 7) dX4_signed_6 rfl rfl rfl rfl ?_
  refine wp_aload_n (n := 8) dX4_signed_7 rfl rfl ?_
  refine wp_iload_n (n := 9) dX4_signed_8 rfl rfl ?_
  refine wp_iconst (n := 10) (v := nI 5) dX4_signed_9 rfl (by decide) ?_
  refine wp_callV2 (n := 13) (rm' := (0, 0, 0, 0)) rfl dX4_signed_10 rfl mlX4_23 (by assumption) rfl rfl rfl rfl rfl ?_
  refine s_X4_value hM0 he (by omega) ?_
  show WP Γ _ _ _ _ _ _ _
  unfold sgnJ at k
  generalize rw (e * 7 + 5) = y at k ⊢
  by_cases h0 : y = 0
  · subst h0
    refine wp_lookup (t := 40) (off := 27) dX4_signed_13 (by decide) (by decide) (by decide) ?_
    refine wp_iload_n (n := 41) dX4_signed_40 rfl rfl ?_
    rw [if_pos rfl] at k
    exact wp_ireturn dX4_signed_41 rfl rfl (k)
  · rw [if_neg h0] at k
    by_cases h1 : y = nI 1
    · subst h1
      refine wp_lookup (t := 42) (off := 29) dX4_signed_13 (by decide) (by decide) (by decide) ?_
      refine wp_iload_n (n := 43) dX4_signed_42 rfl rfl ?_
      refine wp_ineg (n := 44) dX4_signed_43 rfl ?_
      rw [if_pos rfl] at k
      exact wp_ireturn dX4_signed_44 rfl rfl (k)
    · rw [if_neg h1] at k
      refine wp_lookup (t := 45) (off := 32) dX4_signed_13 (by decide) ?_ (by decide) ?_
      · have e0 : ¬ y.toInt = 0 := fun q => h0 (by rw [← Int32.toInt_inj, q]; rfl)
        have e1 : ¬ y.toInt = 1 := fun q => h1 (by rw [← Int32.toInt_inj, q]; rfl)
        show Op.lookupswitch.offset [(0, 27), (1, 29)] 32 y.toInt = 32
        rw [Op.lookupswitch.offset_cons, if_neg (Ne.symm e0), Op.lookupswitch.offset_cons, if_neg (Ne.symm e1)]
        rfl
      refine wp_iconst (n := 46) (v := 0) dX4_signed_45 rfl (by decide) ?_
      exact wp_ireturn dX4_signed_46 rfl rfl (k)
theorem s_X4_net {m m2 : Nat} (hM : JrnAt h p n rw bk) (h2 : m2 ≤ 300) (hm : m ≤ m2)
    (k : Q (.inl (some (.int (sumI (fun i => chgJ rw x (m + i)) (m2 - m))))) h) : WP Γ MX4_net (2, 45, 0, 0) 0 [some (.ref p), some (.int x), some (.int (nI m)), some (.int (nI m2)), none, none] [] h Q := by
  have hM0 := hM
  obtain ⟨hO, hR, hB⟩ := hM
  refine wp_iconst (n := 1) (v := 0) dX4_net_0 rfl (by decide) ?_
  refine wp_istore (n := 3) dX4_net_1 rfl rfl rfl rfl ?_
  refine wp_iload_n (n := 4) dX4_net_3 rfl rfl ?_
  refine wp_istore (n := 6) dX4_net_4 rfl rfl rfl rfl ?_
  suffices L : ∀ j, j ≤ m2 - m → WP Γ MX4_net (2, 45, 0, 0) 6 [some (.ref p), some (.int x), some (.int (nI m)), some (.int (nI m2)), some (.int (sumI (fun i => chgJ rw x (m + i)) j)), some (.int (nI (m + j)))] [] h Q from L 0 (Nat.zero_le _)
  refine ax_up (m2 - m) (fun j hj ih => ?_)
  refine wp_iload (n := 8) dX4_net_6 rfl rfl ?_
  refine wp_iload_n (n := 9) dX4_net_8 rfl rfl ?_
  refine wp_icmp_ge (t := 30) (n := 12) dX4_net_9 (by decide) rfl (fun hc => ?_) (fun hc => ?_)
  · rw [nI_le9 (by omega) (by omega)] at hc
    obtain rfl : j = m2 - m := by omega
    refine wp_iload (n := 32) dX4_net_30 rfl rfl ?_
    exact wp_ireturn dX4_net_32 rfl rfl (k)
  · rw [nI_le9 (by omega) (by omega)] at hc
    refine wp_iload (n := 14) dX4_net_12 rfl rfl ?_
    refine wp_aload_n (n := 15) dX4_net_14 rfl rfl ?_
    refine wp_iload (n := 17) dX4_net_15 rfl rfl ?_
    refine wp_iload_n (n := 18) dX4_net_17 rfl rfl ?_
    refine wp_callV2 (n := 21) (rm' := (1, 22, 0, 0)) rfl dX4_net_18 rfl mlX4_33 (by assumption) rfl rfl rfl rfl rfl ?_
    refine s_X4_change hM0 (by omega) ?_
    show WP Γ _ _ _ _ _ _ _
    refine wp_iadd (n := 22) dX4_net_21 rfl ?_
    refine wp_istore (n := 24) dX4_net_22 rfl rfl rfl rfl ?_
    refine wp_iinc (n := 27) dX4_net_24 rfl rfl (nI_inc (m + j)) rfl rfl rfl ?_
    refine wp_goto (t := 6) dX4_net_27 (by decide) ?_
    exact ih (by omega)
/-- what came to a pool until the time t -/
def netU (rw : Nat → Int32) (x t : Int32) (n : Nat) : Int32 := sumI (fun i => if t < rw (i * 7 + 4) then 0 else chgJ rw x i) n
theorem s_X4_netUntil {t : Int32} (hM : JrnAt h p n rw bk) (hn : n ≤ 300)
    (k : Q (.inl (some (.int (netU rw x t n)))) h) : WP Γ MX4_netUntil (2, 45, 0, 0) 0 [some (.ref p), some (.int x), some (.int t), none, none] [] h Q := by
  have hM0 := hM
  obtain ⟨hO, hR, hB⟩ := hM
  refine wp_iconst (n := 1) (v := 0) dX4_netUntil_0 rfl (by decide) ?_
  refine wp_istore_n (n := 2) dX4_netUntil_1 rfl rfl rfl rfl ?_
  refine wp_iconst (n := 3) (v := 0) dX4_netUntil_2 rfl (by decide) ?_
  refine wp_istore (n := 5) dX4_netUntil_3 rfl rfl rfl rfl ?_
  suffices L : ∀ j, j ≤ n → WP Γ MX4_netUntil (2, 45, 0, 0) 5 [some (.ref p), some (.int x), some (.int t), some (.int (netU rw x t j)), some (.int (nI j))] [] h Q from L 0 (Nat.zero_le _)
  refine ax_up n (fun j hj ih => ?_)
  refine wp_iload (n := 7) dX4_netUntil_5 rfl rfl ?_
  refine wp_aload_n (n := 8) dX4_netUntil_7 rfl rfl ?_
  refine wp_getf (n := 11) dX4_netUntil_8 rfl flX4_9 (by repeat first | assumption | exact ax_set_self _ _ _ | exact ax_newA_self _ _ _ | refine (ax_set_ne _ _ (by omega)).trans ?_ | refine (ax_newA_ne _ _ _ (by omega)).trans ?_) (by rfl) ?_
  refine wp_icmp_ge (t := 41) (n := 14) dX4_netUntil_11 (by decide) rfl (fun hc => ?_) (fun hc => ?_)
  · rw [nI_le9 (by omega) (by omega)] at hc
    obtain rfl : j = n := by omega
    refine wp_iload_n (n := 42) dX4_netUntil_41 rfl rfl ?_
    exact wp_ireturn dX4_netUntil_42 rfl rfl (k)
  · rw [nI_le9 (by omega) (by omega)] at hc
    have ih := ih (by omega)
    refine wp_aload_n (n := 15) dX4_netUntil_14 rfl rfl ?_
    refine wp_iload (n := 17) dX4_netUntil_15 rfl rfl ?_
    refine wp_iconst (n := 18) (v := nI 4) dX4_netUntil_17 rfl (by decide) ?_
    refine wp_callV2 (n := 21) (rm' := (0, 0, 0, 0)) rfl dX4_netUntil_18 rfl mlX4_23 (by assumption) rfl rfl rfl rfl rfl ?_
    refine s_X4_value hM0 (by omega) (by omega) ?_
    show WP Γ _ _ _ _ _ _ _
    refine wp_iload_n (n := 22) dX4_netUntil_21 rfl rfl ?_
    refine wp_icmp_gt (t := 35) (n := 25) dX4_netUntil_22 (by decide) rfl (fun hq => ?_) (fun hq => ?_)
    · refine wp_iinc (n := 38) dX4_netUntil_35 rfl rfl (nI_inc j) rfl rfl rfl ?_
      refine wp_goto (t := 5) dX4_netUntil_38 (by decide) ?_
      simp only [netU, sumI, if_pos hq, Int32.add_zero] at ih
      exact ih
    · refine wp_iload_n (n := 26) dX4_netUntil_25 rfl rfl ?_
      refine wp_aload_n (n := 27) dX4_netUntil_26 rfl rfl ?_
      refine wp_iload (n := 29) dX4_netUntil_27 rfl rfl ?_
      refine wp_iload_n (n := 30) dX4_netUntil_29 rfl rfl ?_
      refine wp_callV2 (n := 33) (rm' := (1, 22, 0, 0)) rfl dX4_netUntil_30 rfl mlX4_33 (by assumption) rfl rfl rfl rfl rfl ?_
      refine s_X4_change hM0 (by omega) ?_
      show WP Γ _ _ _ _ _ _ _
      refine wp_iadd (n := 34) dX4_netUntil_33 rfl ?_
      refine wp_istore_n (n := 35) dX4_netUntil_34 rfl rfl rfl rfl ?_
      refine wp_iinc (n := 38) dX4_netUntil_35 rfl rfl (nI_inc j) rfl rfl rfl ?_
      refine wp_goto (t := 5) dX4_netUntil_38 (by decide) ?_
      simp only [netU, sumI, if_neg hq] at ih
      exact ih
/-- the greatest content: c is the content before the entry j, b the best before it; g entries are left -/
def grtJ (rw : Nat → Int32) (x f l : Int32) : Nat → Nat → Int32 → Int32 → Int32
  | 0, _, _, b => b
  | g + 1, j, c, b => if l < rw (j * 7 + 4) then b else grtJ rw x f l g (j + 1) (c + chgJ rw x j) (if rw (j * 7 + 4) < f then c + chgJ rw x j else (if b < c + chgJ rw x j then c + chgJ rw x j else b))
theorem s_X4_greatest {c f l : Int32} (hM : JrnAt h p n rw bk) (hn : n ≤ 300)
    (k : Q (.inl (some (.int (grtJ rw x f l n 0 c c)))) h) : WP Γ MX4_greatest (2, 60, 0, 0) 0 [some (.ref p), some (.int x), some (.int c), some (.int f), some (.int l), none, none, none] [] h Q := by
  have hM0 := hM
  obtain ⟨hO, hR, hB⟩ := hM
  refine wp_iload_n (n := 1) dX4_greatest_0 rfl rfl ?_
  refine wp_istore (n := 3) dX4_greatest_1 rfl rfl rfl rfl ?_
  refine wp_iload_n (n := 4) dX4_greatest_3 rfl rfl ?_
  refine wp_istore (n := 6) dX4_greatest_4 rfl rfl rfl rfl ?_
  refine wp_iconst (n := 7) (v := 0) dX4_greatest_6 rfl (by decide) ?_
  refine wp_istore (n := 9) dX4_greatest_7 rfl rfl rfl rfl ?_
  suffices L : ∀ g j c1 b1, j + g = n → Q (.inl (some (.int (grtJ rw x f l g j c1 b1)))) h → WP Γ MX4_greatest (2, 60, 0, 0) 9 [some (.ref p), some (.int x), some (.int c), some (.int f), some (.int l), some (.int c1), some (.int b1), some (.int (nI j))] [] h Q from L n 0 c c (by omega) k
  intro g
  induction g with
  | zero =>
    intro j c1 b1 hj k
    refine wp_iload (n := 11) dX4_greatest_9 rfl rfl ?_
    refine wp_aload_n (n := 12) dX4_greatest_11 rfl rfl ?_
    refine wp_getf (n := 15) dX4_greatest_12 rfl flX4_9 (by repeat first | assumption | exact ax_set_self _ _ _ | exact ax_newA_self _ _ _ | refine (ax_set_ne _ _ (by omega)).trans ?_ | refine (ax_newA_ne _ _ _ (by omega)).trans ?_) (by rfl) ?_
    refine wp_icmp_ge (t := 73) (n := 18) dX4_greatest_15 (by decide) rfl (fun hc => ?_) (fun hc => ?_)
    · refine wp_iload (n := 75) dX4_greatest_73 rfl rfl ?_
      exact wp_ireturn dX4_greatest_75 rfl rfl (k)
    · rw [nI_le9 (by omega) (by omega)] at hc
      exact absurd (by omega) hc
  | succ g ih =>
    intro j c1 b1 hj k
    refine wp_iload (n := 11) dX4_greatest_9 rfl rfl ?_
    refine wp_aload_n (n := 12) dX4_greatest_11 rfl rfl ?_
    refine wp_getf (n := 15) dX4_greatest_12 rfl flX4_9 (by repeat first | assumption | exact ax_set_self _ _ _ | exact ax_newA_self _ _ _ | refine (ax_set_ne _ _ (by omega)).trans ?_ | refine (ax_newA_ne _ _ _ (by omega)).trans ?_) (by rfl) ?_
    refine wp_icmp_ge (t := 73) (n := 18) dX4_greatest_15 (by decide) rfl (fun hc => ?_) (fun hc => ?_)
    · rw [nI_le9 (by omega) (by omega)] at hc
      exact absurd hc (by omega)
    · refine wp_aload_n (n := 19) dX4_greatest_18 rfl rfl ?_
      refine wp_iload (n := 21) dX4_greatest_19 rfl rfl ?_
      refine wp_iconst (n := 22) (v := nI 4) dX4_greatest_21 rfl (by decide) ?_
      refine wp_callV2 (n := 25) (rm' := (0, 0, 0, 0)) rfl dX4_greatest_22 rfl mlX4_23 (by assumption) rfl rfl rfl rfl rfl ?_
      refine s_X4_value hM0 (by omega) (by omega) ?_
      show WP Γ _ _ _ _ _ _ _
      refine wp_iload (n := 27) dX4_greatest_25 rfl rfl ?_
      unfold grtJ at k
      refine wp_icmp_gt (t := 73) (n := 30) dX4_greatest_27 (by decide) rfl (fun hq => ?_) (fun hq => ?_)
      · rw [if_pos hq] at k
        refine wp_iload (n := 75) dX4_greatest_73 rfl rfl ?_
        exact wp_ireturn dX4_greatest_75 rfl rfl (k)
      · rw [if_neg hq] at k
        refine wp_iload (n := 32) dX4_greatest_30 rfl rfl ?_
        refine wp_aload_n (n := 33) dX4_greatest_32 rfl rfl ?_
        refine wp_iload (n := 35) dX4_greatest_33 rfl rfl ?_
        refine wp_iload_n (n := 36) dX4_greatest_35 rfl rfl ?_
        refine wp_callV2 (n := 39) (rm' := (1, 22, 0, 0)) rfl dX4_greatest_36 rfl mlX4_33 (by assumption) rfl rfl rfl rfl rfl ?_
        refine s_X4_change hM0 (by omega) ?_
        show WP Γ _ _ _ _ _ _ _
        refine wp_iadd (n := 40) dX4_greatest_39 rfl ?_
        refine wp_istore (n := 42) dX4_greatest_40 rfl rfl rfl rfl ?_
        refine wp_aload_n (n := 43) dX4_greatest_42 rfl rfl ?_
        refine wp_iload (n := 45) dX4_greatest_43 rfl rfl ?_
        refine wp_iconst (n := 46) (v := nI 4) dX4_greatest_45 rfl (by decide) ?_
        refine wp_callV2 (n := 49) (rm' := (0, 0, 0, 0)) rfl dX4_greatest_46 rfl mlX4_23 (by assumption) rfl rfl rfl rfl rfl ?_
        refine s_X4_value hM0 (by omega) (by omega) ?_
        show WP Γ _ _ _ _ _ _ _
        refine wp_iload_n (n := 50) dX4_greatest_49 rfl rfl ?_
        refine wp_icmp_ge (t := 58) (n := 53) dX4_greatest_50 (by decide) rfl (fun hr => ?_) (fun hr => ?_)
        · rw [if_neg (Int32.not_lt.mpr hr)] at k
          refine wp_iload (n := 60) dX4_greatest_58 rfl rfl ?_
          refine wp_iload (n := 62) dX4_greatest_60 rfl rfl ?_
          refine wp_mmax (n := 65) dX4_greatest_62 rfl mxX4_36 ax_mxs ax_mi ax_mxc rfl rfl ?_
          refine wp_istore (n := 67) dX4_greatest_65 rfl rfl rfl rfl ?_
          refine wp_iinc (n := 70) dX4_greatest_67 rfl rfl (nI_inc j) rfl rfl rfl ?_
          refine wp_goto (t := 9) dX4_greatest_70 (by decide) ?_
          exact ih _ _ _ (by omega) k
        · rw [if_pos (i32_not_le hr)] at k
          refine wp_iload (n := 55) dX4_greatest_53 rfl rfl ?_
          refine wp_goto (t := 65) dX4_greatest_55 (by decide) ?_
          refine wp_istore (n := 67) dX4_greatest_65 rfl rfl rfl rfl ?_
          refine wp_iinc (n := 70) dX4_greatest_67 rfl rfl (nI_inc j) rfl rfl rfl ?_
          refine wp_goto (t := 9) dX4_greatest_70 (by decide) ?_
          exact ih _ _ _ (by omega) k
def btwS (rw : Nat → Int32) (x y f l : Int32) (n : Nat) : Int32 := sumI (fun e => if rw (e * 7 + 0) = x ∧ rw (e * 7 + 1) = y ∧ witJ rw f l e = true then rw (e * 7 + 2) else 0) n
theorem s_X4_sumBetween {y f l : Int32} (hM : JrnAt h p n rw bk) (hn : n ≤ 300)
    (k : Q (.inl (some (.int (btwS rw x y f l n)))) h) : WP Γ MX4_sumBetween (2, 46, 0, 0) 0 [some (.ref p), some (.int x), some (.int y), some (.int f), some (.int l), none, none, none] [] h Q := by
  have hM0 := hM
  obtain ⟨hO, hR, hB⟩ := hM
  refine wp_iconst (n := 1) (v := 0) dX4_sumBetween_0 rfl (by decide) ?_
  refine wp_istore (n := 3) dX4_sumBetween_1 rfl rfl rfl rfl ?_
  refine wp_iconst (n := 4) (v := 0) dX4_sumBetween_3 rfl (by decide) ?_
  refine wp_istore (n := 6) dX4_sumBetween_4 rfl rfl rfl rfl ?_
  suffices L : ∀ j, j ≤ n → ∀ q5, WP Γ MX4_sumBetween (2, 46, 0, 0) 6 [some (.ref p), some (.int x), some (.int y), some (.int f), some (.int l), some (.int (btwS rw x y f l j)), some (.int (nI j)), q5] [] h Q from L 0 (Nat.zero_le _) none
  refine ax_up n (fun j hj ih => ?_)
  intro q5
  refine wp_lo (lo' := [some (.ref p), some (.int x), some (.int y), some (.int f), some (.int l), some (.int (btwS rw x y f l j)), some (.int (nI j)), none]) (fun k v hk => ?_) ?_
  · match k, hk with
    | 0, hk => exact hk
    | 1, hk => exact hk
    | 2, hk => exact hk
    | 3, hk => exact hk
    | 4, hk => exact hk
    | 5, hk => exact hk
    | 6, hk => exact hk
    | 7, hk => exact absurd hk (by simp [ax_gl])
    | k + 8, hk => exact absurd hk (by simp [ax_gl])
  refine wp_iload (n := 8) dX4_sumBetween_6 rfl rfl ?_
  refine wp_aload_n (n := 9) dX4_sumBetween_8 rfl rfl ?_
  refine wp_getf (n := 12) dX4_sumBetween_9 rfl flX4_9 (by repeat first | assumption | exact ax_set_self _ _ _ | exact ax_newA_self _ _ _ | refine (ax_set_ne _ _ (by omega)).trans ?_ | refine (ax_newA_ne _ _ _ (by omega)).trans ?_) (by rfl) ?_
  refine wp_icmp_ge (t := 79) (n := 15) dX4_sumBetween_12 (by decide) rfl (fun hc => ?_) (fun hc => ?_)
  · rw [nI_le9 (by omega) (by omega)] at hc
    obtain rfl : j = n := by omega
    refine wp_iload (n := 81) dX4_sumBetween_79 rfl rfl ?_
    exact wp_ireturn dX4_sumBetween_81 rfl rfl (k)
  · rw [nI_le9 (by omega) (by omega)] at hc
    have ih := ih (by omega)
    have N : ∀ q5, ¬ (rw (j * 7 + 0) = x ∧ rw (j * 7 + 1) = y ∧ witJ rw f l j = true) → WP Γ MX4_sumBetween (2, 46, 0, 0) 73 [some (.ref p), some (.int x), some (.int y), some (.int f), some (.int l), some (.int (btwS rw x y f l j)), some (.int (nI j)), q5] [] h Q := by
      intro q5 hno
      refine wp_iinc (n := 76) dX4_sumBetween_73 rfl rfl (nI_inc j) rfl rfl rfl ?_
      refine wp_goto (t := 6) dX4_sumBetween_76 (by decide) ?_
      have ih := ih q5
      simp only [btwS, sumI, if_neg hno, Int32.add_zero] at ih
      exact ih
    have Z : ¬ (rw (j * 7 + 0) = x ∧ rw (j * 7 + 1) = y) → WP Γ MX4_sumBetween (2, 46, 0, 0) 41 [some (.ref p), some (.int x), some (.int y), some (.int f), some (.int l), some (.int (btwS rw x y f l j)), some (.int (nI j)), none] [] h Q := by
      intro hno
      refine wp_iconst (n := 42) (v := 0) dX4_sumBetween_41 rfl (by decide) ?_
      refine wp_istore (n := 44) dX4_sumBetween_42 rfl rfl rfl rfl ?_
      refine wp_iload (n := 46) dX4_sumBetween_44 rfl rfl ?_
      refine wp_if_eq (t := 73) (n := 49) dX4_sumBetween_46 (by decide) rfl (fun h9 => ?_) (fun h9 => ?_)
      · exact N _ (fun q => hno ⟨q.1, q.2.1⟩)
      · exact absurd rfl h9
    refine wp_aload_n (n := 16) dX4_sumBetween_15 rfl rfl ?_
    refine wp_iload (n := 18) dX4_sumBetween_16 rfl rfl ?_
    refine wp_iconst (n := 19) (v := 0) dX4_sumBetween_18 rfl (by decide) ?_
    refine wp_callV2 (n := 22) (rm' := (0, 0, 0, 0)) rfl dX4_sumBetween_19 rfl mlX4_23 (by assumption) rfl rfl rfl rfl rfl ?_
    refine s_X4_value (j := 0) hM0 (by omega) (by omega) ?_
    show WP Γ _ _ _ _ _ _ _
    refine wp_iload_n (n := 23) dX4_sumBetween_22 rfl rfl ?_
    refine wp_icmp_ne (t := 41) (n := 26) dX4_sumBetween_23 (by decide) rfl (fun hq => ?_) (fun hq => ?_)
    · exact Z (fun q => hq q.1)
    · refine wp_aload_n (n := 27) dX4_sumBetween_26 rfl rfl ?_
      refine wp_iload (n := 29) dX4_sumBetween_27 rfl rfl ?_
      refine wp_iconst (n := 30) (v := nI 1) dX4_sumBetween_29 rfl (by decide) ?_
      refine wp_callV2 (n := 33) (rm' := (0, 0, 0, 0)) rfl dX4_sumBetween_30 rfl mlX4_23 (by assumption) rfl rfl rfl rfl rfl ?_
      refine s_X4_value hM0 (by omega) (by omega) ?_
      show WP Γ _ _ _ _ _ _ _
      refine wp_iload_n (n := 34) dX4_sumBetween_33 rfl rfl ?_
      refine wp_icmp_ne (t := 41) (n := 37) dX4_sumBetween_34 (by decide) rfl (fun hr => ?_) (fun hr => ?_)
      · exact Z (fun q => hr q.2)
      · refine wp_iconst (n := 38) (v := nI 1) dX4_sumBetween_37 rfl (by decide) ?_
        refine wp_goto (t := 42) dX4_sumBetween_38 (by decide) ?_
        refine wp_istore (n := 44) dX4_sumBetween_42 rfl rfl rfl rfl ?_
        refine wp_iload (n := 46) dX4_sumBetween_44 rfl rfl ?_
        refine wp_if_eq (t := 73) (n := 49) dX4_sumBetween_46 (by decide) rfl (fun h9 => ?_) (fun h9 => ?_)
        · exact absurd h9 (by decide)
        · refine wp_aload_n (n := 50) dX4_sumBetween_49 rfl rfl ?_
          refine wp_iload (n := 52) dX4_sumBetween_50 rfl rfl ?_
          refine wp_iload_n (n := 53) dX4_sumBetween_52 rfl rfl ?_
          refine wp_iload (n := 55) dX4_sumBetween_53 rfl rfl ?_
          refine wp_callV3 (n := 58) (rm' := (1, 22, 0, 0)) rfl dX4_sumBetween_55 rfl mlX4_41 (by assumption) rfl rfl rfl rfl rfl ?_
          refine s_X4_isWithin hM0 (by omega) ?_
          show WP Γ _ _ _ _ _ _ _
          refine wp_if_eq (t := 73) (n := 61) dX4_sumBetween_58 (by decide) rfl (fun hs => ?_) (fun hs => ?_)
          · exact N _ (fun q => by rw [bI_eq hs] at q; exact absurd q.2.2 (by decide))
          · have hs := bI_ne hs
            refine wp_iload (n := 63) dX4_sumBetween_61 rfl rfl ?_
            refine wp_aload_n (n := 64) dX4_sumBetween_63 rfl rfl ?_
            refine wp_iload (n := 66) dX4_sumBetween_64 rfl rfl ?_
            refine wp_iconst (n := 67) (v := nI 2) dX4_sumBetween_66 rfl (by decide) ?_
            refine wp_callV2 (n := 70) (rm' := (0, 0, 0, 0)) rfl dX4_sumBetween_67 rfl mlX4_23 (by assumption) rfl rfl rfl rfl rfl ?_
            refine s_X4_value hM0 (by omega) (by omega) ?_
            show WP Γ _ _ _ _ _ _ _
            refine wp_iadd (n := 71) dX4_sumBetween_70 rfl ?_
            refine wp_istore (n := 73) dX4_sumBetween_71 rfl rfl rfl rfl ?_
            refine wp_iinc (n := 76) dX4_sumBetween_73 rfl rfl (nI_inc j) rfl rfl rfl ?_
            refine wp_goto (t := 6) dX4_sumBetween_76 (by decide) ?_
            have ih := ih (some (.int (nI 1)))
            simp only [btwS, sumI, if_pos (And.intro hq (And.intro hr hs))] at ih
            exact ih
def rsnS (rw : Nat → Int32) (x f l : Int32) (n : Nat) : Int32 := sumI (fun e => if rw (e * 7 + 3) = x ∧ witJ rw f l e = true then sgnJ rw e else 0) n
theorem s_X4_sumOfReason {f l : Int32} (hM : JrnAt h p n rw bk) (hn : n ≤ 300)
    (k : Q (.inl (some (.int (rsnS rw x f l n)))) h) : WP Γ MX4_sumOfReason (2, 46, 0, 0) 0 [some (.ref p), some (.int x), some (.int f), some (.int l), none, none] [] h Q := by
  have hM0 := hM
  obtain ⟨hO, hR, hB⟩ := hM
  refine wp_iconst (n := 1) (v := 0) dX4_sumOfReason_0 rfl (by decide) ?_
  refine wp_istore (n := 3) dX4_sumOfReason_1 rfl rfl rfl rfl ?_
  refine wp_iconst (n := 4) (v := 0) dX4_sumOfReason_3 rfl (by decide) ?_
  refine wp_istore (n := 6) dX4_sumOfReason_4 rfl rfl rfl rfl ?_
  suffices L : ∀ j, j ≤ n → WP Γ MX4_sumOfReason (2, 46, 0, 0) 6 [some (.ref p), some (.int x), some (.int f), some (.int l), some (.int (rsnS rw x f l j)), some (.int (nI j))] [] h Q from L 0 (Nat.zero_le _)
  refine ax_up n (fun j hj ih => ?_)
  refine wp_iload (n := 8) dX4_sumOfReason_6 rfl rfl ?_
  refine wp_aload_n (n := 9) dX4_sumOfReason_8 rfl rfl ?_
  refine wp_getf (n := 12) dX4_sumOfReason_9 rfl flX4_9 (by repeat first | assumption | exact ax_set_self _ _ _ | exact ax_newA_self _ _ _ | refine (ax_set_ne _ _ (by omega)).trans ?_ | refine (ax_newA_ne _ _ _ (by omega)).trans ?_) (by rfl) ?_
  refine wp_icmp_ge (t := 54) (n := 15) dX4_sumOfReason_12 (by decide) rfl (fun hc => ?_) (fun hc => ?_)
  · rw [nI_le9 (by omega) (by omega)] at hc
    obtain rfl : j = n := by omega
    refine wp_iload (n := 56) dX4_sumOfReason_54 rfl rfl ?_
    exact wp_ireturn dX4_sumOfReason_56 rfl rfl (k)
  · rw [nI_le9 (by omega) (by omega)] at hc
    have ih := ih (by omega)
    have N : ¬ (rw (j * 7 + 3) = x ∧ witJ rw f l j = true) → WP Γ MX4_sumOfReason (2, 46, 0, 0) 48 [some (.ref p), some (.int x), some (.int f), some (.int l), some (.int (rsnS rw x f l j)), some (.int (nI j))] [] h Q := by
      intro hno
      refine wp_iinc (n := 51) dX4_sumOfReason_48 rfl rfl (nI_inc j) rfl rfl rfl ?_
      refine wp_goto (t := 6) dX4_sumOfReason_51 (by decide) ?_
      simp only [rsnS, sumI, if_neg hno, Int32.add_zero] at ih
      exact ih
    refine wp_aload_n (n := 16) dX4_sumOfReason_15 rfl rfl ?_
    refine wp_iload (n := 18) dX4_sumOfReason_16 rfl rfl ?_
    refine wp_iconst (n := 19) (v := nI 3) dX4_sumOfReason_18 rfl (by decide) ?_
    refine wp_callV2 (n := 22) (rm' := (0, 0, 0, 0)) rfl dX4_sumOfReason_19 rfl mlX4_23 (by assumption) rfl rfl rfl rfl rfl ?_
    refine s_X4_value hM0 (by omega) (by omega) ?_
    show WP Γ _ _ _ _ _ _ _
    refine wp_iload_n (n := 23) dX4_sumOfReason_22 rfl rfl ?_
    refine wp_icmp_ne (t := 48) (n := 26) dX4_sumOfReason_23 (by decide) rfl (fun hq => ?_) (fun hq => ?_)
    · exact N (fun q => hq q.1)
    · refine wp_aload_n (n := 27) dX4_sumOfReason_26 rfl rfl ?_
      refine wp_iload (n := 29) dX4_sumOfReason_27 rfl rfl ?_
      refine wp_iload_n (n := 30) dX4_sumOfReason_29 rfl rfl ?_
      refine wp_iload_n (n := 31) dX4_sumOfReason_30 rfl rfl ?_
      refine wp_callV3 (n := 34) (rm' := (1, 22, 0, 0)) rfl dX4_sumOfReason_31 rfl mlX4_41 (by assumption) rfl rfl rfl rfl rfl ?_
      refine s_X4_isWithin hM0 (by omega) ?_
      show WP Γ _ _ _ _ _ _ _
      refine wp_if_eq (t := 48) (n := 37) dX4_sumOfReason_34 (by decide) rfl (fun hs => ?_) (fun hs => ?_)
      · exact N (fun q => by rw [bI_eq hs] at q; exact absurd q.2 (by decide))
      · have hs := bI_ne hs
        refine wp_iload (n := 39) dX4_sumOfReason_37 rfl rfl ?_
        refine wp_aload_n (n := 40) dX4_sumOfReason_39 rfl rfl ?_
        refine wp_iload (n := 42) dX4_sumOfReason_40 rfl rfl ?_
        refine wp_callV1 (n := 45) (rm' := (1, 22, 0, 0)) rfl dX4_sumOfReason_42 rfl mlX4_45 (by assumption) rfl rfl rfl rfl rfl ?_
        refine s_X4_signed hM0 (by omega) ?_
        show WP Γ _ _ _ _ _ _ _
        refine wp_iadd (n := 46) dX4_sumOfReason_45 rfl ?_
        refine wp_istore (n := 48) dX4_sumOfReason_46 rfl rfl rfl rfl ?_
        refine wp_iinc (n := 51) dX4_sumOfReason_48 rfl rfl (nI_inc j) rfl rfl rfl ?_
        refine wp_goto (t := 6) dX4_sumOfReason_51 (by decide) ?_
        simp only [rsnS, sumI, if_pos (And.intro hq hs)] at ih
        exact ih
def trnS (rw : Nat → Int32) (x f l : Int32) (n : Nat) : Int32 := sumI (fun e => if (rw (e * 7 + 0) = x ∨ rw (e * 7 + 1) = x) ∧ witJ rw f l e = true then rw (e * 7 + 2) else 0) n
theorem s_X4_turnover {f l : Int32} (hM : JrnAt h p n rw bk) (hn : n ≤ 300)
    (k : Q (.inl (some (.int (trnS rw x f l n)))) h) : WP Γ MX4_turnover (2, 46, 0, 0) 0 [some (.ref p), some (.int x), some (.int f), some (.int l), none, none, none] [] h Q := by
  have hM0 := hM
  obtain ⟨hO, hR, hB⟩ := hM
  refine wp_iconst (n := 1) (v := 0) dX4_turnover_0 rfl (by decide) ?_
  refine wp_istore (n := 3) dX4_turnover_1 rfl rfl rfl rfl ?_
  refine wp_iconst (n := 4) (v := 0) dX4_turnover_3 rfl (by decide) ?_
  refine wp_istore (n := 6) dX4_turnover_4 rfl rfl rfl rfl ?_
  suffices L : ∀ j, j ≤ n → ∀ q5, WP Γ MX4_turnover (2, 46, 0, 0) 6 [some (.ref p), some (.int x), some (.int f), some (.int l), some (.int (trnS rw x f l j)), some (.int (nI j)), q5] [] h Q from L 0 (Nat.zero_le _) none
  refine ax_up n (fun j hj ih => ?_)
  intro q5
  refine wp_lo (lo' := [some (.ref p), some (.int x), some (.int f), some (.int l), some (.int (trnS rw x f l j)), some (.int (nI j)), none]) (fun k v hk => ?_) ?_
  · match k, hk with
    | 0, hk => exact hk
    | 1, hk => exact hk
    | 2, hk => exact hk
    | 3, hk => exact hk
    | 4, hk => exact hk
    | 5, hk => exact hk
    | 6, hk => exact absurd hk (by simp [ax_gl])
    | k + 7, hk => exact absurd hk (by simp [ax_gl])
  refine wp_iload (n := 8) dX4_turnover_6 rfl rfl ?_
  refine wp_aload_n (n := 9) dX4_turnover_8 rfl rfl ?_
  refine wp_getf (n := 12) dX4_turnover_9 rfl flX4_9 (by repeat first | assumption | exact ax_set_self _ _ _ | exact ax_newA_self _ _ _ | refine (ax_set_ne _ _ (by omega)).trans ?_ | refine (ax_newA_ne _ _ _ (by omega)).trans ?_) (by rfl) ?_
  refine wp_icmp_ge (t := 78) (n := 15) dX4_turnover_12 (by decide) rfl (fun hc => ?_) (fun hc => ?_)
  · rw [nI_le9 (by omega) (by omega)] at hc
    obtain rfl : j = n := by omega
    refine wp_iload (n := 80) dX4_turnover_78 rfl rfl ?_
    exact wp_ireturn dX4_turnover_80 rfl rfl (k)
  · rw [nI_le9 (by omega) (by omega)] at hc
    have ih := ih (by omega)
    have N : ∀ q5, ¬ ((rw (j * 7 + 0) = x ∨ rw (j * 7 + 1) = x) ∧ witJ rw f l j = true) → WP Γ MX4_turnover (2, 46, 0, 0) 72 [some (.ref p), some (.int x), some (.int f), some (.int l), some (.int (trnS rw x f l j)), some (.int (nI j)), q5] [] h Q := by
      intro q5 hno
      refine wp_iinc (n := 75) dX4_turnover_72 rfl rfl (nI_inc j) rfl rfl rfl ?_
      refine wp_goto (t := 6) dX4_turnover_75 (by decide) ?_
      have ih := ih q5
      simp only [trnS, sumI, if_neg hno, Int32.add_zero] at ih
      exact ih
    have Y : (rw (j * 7 + 0) = x ∨ rw (j * 7 + 1) = x) → WP Γ MX4_turnover (2, 46, 0, 0) 37 [some (.ref p), some (.int x), some (.int f), some (.int l), some (.int (trnS rw x f l j)), some (.int (nI j)), none] [] h Q := by
      intro hy
      refine wp_iconst (n := 38) (v := nI 1) dX4_turnover_37 rfl (by decide) ?_
      refine wp_goto (t := 42) dX4_turnover_38 (by decide) ?_
      refine wp_istore (n := 44) dX4_turnover_42 rfl rfl rfl rfl ?_
      refine wp_iload (n := 46) dX4_turnover_44 rfl rfl ?_
      refine wp_if_eq (t := 72) (n := 49) dX4_turnover_46 (by decide) rfl (fun h9 => ?_) (fun h9 => ?_)
      · exact absurd h9 (by decide)
      · refine wp_aload_n (n := 50) dX4_turnover_49 rfl rfl ?_
        refine wp_iload (n := 52) dX4_turnover_50 rfl rfl ?_
        refine wp_iload_n (n := 53) dX4_turnover_52 rfl rfl ?_
        refine wp_iload_n (n := 54) dX4_turnover_53 rfl rfl ?_
        refine wp_callV3 (n := 57) (rm' := (1, 22, 0, 0)) rfl dX4_turnover_54 rfl mlX4_41 (by assumption) rfl rfl rfl rfl rfl ?_
        refine s_X4_isWithin hM0 (by omega) ?_
        show WP Γ _ _ _ _ _ _ _
        refine wp_if_eq (t := 72) (n := 60) dX4_turnover_57 (by decide) rfl (fun hs => ?_) (fun hs => ?_)
        · exact N _ (fun q => by rw [bI_eq hs] at q; exact absurd q.2 (by decide))
        · have hs := bI_ne hs
          refine wp_iload (n := 62) dX4_turnover_60 rfl rfl ?_
          refine wp_aload_n (n := 63) dX4_turnover_62 rfl rfl ?_
          refine wp_iload (n := 65) dX4_turnover_63 rfl rfl ?_
          refine wp_iconst (n := 66) (v := nI 2) dX4_turnover_65 rfl (by decide) ?_
          refine wp_callV2 (n := 69) (rm' := (0, 0, 0, 0)) rfl dX4_turnover_66 rfl mlX4_23 (by assumption) rfl rfl rfl rfl rfl ?_
          refine s_X4_value hM0 (by omega) (by omega) ?_
          show WP Γ _ _ _ _ _ _ _
          refine wp_iadd (n := 70) dX4_turnover_69 rfl ?_
          refine wp_istore (n := 72) dX4_turnover_70 rfl rfl rfl rfl ?_
          refine wp_iinc (n := 75) dX4_turnover_72 rfl rfl (nI_inc j) rfl rfl rfl ?_
          refine wp_goto (t := 6) dX4_turnover_75 (by decide) ?_
          have ih := ih (some (.int (nI 1)))
          simp only [trnS, sumI, if_pos (And.intro hy hs)] at ih
          exact ih
    refine wp_aload_n (n := 16) dX4_turnover_15 rfl rfl ?_
    refine wp_iload (n := 18) dX4_turnover_16 rfl rfl ?_
    refine wp_iconst (n := 19) (v := 0) dX4_turnover_18 rfl (by decide) ?_
    refine wp_callV2 (n := 22) (rm' := (0, 0, 0, 0)) rfl dX4_turnover_19 rfl mlX4_23 (by assumption) rfl rfl rfl rfl rfl ?_
    refine s_X4_value (j := 0) hM0 (by omega) (by omega) ?_
    show WP Γ _ _ _ _ _ _ _
    refine wp_iload_n (n := 23) dX4_turnover_22 rfl rfl ?_
    refine wp_icmp_eq (t := 37) (n := 26) dX4_turnover_23 (by decide) rfl (fun hq => ?_) (fun hq => ?_)
    · exact Y (Or.inl hq)
    · refine wp_aload_n (n := 27) dX4_turnover_26 rfl rfl ?_
      refine wp_iload (n := 29) dX4_turnover_27 rfl rfl ?_
      refine wp_iconst (n := 30) (v := nI 1) dX4_turnover_29 rfl (by decide) ?_
      refine wp_callV2 (n := 33) (rm' := (0, 0, 0, 0)) rfl dX4_turnover_30 rfl mlX4_23 (by assumption) rfl rfl rfl rfl rfl ?_
      refine s_X4_value hM0 (by omega) (by omega) ?_
      show WP Γ _ _ _ _ _ _ _
      refine wp_iload_n (n := 34) dX4_turnover_33 rfl rfl ?_
      refine wp_icmp_ne (t := 41) (n := 37) dX4_turnover_34 (by decide) rfl (fun hr => ?_) (fun hr => ?_)
      · refine wp_iconst (n := 42) (v := 0) dX4_turnover_41 rfl (by decide) ?_
        refine wp_istore (n := 44) dX4_turnover_42 rfl rfl rfl rfl ?_
        refine wp_iload (n := 46) dX4_turnover_44 rfl rfl ?_
        refine wp_if_eq (t := 72) (n := 49) dX4_turnover_46 (by decide) rfl (fun h9 => ?_) (fun h9 => ?_)
        · exact N _ (fun q => q.1.elim hq hr)
        · exact absurd rfl h9
      · exact Y (Or.inr hr)
end
