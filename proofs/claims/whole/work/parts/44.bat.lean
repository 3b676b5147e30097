/-! ===== BatchReader: reading ===== -/
def BatAt (h : AH) (q p n : Nat) (rs : FI) : Prop := h.2 q = some (.inr (0, [.ref p, .ref (q + 1), .int (nI n)])) ∧ h.2 (q + 1) = some (.inl (.int, 500, .inl rs))
theorem BatAt.fr {h h' : AH} {q p n lo hi : Nat} {rs : FI} (hM : BatAt h q p n rs) (hF : ax_fr lo hi h h') (hd : hi ≤ q ∨ q + 2 ≤ lo) : BatAt h' q p n rs := ⟨hF.get hM.1 (by omega), hF.get hM.2 (by omega)⟩
/-- a pool that is there and is not x -/
def rpR (np : Nat) (le ln bs : FI) (len b : Nat) (x : Int32) : (Int32 × Nat) ⊕ (Nat × Nat) := mrR (rdW bs len b) fun q => match fstG (nameB le ln bs q.1 (q.2 - q.1)) np 0 with
  | none => .inl (nI 3, q.1)
  | some j => if nI j = x then .inl (nI 3, q.1) else .inr (j, q.2)
def lngR (np : Nat) (le ln bs : FI) (len b : Nat) (lo hi : Int32) : (Int32 × Nat) ⊕ (Int32 × Nat × Nat × Int32 × Nat) := mrR (rdN bs len b (nI 1) (nI 200)) fun u => mrR (rpR np le ln bs len u.2 (-1)) fun v => mrR (rpR np le ln bs len v.2 (nI v.1)) fun w => mrR (rdN bs len w.2 lo hi) fun z => .inr (u.1, v.1, w.1, z.1, z.2)
/-- a command: what it is, number, two pools, last number, the place behind -/
def comR (np : Nat) (le ln bs : FI) (len b : Nat) : (Int32 × Nat) ⊕ (Nat × Int32 × Int32 × Int32 × Int32 × Nat) := mrR (rdW bs len b) fun q =>
  if wrdB bs q.1 (q.2 - q.1) w_move = true then mrR (lngR np le ln bs len q.2 0 (nI 9)) fun x => .inr (0, x.1, nI x.2.1, nI x.2.2.1, x.2.2.2.1, x.2.2.2.2)
  else if wrdB bs q.1 (q.2 - q.1) w_hold = true then mrR (lngR np le ln bs len q.2 (nI 1) (nI 1000)) fun x => .inr (1, x.1, nI x.2.1, nI x.2.2.1, x.2.2.2.1, x.2.2.2.2)
  else if wrdB bs q.1 (q.2 - q.1) w_wait = true then mrR (rdN bs len q.2 (nI 1) (nI 1000)) fun u => .inr (2, u.1, -1, -1, -1, u.2)
  else if wrdB bs q.1 (q.2 - q.1) w_back = true then mrR (rdN bs len q.2 0 (nI 299)) fun u => .inr (3, u.1, -1, -1, -1, u.2)
  else .inl (nI 1, q.1)
def VC (np c : Nat) (v f t l : Int32) : Prop := (c = 0 ∧ ∃ m i j, v = nI m ∧ 1 ≤ m ∧ m ≤ 200 ∧ f = nI i ∧ t = nI j ∧ i < np ∧ j < np ∧ inI l 0 9 = true) ∨ (c = 1 ∧ ∃ m i j n, v = nI m ∧ 1 ≤ m ∧ m ≤ 200 ∧ f = nI i ∧ t = nI j ∧ i < np ∧ j < np ∧ l = nI n ∧ 1 ≤ n ∧ n ≤ 1000) ∨ (c = 2 ∧ ∃ m, v = nI m ∧ 1 ≤ m ∧ m ≤ 1000) ∨ (c = 3 ∧ ∃ m, v = nI m ∧ m ≤ 299)
section
variable {Γ : GE} {h : AH} {Q : PO} {q p len st bh a np n : Nat} {bs rs : FI} {kd x : Int32} {qu ra le ln : FI} {re : Nat → UInt32}
theorem s_X0_addRow {c v f t l : Int32} (hB : BatAt h q p n rs) (hA : Γ.2.1 ≤ q) (hn : n < 100)
    (k : ∀ h', ax_fr q (q + 2) h h' → BatAt h' q p (n + 1) (upd5 rs n c v f t l) → Q (.inl none) h') : WP Γ MX0_addRow (0, 0, 0, 0) 0 [some (.ref q), some (.int c), some (.int v), some (.int f), some (.int t), some (.int l), none] [] h Q := by
  obtain ⟨hO, hR⟩ := hB
  refine wp_aload_n (n := 1) dX0_addRow_0 rfl rfl ?_
  refine wp_getf (n := 4) dX0_addRow_1 rfl flX0_15 (by repeat first | assumption | exact ax_set_self _ _ _ | exact ax_newA_self _ _ _ | refine (ax_set_ne _ _ (by omega)).trans ?_ | refine (ax_newA_ne _ _ _ (by omega)).trans ?_) (by rfl) ?_
  refine wp_iconst (n := 5) (v := nI 5) dX0_addRow_4 rfl (by decide) ?_
  refine wp_imul (n := 6) dX0_addRow_5 rfl ?_
  refine wp_istore (n := 8) dX0_addRow_6 rfl rfl rfl rfl ?_
  refine wp_aload_n (n := 9) dX0_addRow_8 rfl rfl ?_
  refine wp_getf (n := 12) dX0_addRow_9 rfl flX0_11 (by repeat first | assumption | exact ax_set_self _ _ _ | exact ax_newA_self _ _ _ | refine (ax_set_ne _ _ (by omega)).trans ?_ | refine (ax_newA_ne _ _ _ (by omega)).trans ?_) (by rfl) ?_
  refine wp_iload (n := 14) dX0_addRow_12 rfl rfl ?_
  refine wp_iload_n (n := 15) dX0_addRow_14 rfl rfl ?_
  refine wp_iast (n := 16) (n * 5 + 0) dX0_addRow_15 rfl hR (by omega) (by rw [nI_mul]; rfl) (by omega) (by omega) ?_
  refine wp_aload_n (n := 17) dX0_addRow_16 rfl rfl ?_
  refine wp_getf (n := 20) dX0_addRow_17 rfl flX0_11 (by repeat first | assumption | exact ax_set_self _ _ _ | exact ax_newA_self _ _ _ | refine (ax_set_ne _ _ (by omega)).trans ?_ | refine (ax_newA_ne _ _ _ (by omega)).trans ?_) (by rfl) ?_
  refine wp_iload (n := 22) dX0_addRow_20 rfl rfl ?_
  refine wp_iconst (n := 23) (v := nI 1) dX0_addRow_22 rfl (by decide) ?_
  refine wp_iadd (n := 24) dX0_addRow_23 rfl ?_
  refine wp_iload_n (n := 25) dX0_addRow_24 rfl rfl ?_
  refine wp_iast (n := 26) (n * 5 + 1) dX0_addRow_25 rfl (by repeat first | assumption | exact ax_set_self _ _ _ | exact ax_newA_self _ _ _ | refine (ax_set_ne _ _ (by omega)).trans ?_ | refine (ax_newA_ne _ _ _ (by omega)).trans ?_) (by omega) (by simp only [nI_zero, nI_mul, nI_add]) (by omega) (by omega) ?_
  refine wp_aload_n (n := 27) dX0_addRow_26 rfl rfl ?_
  refine wp_getf (n := 30) dX0_addRow_27 rfl flX0_11 (by repeat first | assumption | exact ax_set_self _ _ _ | exact ax_newA_self _ _ _ | refine (ax_set_ne _ _ (by omega)).trans ?_ | refine (ax_newA_ne _ _ _ (by omega)).trans ?_) (by rfl) ?_
  refine wp_iload (n := 32) dX0_addRow_30 rfl rfl ?_
  refine wp_iconst (n := 33) (v := nI 2) dX0_addRow_32 rfl (by decide) ?_
  refine wp_iadd (n := 34) dX0_addRow_33 rfl ?_
  refine wp_iload_n (n := 35) dX0_addRow_34 rfl rfl ?_
  refine wp_iast (n := 36) (n * 5 + 2) dX0_addRow_35 rfl (by repeat first | assumption | exact ax_set_self _ _ _ | exact ax_newA_self _ _ _ | refine (ax_set_ne _ _ (by omega)).trans ?_ | refine (ax_newA_ne _ _ _ (by omega)).trans ?_) (by omega) (by simp only [nI_zero, nI_mul, nI_add]) (by omega) (by omega) ?_
  refine wp_aload_n (n := 37) dX0_addRow_36 rfl rfl ?_
  refine wp_getf (n := 40) dX0_addRow_37 rfl flX0_11 (by repeat first | assumption | exact ax_set_self _ _ _ | exact ax_newA_self _ _ _ | refine (ax_set_ne _ _ (by omega)).trans ?_ | refine (ax_newA_ne _ _ _ (by omega)).trans ?_) (by rfl) ?_
  refine wp_iload (n := 42) dX0_addRow_40 rfl rfl ?_
  refine wp_iconst (n := 43) (v := nI 3) dX0_addRow_42 rfl (by decide) ?_
  refine wp_iadd (n := 44) dX0_addRow_43 rfl ?_
  refine wp_iload (n := 46) dX0_addRow_44 rfl rfl ?_
  refine wp_iast (n := 47) (n * 5 + 3) dX0_addRow_46 rfl (by repeat first | assumption | exact ax_set_self _ _ _ | exact ax_newA_self _ _ _ | refine (ax_set_ne _ _ (by omega)).trans ?_ | refine (ax_newA_ne _ _ _ (by omega)).trans ?_) (by omega) (by simp only [nI_zero, nI_mul, nI_add]) (by omega) (by omega) ?_
  refine wp_aload_n (n := 48) dX0_addRow_47 rfl rfl ?_
  refine wp_getf (n := 51) dX0_addRow_48 rfl flX0_11 (by repeat first | assumption | exact ax_set_self _ _ _ | exact ax_newA_self _ _ _ | refine (ax_set_ne _ _ (by omega)).trans ?_ | refine (ax_newA_ne _ _ _ (by omega)).trans ?_) (by rfl) ?_
  refine wp_iload (n := 53) dX0_addRow_51 rfl rfl ?_
  refine wp_iconst (n := 54) (v := nI 4) dX0_addRow_53 rfl (by decide) ?_
  refine wp_iadd (n := 55) dX0_addRow_54 rfl ?_
  refine wp_iload (n := 57) dX0_addRow_55 rfl rfl ?_
  refine wp_iast (n := 58) (n * 5 + 4) dX0_addRow_57 rfl (by repeat first | assumption | exact ax_set_self _ _ _ | exact ax_newA_self _ _ _ | refine (ax_set_ne _ _ (by omega)).trans ?_ | refine (ax_newA_ne _ _ _ (by omega)).trans ?_) (by omega) (by simp only [nI_zero, nI_mul, nI_add]) (by omega) (by omega) ?_
  refine wp_aload_n (n := 59) dX0_addRow_58 rfl rfl ?_
  refine wp_dup (n := 60) dX0_addRow_59 rfl rfl ?_
  refine wp_getf (n := 63) dX0_addRow_60 rfl flX0_15 (by repeat first | assumption | exact ax_set_self _ _ _ | exact ax_newA_self _ _ _ | refine (ax_set_ne _ _ (by omega)).trans ?_ | refine (ax_newA_ne _ _ _ (by omega)).trans ?_) (by rfl) ?_
  refine wp_iconst (n := 64) (v := nI 1) dX0_addRow_63 rfl (by decide) ?_
  refine wp_iadd (n := 65) dX0_addRow_64 rfl ?_
  rw [nI_add]
  refine wp_putf (n := 68) dX0_addRow_65 rfl flX0_15 (by repeat first | assumption | exact ax_set_self _ _ _ | exact ax_newA_self _ _ _ | refine (ax_set_ne _ _ (by omega)).trans ?_ | refine (ax_newA_ne _ _ _ (by omega)).trans ?_) (by omega) (by rfl) rfl rfl ?_
  exact wp_return dX0_addRow_68 rfl (k _ ((((((ax_fr.set (lo := q) (hi := q + 2) (by omega)).put (by omega)).put (by omega)).put (by omega)).put (by omega)).put (by omega)) ⟨ax_set_self _ _ _, (ax_set_ne _ _ (by omega)).trans (ax_set_self _ _ _)⟩)
theorem s_X0_readPoolOtherThan (hB : BatAt h q p n rs) (hT : TextAt h p bs len kd st bh 0 0) (hP : PoolsAt h a np qu ra re le ln) (hA : Γ.2.1 ≤ p) (hpq : p + 2 ≤ q) (hqa : q + 2 ≤ a) (hl : len ≤ 500) (hb : bh ≤ len) (hn : np ≤ 8) (hln : ∀ j, j < np → ∃ m, ln j = nI m ∧ m ≤ 6)
    (kF : ∀ e pos h', rpR np le ln bs len bh x = .inl (e, pos) → ax_fr p (p + 2) h h' → TxF h' p bs len e pos → Q (.inl (some (.int (-1)))) h')
    (kO : ∀ j w h', rpR np le ln bs len bh x = .inr (j, w) → j < np → bh < w → w ≤ len → ax_fr p (p + 2) h h' → TxG h' p bs len w → Q (.inl (some (.int (nI j)))) h') : WP Γ MX0_readPoolOtherThan (2, 48, 0, 0) 0 [some (.ref q), some (.int x), some (.ref a), none] [] h Q := by
  have hO := hB.1
  have hT1 := hT.1
  refine wp_aload_n (n := 1) dX0_readPoolOtherThan_0 rfl rfl ?_
  refine wp_getf (n := 4) dX0_readPoolOtherThan_1 rfl flX0_19 (by repeat first | assumption | exact ax_set_self _ _ _ | exact ax_newA_self _ _ _ | refine (ax_set_ne _ _ (by omega)).trans ?_ | refine (ax_newA_ne _ _ _ (by omega)).trans ?_) (by rfl) ?_
  refine wp_callV0 (n := 7) (rm' := (1, 21, 0, 0)) rfl dX0_readPoolOtherThan_4 rfl mlX0_43 (by repeat first | assumption | exact ax_set_self _ _ _ | exact ax_newA_self _ _ _ | refine (ax_set_ne _ _ (by omega)).trans ?_ | refine (ax_newA_ne _ _ _ (by omega)).trans ?_) rfl rfl rfl rfl rfl ?_
  refine s_rdW hT hA hl hb (fun e pos h1 q1 f1 t1 => ?_) (fun s w h1 q1 l1 l2 l3 l4 f1 t1 => ?_)
  · show WP Γ _ _ _ _ _ _ _
    refine wp_if_ne (t := 12) (n := 10) dX0_readPoolOtherThan_7 (by decide) rfl (fun hq => ?_) (fun hq => ?_)
    · exact absurd rfl hq
    · refine wp_iconst (n := 11) (v := (-1)) dX0_readPoolOtherThan_10 rfl (by decide) ?_
      exact wp_ireturn dX0_readPoolOtherThan_11 rfl rfl (kF e pos h1 (mrR_l q1) f1 t1)
  · show WP Γ _ _ _ _ _ _ _
    have hO := f1.get hB.1 (by omega)
    have hT1 := t1.1
    have hT2 := t1.2
    have hP1 := hP.fr f1 (by omega)
    have hP2 := hP1.1
    have eR : rpR np le ln bs len bh x = _ := mrR_r q1
    have F3 : rpR np le ln bs len bh x = .inl (nI 3, s) → ∀ v, WP Γ MX0_readPoolOtherThan (2, 48, 0, 0) 48 [some (.ref q), some (.int x), some (.ref a), some (.int v)] [] h1 Q := by
      intro eF v
      refine wp_aload_n (n := 49) dX0_readPoolOtherThan_48 rfl rfl ?_
      refine wp_getf (n := 52) dX0_readPoolOtherThan_49 rfl flX0_19 (by repeat first | assumption | exact ax_set_self _ _ _ | exact ax_newA_self _ _ _ | refine (ax_set_ne _ _ (by omega)).trans ?_ | refine (ax_newA_ne _ _ _ (by omega)).trans ?_) (by rfl) ?_
      refine wp_iconst (n := 53) (v := nI 3) dX0_readPoolOtherThan_52 rfl (by decide) ?_
      refine wp_callV1 (n := 56) (rm' := (0, 0, 0, 0)) rfl dX0_readPoolOtherThan_53 rfl mlX0_66 (by repeat first | assumption | exact ax_set_self _ _ _ | exact ax_newA_self _ _ _ | refine (ax_set_ne _ _ (by omega)).trans ?_ | refine (ax_newA_ne _ _ _ (by omega)).trans ?_) rfl rfl rfl rfl rfl ?_
      refine s_X8_fail t1 hA (fun h2 f2 t2 => ?_)
      show WP Γ _ _ _ _ _ _ _
      refine wp_pop (n := 57) dX0_readPoolOtherThan_56 rfl rfl ?_
      refine wp_iconst (n := 58) (v := (-1)) dX0_readPoolOtherThan_57 rfl (by decide) ?_
      exact wp_ireturn dX0_readPoolOtherThan_58 rfl rfl (kF _ _ h2 eF (f1.tr (lo := p) (hi := p + 2) f2 (by omega) (by omega)) ⟨_, _, _, t2⟩)
    refine wp_if_ne (t := 12) (n := 10) dX0_readPoolOtherThan_7 (by decide) rfl (fun hq => ?_) (fun hq => ?_)
    · refine wp_aload_n (n := 13) dX0_readPoolOtherThan_12 rfl rfl ?_
      refine wp_aload_n (n := 14) dX0_readPoolOtherThan_13 rfl rfl ?_
      refine wp_getf (n := 17) dX0_readPoolOtherThan_14 rfl flX0_19 (by repeat first | assumption | exact ax_set_self _ _ _ | exact ax_newA_self _ _ _ | refine (ax_set_ne _ _ (by omega)).trans ?_ | refine (ax_newA_ne _ _ _ (by omega)).trans ?_) (by rfl) ?_
      refine wp_getf (n := 20) dX0_readPoolOtherThan_17 rfl flX0_82 (by repeat first | assumption | exact ax_set_self _ _ _ | exact ax_newA_self _ _ _ | refine (ax_set_ne _ _ (by omega)).trans ?_ | refine (ax_newA_ne _ _ _ (by omega)).trans ?_) (by rfl) ?_
      refine wp_aload_n (n := 21) dX0_readPoolOtherThan_20 rfl rfl ?_
      refine wp_getf (n := 24) dX0_readPoolOtherThan_21 rfl flX0_19 (by repeat first | assumption | exact ax_set_self _ _ _ | exact ax_newA_self _ _ _ | refine (ax_set_ne _ _ (by omega)).trans ?_ | refine (ax_newA_ne _ _ _ (by omega)).trans ?_) (by rfl) ?_
      refine wp_getf (n := 27) dX0_readPoolOtherThan_24 rfl flX0_85 (by repeat first | assumption | exact ax_set_self _ _ _ | exact ax_newA_self _ _ _ | refine (ax_set_ne _ _ (by omega)).trans ?_ | refine (ax_newA_ne _ _ _ (by omega)).trans ?_) (by rfl) ?_
      refine wp_aload_n (n := 28) dX0_readPoolOtherThan_27 rfl rfl ?_
      refine wp_getf (n := 31) dX0_readPoolOtherThan_28 rfl flX0_19 (by repeat first | assumption | exact ax_set_self _ _ _ | exact ax_newA_self _ _ _ | refine (ax_set_ne _ _ (by omega)).trans ?_ | refine (ax_newA_ne _ _ _ (by omega)).trans ?_) (by rfl) ?_
      refine wp_callV0 (n := 34) (rm' := (0, 0, 0, 0)) rfl dX0_readPoolOtherThan_31 rfl mlX0_88 (by repeat first | assumption | exact ax_set_self _ _ _ | exact ax_newA_self _ _ _ | refine (ax_set_ne _ _ (by omega)).trans ?_ | refine (ax_newA_ne _ _ _ (by omega)).trans ?_) rfl rfl rfl rfl rfl ?_
      refine s_X8_wordLength t1 (by omega) ?_
      show WP Γ _ _ _ _ _ _ _
      refine wp_callV3 (n := 37) (rm' := (1, 24, 0, 0)) rfl dX0_readPoolOtherThan_34 rfl mlX0_92 (by repeat first | assumption | exact ax_set_self _ _ _ | exact ax_newA_self _ _ _ | refine (ax_set_ne _ _ (by omega)).trans ?_ | refine (ax_newA_ne _ _ _ (by omega)).trans ?_) rfl rfl rfl rfl rfl ?_
      refine s_X6_find (N := 500) hP1 hn hln hT2 (by omega) (by omega) ?_
      show WP Γ _ _ _ _ _ _ _
      refine wp_istore_n (n := 38) dX0_readPoolOtherThan_37 rfl rfl rfl rfl ?_
      refine wp_iload_n (n := 39) dX0_readPoolOtherThan_38 rfl rfl ?_
      refine wp_iconst (n := 40) (v := (-1)) dX0_readPoolOtherThan_39 rfl (by decide) ?_
      cases hf : fstG (nameB le ln bs s (w - s)) np 0 with
      | none =>
        simp only [hf] at eR
        refine wp_icmp_eq (t := 48) (n := 43) dX0_readPoolOtherThan_40 (by decide) rfl (fun hz => ?_) (fun hz => ?_)
        · exact F3 eR _
        · exact absurd rfl hz
      | some j =>
        obtain ⟨_, hj2, _⟩ := fstG_some hf
        simp only [hf] at eR
        refine wp_icmp_eq (t := 48) (n := 43) dX0_readPoolOtherThan_40 (by decide) rfl (fun hz => ?_) (fun hz => ?_)
        · exact absurd hz (nI_ne_neg (by omega))
        · refine wp_iload_n (n := 44) dX0_readPoolOtherThan_43 rfl rfl ?_
          refine wp_iload_n (n := 45) dX0_readPoolOtherThan_44 rfl rfl ?_
          refine wp_icmp_ne (t := 59) (n := 48) dX0_readPoolOtherThan_45 (by decide) rfl (fun hy => ?_) (fun hy => ?_)
          · have hy : ¬ nI j = x := hy
            rw [if_neg hy] at eR
            refine wp_iload_n (n := 60) dX0_readPoolOtherThan_59 rfl rfl ?_
            exact wp_ireturn dX0_readPoolOtherThan_60 rfl rfl (kO j w h1 eR (by omega) (by omega) l3 f1 ⟨_, _, t1⟩)
          · have hy : nI j = x := hy
            rw [if_pos hy] at eR
            exact F3 eR _
    · exact absurd hq (by decide)
theorem s_X0_readShort {c : Nat} {lo9 hi9 : Int32} (hB : BatAt h q p n rs) (hT : TextAt h p bs len kd st bh 0 0) (hA : Γ.2.1 ≤ p) (hpq : p + 2 ≤ q) (hl : len ≤ 500) (hb : bh ≤ len) (hn9 : n < 100)
    (kF : ∀ e pos h', rdN bs len bh lo9 hi9 = .inl (e, pos) → ax_fr p (p + 2) h h' → TxF h' p bs len e pos → Q (.inl (some (.int 0))) h')
    (kO : ∀ m w h', rdN bs len bh lo9 hi9 = .inr (nI m, w) → m ≤ 10000 → bh < w → w ≤ len → lo9 ≤ nI m → nI m ≤ hi9 → ax_fr p (q + 2) h h' → (∀ a, p + 2 ≤ a → a < q → h'.2 a = h.2 a) → TxG h' p bs len w → BatAt h' q p (n + 1) (upd5 rs n (nI c) (nI m) (-1) (-1) (-1)) → Q (.inl (some (.int (nI 1)))) h') : WP Γ MX0_readShort (2, 84, 0, 0) 0 [some (.ref q), some (.int (nI c)), some (.int lo9), some (.int hi9), none] [] h Q := by
  have hO := hB.1
  have hT1 := hT.1
  refine wp_aload_n (n := 1) dX0_readShort_0 rfl rfl ?_
  refine wp_getf (n := 4) dX0_readShort_1 rfl flX0_19 (by repeat first | assumption | exact ax_set_self _ _ _ | exact ax_newA_self _ _ _ | refine (ax_set_ne _ _ (by omega)).trans ?_ | refine (ax_newA_ne _ _ _ (by omega)).trans ?_) (by rfl) ?_
  refine wp_iload_n (n := 5) dX0_readShort_4 rfl rfl ?_
  refine wp_iload_n (n := 6) dX0_readShort_5 rfl rfl ?_
  refine wp_callV2 (n := 9) (rm' := (1, 60, 0, 0)) rfl dX0_readShort_6 rfl mlX0_70 (by repeat first | assumption | exact ax_set_self _ _ _ | exact ax_newA_self _ _ _ | refine (ax_set_ne _ _ (by omega)).trans ?_ | refine (ax_newA_ne _ _ _ (by omega)).trans ?_) rfl rfl rfl rfl rfl ?_
  refine s_rdN hT hA hl hb (fun e pos h1 q1 f1 t1 => ?_) (fun m w h1 q1 a1 a2 a3 a4 a5 f1 t1 => ?_)
  · show WP Γ _ _ _ _ _ _ _
    refine wp_istore (n := 11) dX0_readShort_9 rfl rfl rfl rfl ?_
    refine wp_iload (n := 13) dX0_readShort_11 rfl rfl ?_
    refine wp_iconst (n := 14) (v := (-1)) dX0_readShort_13 rfl (by decide) ?_
    refine wp_icmp_ne (t := 19) (n := 17) dX0_readShort_14 (by decide) rfl (fun hy => ?_) (fun hy => ?_)
    · exact absurd rfl hy
    · refine wp_iconst (n := 18) (v := 0) dX0_readShort_17 rfl (by decide) ?_
      exact wp_ireturn dX0_readShort_18 rfl rfl (kF e pos h1 q1 f1 t1)
  · show WP Γ _ _ _ _ _ _ _
    have hB1 := hB.fr f1 (by omega)
    have hO := hB1.1
    refine wp_istore (n := 11) dX0_readShort_9 rfl rfl rfl rfl ?_
    refine wp_iload (n := 13) dX0_readShort_11 rfl rfl ?_
    refine wp_iconst (n := 14) (v := (-1)) dX0_readShort_13 rfl (by decide) ?_
    refine wp_icmp_ne (t := 19) (n := 17) dX0_readShort_14 (by decide) rfl (fun hy => ?_) (fun hy => ?_)
    · refine wp_aload_n (n := 20) dX0_readShort_19 rfl rfl ?_
      refine wp_iload_n (n := 21) dX0_readShort_20 rfl rfl ?_
      refine wp_iload (n := 23) dX0_readShort_21 rfl rfl ?_
      refine wp_iconst (n := 24) (v := (-1)) dX0_readShort_23 rfl (by decide) ?_
      refine wp_iconst (n := 25) (v := (-1)) dX0_readShort_24 rfl (by decide) ?_
      refine wp_iconst (n := 26) (v := (-1)) dX0_readShort_25 rfl (by decide) ?_
      refine wp_callV5 (n := 29) (rm' := (0, 0, 0, 0)) rfl dX0_readShort_26 rfl mlX0_78 (by repeat first | assumption | exact ax_set_self _ _ _ | exact ax_newA_self _ _ _ | refine (ax_set_ne _ _ (by omega)).trans ?_ | refine (ax_newA_ne _ _ _ (by omega)).trans ?_) rfl rfl rfl rfl rfl ?_
      refine s_X0_addRow hB1 (by omega) hn9 (fun h2 f2 hB2 => ?_)
      show WP Γ _ _ _ _ _ _ _
      refine wp_iconst (n := 30) (v := nI 1) dX0_readShort_29 rfl (by decide) ?_
      exact wp_ireturn dX0_readShort_30 rfl rfl (kO m w h2 q1 a1 a2 a3 a4 a5 ((f1.to (lo := p) (hi := q + 2) (by omega)).tr (lo := p) (hi := q + 2) f2 (by omega) (by omega)) (fun a h1 h2 => (f2.2 a (by omega)).trans (f1.2 a (by omega))) (t1.fr f2 (by omega)) hB2)
    · exact absurd hy (nI_ne_neg (by omega))
theorem s_X0_readLong {c : Nat} {lo9 hi9 : Int32} (hB : BatAt h q p n rs) (hT : TextAt h p bs len kd st bh 0 0) (hP : PoolsAt h a np qu ra re le ln) (hA : Γ.2.1 ≤ p) (hpq : p + 2 ≤ q) (hqa : q + 2 ≤ a) (hl : len ≤ 500) (hb : bh ≤ len) (hn : np ≤ 8) (hln : ∀ j, j < np → ∃ m, ln j = nI m ∧ m ≤ 6) (hn9 : n < 100)
    (kF : ∀ e pos h', lngR np le ln bs len bh lo9 hi9 = .inl (e, pos) → ax_fr p (p + 2) h h' → TxF h' p bs len e pos → Q (.inl (some (.int 0))) h')
    (kO : ∀ m i j u w h', lngR np le ln bs len bh lo9 hi9 = .inr (nI m, i, j, nI u, w) → 1 ≤ m → m ≤ 200 → i < np → j < np → u ≤ 10000 → lo9 ≤ nI u → nI u ≤ hi9 → bh < w → w ≤ len → ax_fr p (q + 2) h h' → (∀ a, p + 2 ≤ a → a < q → h'.2 a = h.2 a) → TxG h' p bs len w → BatAt h' q p (n + 1) (upd5 rs n (nI c) (nI m) (nI i) (nI j) (nI u)) → Q (.inl (some (.int (nI 1)))) h') : WP Γ MX0_readLong (3, 84, 0, 0) 0 [some (.ref q), some (.int (nI c)), some (.ref a), some (.int lo9), some (.int hi9), none, none, none, none] [] h Q := by
  have hO := hB.1
  have hT1 := hT.1
  refine wp_aload_n (n := 1) dX0_readLong_0 rfl rfl ?_
  refine wp_getf (n := 4) dX0_readLong_1 rfl flX0_19 (by repeat first | assumption | exact ax_set_self _ _ _ | exact ax_newA_self _ _ _ | refine (ax_set_ne _ _ (by omega)).trans ?_ | refine (ax_newA_ne _ _ _ (by omega)).trans ?_) (by rfl) ?_
  refine wp_iconst (n := 5) (v := nI 1) dX0_readLong_4 rfl (by decide) ?_
  refine wp_sipush (n := 8) (v := nI 200) dX0_readLong_5 rfl (by decide) ?_
  refine wp_callV2 (n := 11) (rm' := (1, 60, 0, 0)) rfl dX0_readLong_8 rfl mlX0_70 (by repeat first | assumption | exact ax_set_self _ _ _ | exact ax_newA_self _ _ _ | refine (ax_set_ne _ _ (by omega)).trans ?_ | refine (ax_newA_ne _ _ _ (by omega)).trans ?_) rfl rfl rfl rfl rfl ?_
  refine s_rdN hT hA hl hb (fun e pos h1 q1 f1 t1 => ?_) (fun m w1 h1 q1 a1 a2 a3 a4 a5 f1 t1 => ?_)
  · show WP Γ _ _ _ _ _ _ _
    refine wp_istore (n := 13) dX0_readLong_11 rfl rfl rfl rfl ?_
    refine wp_iload (n := 15) dX0_readLong_13 rfl rfl ?_
    refine wp_iconst (n := 16) (v := (-1)) dX0_readLong_15 rfl (by decide) ?_
    refine wp_icmp_ne (t := 21) (n := 19) dX0_readLong_16 (by decide) rfl (fun hy => ?_) (fun hy => ?_)
    · exact absurd rfl hy
    · refine wp_iconst (n := 20) (v := 0) dX0_readLong_19 rfl (by decide) ?_
      exact wp_ireturn dX0_readLong_20 rfl rfl (kF e pos h1 (mrR_l q1) f1 t1)
  · show WP Γ _ _ _ _ _ _ _
    have m1 : 1 ≤ m := (nI_le9 (by omega) (by omega)).mp a4
    have m2 : m ≤ 200 := (nI_le9 (by omega) (by omega)).mp a5
    obtain ⟨kd1, st1, t1⟩ := t1
    have hB1 := hB.fr f1 (by omega)
    have hP1 := hP.fr f1 (by omega)
    have hO := hB1.1
    refine wp_istore (n := 13) dX0_readLong_11 rfl rfl rfl rfl ?_
    refine wp_iload (n := 15) dX0_readLong_13 rfl rfl ?_
    refine wp_iconst (n := 16) (v := (-1)) dX0_readLong_15 rfl (by decide) ?_
    refine wp_icmp_ne (t := 21) (n := 19) dX0_readLong_16 (by decide) rfl (fun hy => ?_) (fun hy => ?_)
    · refine wp_aload_n (n := 22) dX0_readLong_21 rfl rfl ?_
      refine wp_iconst (n := 23) (v := (-1)) dX0_readLong_22 rfl (by decide) ?_
      refine wp_aload_n (n := 24) dX0_readLong_23 rfl rfl ?_
      refine wp_callV2 (n := 27) (rm' := (2, 48, 0, 0)) rfl dX0_readLong_24 rfl mlX0_74 (by repeat first | assumption | exact ax_set_self _ _ _ | exact ax_newA_self _ _ _ | refine (ax_set_ne _ _ (by omega)).trans ?_ | refine (ax_newA_ne _ _ _ (by omega)).trans ?_) rfl rfl rfl rfl rfl ?_
      refine s_X0_readPoolOtherThan hB1 t1 hP1 hA hpq hqa hl a3 hn hln (fun e pos h2 q2 f2 t2 => ?_) (fun i w2 h2 q2 b1 b2 b3 f2 t2 => ?_)
      · show WP Γ _ _ _ _ _ _ _
        refine wp_istore (n := 29) dX0_readLong_27 rfl rfl rfl rfl ?_
        refine wp_iload (n := 31) dX0_readLong_29 rfl rfl ?_
        refine wp_iconst (n := 32) (v := (-1)) dX0_readLong_31 rfl (by decide) ?_
        refine wp_icmp_ne (t := 37) (n := 35) dX0_readLong_32 (by decide) rfl (fun hz => ?_) (fun hz => ?_)
        · exact absurd rfl hz
        · refine wp_iconst (n := 36) (v := 0) dX0_readLong_35 rfl (by decide) ?_
          exact wp_ireturn dX0_readLong_36 rfl rfl (kF e pos h2 ((mrR_r q1).trans (mrR_l q2)) (f1.tr (lo := p) (hi := p + 2) f2 (by omega) (by omega)) t2)
      · show WP Γ _ _ _ _ _ _ _
        obtain ⟨kd2, st2, t2⟩ := t2
        have f12 := f1.tr (lo := p) (hi := p + 2) f2 (by omega) (by omega)
        have hB2 := hB1.fr f2 (by omega)
        have hP2 := hP1.fr f2 (by omega)
        have hO := hB2.1
        refine wp_istore (n := 29) dX0_readLong_27 rfl rfl rfl rfl ?_
        refine wp_iload (n := 31) dX0_readLong_29 rfl rfl ?_
        refine wp_iconst (n := 32) (v := (-1)) dX0_readLong_31 rfl (by decide) ?_
        refine wp_icmp_ne (t := 37) (n := 35) dX0_readLong_32 (by decide) rfl (fun hz => ?_) (fun hz => ?_)
        · refine wp_aload_n (n := 38) dX0_readLong_37 rfl rfl ?_
          refine wp_iload (n := 40) dX0_readLong_38 rfl rfl ?_
          refine wp_aload_n (n := 41) dX0_readLong_40 rfl rfl ?_
          refine wp_callV2 (n := 44) (rm' := (2, 48, 0, 0)) rfl dX0_readLong_41 rfl mlX0_74 (by repeat first | assumption | exact ax_set_self _ _ _ | exact ax_newA_self _ _ _ | refine (ax_set_ne _ _ (by omega)).trans ?_ | refine (ax_newA_ne _ _ _ (by omega)).trans ?_) rfl rfl rfl rfl rfl ?_
          refine s_X0_readPoolOtherThan hB2 t2 hP2 hA hpq hqa hl b3 hn hln (fun e pos h3 q3 f3 t3 => ?_) (fun j w3 h3 q3 c1 c2 c3 f3 t3 => ?_)
          · show WP Γ _ _ _ _ _ _ _
            refine wp_istore (n := 46) dX0_readLong_44 rfl rfl rfl rfl ?_
            refine wp_iload (n := 48) dX0_readLong_46 rfl rfl ?_
            refine wp_iconst (n := 49) (v := (-1)) dX0_readLong_48 rfl (by decide) ?_
            refine wp_icmp_ne (t := 54) (n := 52) dX0_readLong_49 (by decide) rfl (fun hx => ?_) (fun hx => ?_)
            · exact absurd rfl hx
            · refine wp_iconst (n := 53) (v := 0) dX0_readLong_52 rfl (by decide) ?_
              exact wp_ireturn dX0_readLong_53 rfl rfl (kF e pos h3 ((mrR_r q1).trans ((mrR_r q2).trans (mrR_l q3))) (f12.tr (lo := p) (hi := p + 2) f3 (by omega) (by omega)) t3)
          · show WP Γ _ _ _ _ _ _ _
            obtain ⟨kd3, st3, t3⟩ := t3
            have f13 := f12.tr (lo := p) (hi := p + 2) f3 (by omega) (by omega)
            have hB3 := hB2.fr f3 (by omega)
            have hO := hB3.1
            have hT3 := t3.1
            refine wp_istore (n := 46) dX0_readLong_44 rfl rfl rfl rfl ?_
            refine wp_iload (n := 48) dX0_readLong_46 rfl rfl ?_
            refine wp_iconst (n := 49) (v := (-1)) dX0_readLong_48 rfl (by decide) ?_
            refine wp_icmp_ne (t := 54) (n := 52) dX0_readLong_49 (by decide) rfl (fun hx => ?_) (fun hx => ?_)
            · refine wp_aload_n (n := 55) dX0_readLong_54 rfl rfl ?_
              refine wp_getf (n := 58) dX0_readLong_55 rfl flX0_19 (by repeat first | assumption | exact ax_set_self _ _ _ | exact ax_newA_self _ _ _ | refine (ax_set_ne _ _ (by omega)).trans ?_ | refine (ax_newA_ne _ _ _ (by omega)).trans ?_) (by rfl) ?_
              refine wp_iload_n (n := 59) dX0_readLong_58 rfl rfl ?_
              refine wp_iload (n := 61) dX0_readLong_59 rfl rfl ?_
              refine wp_callV2 (n := 64) (rm' := (1, 60, 0, 0)) rfl dX0_readLong_61 rfl mlX0_70 (by repeat first | assumption | exact ax_set_self _ _ _ | exact ax_newA_self _ _ _ | refine (ax_set_ne _ _ (by omega)).trans ?_ | refine (ax_newA_ne _ _ _ (by omega)).trans ?_) rfl rfl rfl rfl rfl ?_
              refine s_rdN t3 hA hl c3 (fun e pos h4 q4 f4 t4 => ?_) (fun u w4 h4 q4 d1 d2 d3 d4 d5 f4 t4 => ?_)
              · show WP Γ _ _ _ _ _ _ _
                refine wp_istore (n := 66) dX0_readLong_64 rfl rfl rfl rfl ?_
                refine wp_iload (n := 68) dX0_readLong_66 rfl rfl ?_
                refine wp_iconst (n := 69) (v := (-1)) dX0_readLong_68 rfl (by decide) ?_
                refine wp_icmp_ne (t := 74) (n := 72) dX0_readLong_69 (by decide) rfl (fun hw => ?_) (fun hw => ?_)
                · exact absurd rfl hw
                · refine wp_iconst (n := 73) (v := 0) dX0_readLong_72 rfl (by decide) ?_
                  exact wp_ireturn dX0_readLong_73 rfl rfl (kF e pos h4 ((mrR_r q1).trans ((mrR_r q2).trans ((mrR_r q3).trans (mrR_l q4)))) (f13.tr (lo := p) (hi := p + 2) f4 (by omega) (by omega)) t4)
              · show WP Γ _ _ _ _ _ _ _
                have hB4 := hB3.fr f4 (by omega)
                have hO := hB4.1
                refine wp_istore (n := 66) dX0_readLong_64 rfl rfl rfl rfl ?_
                refine wp_iload (n := 68) dX0_readLong_66 rfl rfl ?_
                refine wp_iconst (n := 69) (v := (-1)) dX0_readLong_68 rfl (by decide) ?_
                refine wp_icmp_ne (t := 74) (n := 72) dX0_readLong_69 (by decide) rfl (fun hw => ?_) (fun hw => ?_)
                · refine wp_aload_n (n := 75) dX0_readLong_74 rfl rfl ?_
                  refine wp_iload_n (n := 76) dX0_readLong_75 rfl rfl ?_
                  refine wp_iload (n := 78) dX0_readLong_76 rfl rfl ?_
                  refine wp_iload (n := 80) dX0_readLong_78 rfl rfl ?_
                  refine wp_iload (n := 82) dX0_readLong_80 rfl rfl ?_
                  refine wp_iload (n := 84) dX0_readLong_82 rfl rfl ?_
                  refine wp_callV5 (n := 87) (rm' := (0, 0, 0, 0)) rfl dX0_readLong_84 rfl mlX0_78 (by repeat first | assumption | exact ax_set_self _ _ _ | exact ax_newA_self _ _ _ | refine (ax_set_ne _ _ (by omega)).trans ?_ | refine (ax_newA_ne _ _ _ (by omega)).trans ?_) rfl rfl rfl rfl rfl ?_
                  refine s_X0_addRow hB4 (by omega) hn9 (fun h5 f5 hB5 => ?_)
                  show WP Γ _ _ _ _ _ _ _
                  refine wp_iconst (n := 88) (v := nI 1) dX0_readLong_87 rfl (by decide) ?_
                  exact wp_ireturn dX0_readLong_88 rfl rfl (kO m i j u w4 h5 ((mrR_r q1).trans ((mrR_r q2).trans ((mrR_r q3).trans (mrR_r q4)))) m1 m2 b1 c1 d1 d4 d5 (by omega) d3 (((f13.tr (lo := p) (hi := p + 2) f4 (by omega) (by omega)).to (lo := p) (hi := q + 2) (by omega)).tr (lo := p) (hi := q + 2) f5 (by omega) (by omega)) (fun a h1 h2 => (f5.2 a (by omega)).trans ((f4.2 a (by omega)).trans (f13.2 a (by omega)))) (t4.fr f5 (by omega)) hB5)
                · exact absurd hw (nI_ne_neg (by omega))
            · exact absurd hx (nI_ne_neg (by omega))
        · exact absurd hz (nI_ne_neg (by omega))
    · exact absurd hy (nI_ne_neg (by omega))
end
