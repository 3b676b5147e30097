/-! ===== BatchReader: commands, the whole batch ===== -/
theorem wrdB_len {bs : FI} {s l : Nat} {w : List Int32} (h : wrdB bs s l w = true) : l = w.length := (of_decide_eq_true h).1
section
variable {Γ : GE} {h : AH} {Q : PO} {q p len st bh a np n : Nat} {bs rs : FI} {kd x : Int32} {qu ra le ln : FI} {re : Nat → UInt32}
theorem s_X0_readCommand (hB : BatAt h q p n rs) (hT : TextAt h p bs len kd st bh 0 0) (hP : PoolsAt h a np qu ra re le ln) (hA : Γ.2.1 ≤ p) (hpq : p + 2 ≤ q) (hqa : q + 2 ≤ a) (hl : len ≤ 500) (hb : bh ≤ len) (hn : np ≤ 8) (hln : ∀ j, j < np → ∃ m, ln j = nI m ∧ m ≤ 6) (hn9 : n < 100)
    (kF : ∀ e pos h', comR np le ln bs len bh = .inl (e, pos) → ax_fr p (p + 2) h h' → TxF h' p bs len e pos → Q (.inl (some (.int 0))) h')
    (kO : ∀ c v f t l w h', comR np le ln bs len bh = .inr (c, v, f, t, l, w) → VC np c v f t l → bh + 5 ≤ w → w ≤ len → ax_fr p (q + 2) h h' → (∀ a, p + 2 ≤ a → a < q → h'.2 a = h.2 a) → TxG h' p bs len w → BatAt h' q p (n + 1) (upd5 rs n (nI c) v f t l) → Q (.inl (some (.int (nI 1)))) h') : WP Γ MX0_readCommand (5, 112, 0, 0) 0 [some (.ref q), some (.ref a)] [] h Q := by
  have hO := hB.1
  have hT1 := hT.1
  refine wp_aload_n (n := 1) dX0_readCommand_0 rfl rfl ?_
  refine wp_getf (n := 4) dX0_readCommand_1 rfl flX0_19 (by repeat first | assumption | exact ax_set_self _ _ _ | exact ax_newA_self _ _ _ | refine (ax_set_ne _ _ (by omega)).trans ?_ | refine (ax_newA_ne _ _ _ (by omega)).trans ?_) (by rfl) ?_
  refine wp_callV0 (n := 7) (rm' := (1, 21, 0, 0)) rfl dX0_readCommand_4 rfl mlX0_43 (by repeat first | assumption | exact ax_set_self _ _ _ | exact ax_newA_self _ _ _ | refine (ax_set_ne _ _ (by omega)).trans ?_ | refine (ax_newA_ne _ _ _ (by omega)).trans ?_) rfl rfl rfl rfl rfl ?_
  refine s_rdW hT hA hl hb (fun e pos h1 q1 f1 t1 => ?_) (fun s w h1 q1 l1 l2 l3 l4 f1 t1 => ?_)
  · show WP Γ _ _ _ _ _ _ _
    refine wp_if_ne (t := 12) (n := 10) dX0_readCommand_7 (by decide) rfl (fun hq => ?_) (fun hq => ?_)
    · exact absurd rfl hq
    · refine wp_iconst (n := 11) (v := 0) dX0_readCommand_10 rfl (by decide) ?_
      exact wp_ireturn dX0_readCommand_11 rfl rfl (kF e pos h1 (mrR_l q1) f1 t1)
  · show WP Γ _ _ _ _ _ _ _
    have hB1 := hB.fr f1 (by omega)
    have hP1 := hP.fr f1 (by omega)
    have hO := hB1.1
    have hT1 := t1.1
    have fA := f1.to (lo := p) (hi := q + 2) (by omega)
    have eR : comR np le ln bs len bh = _ := mrR_r q1
    refine wp_if_ne (t := 12) (n := 10) dX0_readCommand_7 (by decide) rfl (fun hq => ?_) (fun hq => ?_)
    · refine wp_aload_n (n := 13) dX0_readCommand_12 rfl rfl ?_
      refine wp_getf (n := 16) dX0_readCommand_13 rfl flX0_19 (by repeat first | assumption | exact ax_set_self _ _ _ | exact ax_newA_self _ _ _ | refine (ax_set_ne _ _ (by omega)).trans ?_ | refine (ax_newA_ne _ _ _ (by omega)).trans ?_) (by rfl) ?_
      refine wp_ldcS (n := 18) 9 dX0_readCommand_16 rfl rfl ?_
      refine wp_callV1 (n := 21) (rm' := (4, 85, 0, 0)) rfl dX0_readCommand_18 rfl mlX0_48 (by repeat first | assumption | exact ax_set_self _ _ _ | exact ax_newA_self _ _ _ | refine (ax_set_ne _ _ (by omega)).trans ?_ | refine (ax_newA_ne _ _ _ (by omega)).trans ?_) rfl rfl rfl rfl rfl ?_
      refine s_isW 9 w_move rfl rfl rfl (by decide) t1 (by omega) hl l3 ?_
      show WP Γ _ _ _ _ _ _ _
      refine wp_if_eq (t := 34) (n := 24) dX0_readCommand_21 (by decide) rfl (fun ha => ?_) (fun ha => ?_)
      · have ha := bI_eq ha
        refine wp_aload_n (n := 35) dX0_readCommand_34 rfl rfl ?_
        refine wp_getf (n := 38) dX0_readCommand_35 rfl flX0_19 (by repeat first | assumption | exact ax_set_self _ _ _ | exact ax_newA_self _ _ _ | refine (ax_set_ne _ _ (by omega)).trans ?_ | refine (ax_newA_ne _ _ _ (by omega)).trans ?_) (by rfl) ?_
        refine wp_ldcS (n := 40) 10 dX0_readCommand_38 rfl rfl ?_
        refine wp_callV1 (n := 43) (rm' := (4, 85, 0, 0)) rfl dX0_readCommand_40 rfl mlX0_48 (by repeat first | assumption | exact ax_set_self _ _ _ | exact ax_newA_self _ _ _ | refine (ax_set_ne _ _ (by omega)).trans ?_ | refine (ax_newA_ne _ _ _ (by omega)).trans ?_) rfl rfl rfl rfl rfl ?_
        refine s_isW 10 w_hold rfl rfl rfl (by decide) t1 (by omega) hl l3 ?_
        show WP Γ _ _ _ _ _ _ _
        refine wp_if_eq (t := 57) (n := 46) dX0_readCommand_43 (by decide) rfl (fun hb1 => ?_) (fun hb1 => ?_)
        · have hb1 := bI_eq hb1
          refine wp_aload_n (n := 58) dX0_readCommand_57 rfl rfl ?_
          refine wp_getf (n := 61) dX0_readCommand_58 rfl flX0_19 (by repeat first | assumption | exact ax_set_self _ _ _ | exact ax_newA_self _ _ _ | refine (ax_set_ne _ _ (by omega)).trans ?_ | refine (ax_newA_ne _ _ _ (by omega)).trans ?_) (by rfl) ?_
          refine wp_ldcS (n := 63) 11 dX0_readCommand_61 rfl rfl ?_
          refine wp_callV1 (n := 66) (rm' := (4, 85, 0, 0)) rfl dX0_readCommand_63 rfl mlX0_48 (by repeat first | assumption | exact ax_set_self _ _ _ | exact ax_newA_self _ _ _ | refine (ax_set_ne _ _ (by omega)).trans ?_ | refine (ax_newA_ne _ _ _ (by omega)).trans ?_) rfl rfl rfl rfl rfl ?_
          refine s_isW 11 w_wait rfl rfl rfl (by decide) t1 (by omega) hl l3 ?_
          show WP Γ _ _ _ _ _ _ _
          refine wp_if_eq (t := 79) (n := 69) dX0_readCommand_66 (by decide) rfl (fun hc1 => ?_) (fun hc1 => ?_)
          · have hc1 := bI_eq hc1
            refine wp_aload_n (n := 80) dX0_readCommand_79 rfl rfl ?_
            refine wp_getf (n := 83) dX0_readCommand_80 rfl flX0_19 (by repeat first | assumption | exact ax_set_self _ _ _ | exact ax_newA_self _ _ _ | refine (ax_set_ne _ _ (by omega)).trans ?_ | refine (ax_newA_ne _ _ _ (by omega)).trans ?_) (by rfl) ?_
            refine wp_ldcS (n := 85) 12 dX0_readCommand_83 rfl rfl ?_
            refine wp_callV1 (n := 88) (rm' := (4, 85, 0, 0)) rfl dX0_readCommand_85 rfl mlX0_48 (by repeat first | assumption | exact ax_set_self _ _ _ | exact ax_newA_self _ _ _ | refine (ax_set_ne _ _ (by omega)).trans ?_ | refine (ax_newA_ne _ _ _ (by omega)).trans ?_) rfl rfl rfl rfl rfl ?_
            refine s_isW 12 w_back rfl rfl rfl (by decide) t1 (by omega) hl l3 ?_
            show WP Γ _ _ _ _ _ _ _
            refine wp_if_eq (t := 101) (n := 91) dX0_readCommand_88 (by decide) rfl (fun hd1 => ?_) (fun hd1 => ?_)
            · have hd1 := bI_eq hd1
              simp only [ha, hb1, hc1, hd1, Bool.false_eq_true, if_false] at eR
              refine wp_aload_n (n := 102) dX0_readCommand_101 rfl rfl ?_
              refine wp_getf (n := 105) dX0_readCommand_102 rfl flX0_19 (by repeat first | assumption | exact ax_set_self _ _ _ | exact ax_newA_self _ _ _ | refine (ax_set_ne _ _ (by omega)).trans ?_ | refine (ax_newA_ne _ _ _ (by omega)).trans ?_) (by rfl) ?_
              refine wp_iconst (n := 106) (v := nI 1) dX0_readCommand_105 rfl (by decide) ?_
              refine wp_callV1 (n := 109) (rm' := (0, 0, 0, 0)) rfl dX0_readCommand_106 rfl mlX0_66 (by repeat first | assumption | exact ax_set_self _ _ _ | exact ax_newA_self _ _ _ | refine (ax_set_ne _ _ (by omega)).trans ?_ | refine (ax_newA_ne _ _ _ (by omega)).trans ?_) rfl rfl rfl rfl rfl ?_
              refine s_X8_fail t1 hA (fun h2 f2 t2 => ?_)
              show WP Γ _ _ _ _ _ _ _
              exact wp_ireturn dX0_readCommand_109 rfl rfl (kF _ _ h2 eR (f1.tr (lo := p) (hi := p + 2) f2 (by omega) (by omega)) ⟨_, _, _, t2⟩)
            · have hd1 := bI_ne hd1
              have hlen : w - s = 4 := wrdB_len hd1
              simp only [ha, hb1, hc1, hd1, Bool.false_eq_true, if_false, if_true] at eR
              refine wp_aload_n (n := 92) dX0_readCommand_91 rfl rfl ?_
              refine wp_iconst (n := 93) (v := nI 3) dX0_readCommand_92 rfl (by decide) ?_
              refine wp_iconst (n := 94) (v := 0) dX0_readCommand_93 rfl (by decide) ?_
              refine wp_sipush (n := 97) (v := nI 299) dX0_readCommand_94 rfl (by decide) ?_
              refine wp_callV3 (n := 100) (rm' := (2, 84, 0, 0)) rfl dX0_readCommand_97 rfl mlX0_60 (by repeat first | assumption | exact ax_set_self _ _ _ | exact ax_newA_self _ _ _ | refine (ax_set_ne _ _ (by omega)).trans ?_ | refine (ax_newA_ne _ _ _ (by omega)).trans ?_) rfl rfl rfl rfl rfl ?_
              refine s_X0_readShort (c := 3) hB1 t1 hA hpq hl l3 hn9 (fun e pos h2 q2 f2 t2 => ?_) (fun m w2 h2 q2 d1 d2 d3 d4 d5 f2 g2 t2 hB2 => ?_)
              · show WP Γ _ _ _ _ _ _ _
                exact wp_ireturn dX0_readCommand_100 rfl rfl (kF e pos h2 (eR.trans (mrR_l q2)) (f1.tr (lo := p) (hi := p + 2) f2 (by omega) (by omega)) t2)
              · show WP Γ _ _ _ _ _ _ _
                exact wp_ireturn dX0_readCommand_100 rfl rfl (kO 3 _ _ _ _ w2 h2 (eR.trans (mrR_r q2)) (Or.inr (Or.inr (Or.inr ⟨rfl, m, rfl, (nI_le9 (by omega) (by omega)).mp d5⟩))) (by omega) d3 (fA.tr (lo := p) (hi := q + 2) f2 (by omega) (by omega)) (fun a h1 h2 => (g2 a h1 h2).trans (f1.2 a (by omega))) t2 hB2)
          · have hc1 := bI_ne hc1
            have hlen : w - s = 4 := wrdB_len hc1
            simp only [ha, hb1, hc1, Bool.false_eq_true, if_false, if_true] at eR
            refine wp_aload_n (n := 70) dX0_readCommand_69 rfl rfl ?_
            refine wp_iconst (n := 71) (v := nI 2) dX0_readCommand_70 rfl (by decide) ?_
            refine wp_iconst (n := 72) (v := nI 1) dX0_readCommand_71 rfl (by decide) ?_
            refine wp_sipush (n := 75) (v := nI 1000) dX0_readCommand_72 rfl (by decide) ?_
            refine wp_callV3 (n := 78) (rm' := (2, 84, 0, 0)) rfl dX0_readCommand_75 rfl mlX0_60 (by repeat first | assumption | exact ax_set_self _ _ _ | exact ax_newA_self _ _ _ | refine (ax_set_ne _ _ (by omega)).trans ?_ | refine (ax_newA_ne _ _ _ (by omega)).trans ?_) rfl rfl rfl rfl rfl ?_
            refine s_X0_readShort (c := 2) hB1 t1 hA hpq hl l3 hn9 (fun e pos h2 q2 f2 t2 => ?_) (fun m w2 h2 q2 d1 d2 d3 d4 d5 f2 g2 t2 hB2 => ?_)
            · show WP Γ _ _ _ _ _ _ _
              exact wp_ireturn dX0_readCommand_78 rfl rfl (kF e pos h2 (eR.trans (mrR_l q2)) (f1.tr (lo := p) (hi := p + 2) f2 (by omega) (by omega)) t2)
            · show WP Γ _ _ _ _ _ _ _
              exact wp_ireturn dX0_readCommand_78 rfl rfl (kO 2 _ _ _ _ w2 h2 (eR.trans (mrR_r q2)) (Or.inr (Or.inr (Or.inl ⟨rfl, m, rfl, (nI_le9 (by omega) (by omega)).mp d4, (nI_le9 (by omega) (by omega)).mp d5⟩))) (by omega) d3 (fA.tr (lo := p) (hi := q + 2) f2 (by omega) (by omega)) (fun a h1 h2 => (g2 a h1 h2).trans (f1.2 a (by omega))) t2 hB2)
        · have hb1 := bI_ne hb1
          have hlen : w - s = 4 := wrdB_len hb1
          simp only [ha, hb1, Bool.false_eq_true, if_false, if_true] at eR
          refine wp_aload_n (n := 47) dX0_readCommand_46 rfl rfl ?_
          refine wp_iconst (n := 48) (v := nI 1) dX0_readCommand_47 rfl (by decide) ?_
          refine wp_aload_n (n := 49) dX0_readCommand_48 rfl rfl ?_
          refine wp_iconst (n := 50) (v := nI 1) dX0_readCommand_49 rfl (by decide) ?_
          refine wp_sipush (n := 53) (v := nI 1000) dX0_readCommand_50 rfl (by decide) ?_
          refine wp_callV4 (n := 56) (rm' := (3, 84, 0, 0)) rfl dX0_readCommand_53 rfl mlX0_52 (by repeat first | assumption | exact ax_set_self _ _ _ | exact ax_newA_self _ _ _ | refine (ax_set_ne _ _ (by omega)).trans ?_ | refine (ax_newA_ne _ _ _ (by omega)).trans ?_) rfl rfl rfl rfl rfl ?_
          refine s_X0_readLong (c := 1) hB1 t1 hP1 hA hpq hqa hl l3 hn hln hn9 (fun e pos h2 q2 f2 t2 => ?_) (fun m i j u w2 h2 q2 d1 d2 d3 d4 d5 d6 d7 d8 d9 f2 g2 t2 hB2 => ?_)
          · show WP Γ _ _ _ _ _ _ _
            exact wp_ireturn dX0_readCommand_56 rfl rfl (kF e pos h2 (eR.trans (mrR_l q2)) (f1.tr (lo := p) (hi := p + 2) f2 (by omega) (by omega)) t2)
          · show WP Γ _ _ _ _ _ _ _
            exact wp_ireturn dX0_readCommand_56 rfl rfl (kO 1 _ _ _ _ w2 h2 (eR.trans (mrR_r q2)) (Or.inr (Or.inl ⟨rfl, m, i, j, u, rfl, d1, d2, rfl, rfl, d3, d4, rfl, (nI_le9 (by omega) (by omega)).mp d6, (nI_le9 (by omega) (by omega)).mp d7⟩)) (by omega) d9 (fA.tr (lo := p) (hi := q + 2) f2 (by omega) (by omega)) (fun a h1 h2 => (g2 a h1 h2).trans (f1.2 a (by omega))) t2 hB2)
      · have ha := bI_ne ha
        have hlen : w - s = 4 := wrdB_len ha
        simp only [ha, if_true] at eR
        refine wp_aload_n (n := 25) dX0_readCommand_24 rfl rfl ?_
        refine wp_iconst (n := 26) (v := 0) dX0_readCommand_25 rfl (by decide) ?_
        refine wp_aload_n (n := 27) dX0_readCommand_26 rfl rfl ?_
        refine wp_iconst (n := 28) (v := 0) dX0_readCommand_27 rfl (by decide) ?_
        refine wp_bipush (n := 30) (v := nI 9) dX0_readCommand_28 rfl (by decide) ?_
        refine wp_callV4 (n := 33) (rm' := (3, 84, 0, 0)) rfl dX0_readCommand_30 rfl mlX0_52 (by repeat first | assumption | exact ax_set_self _ _ _ | exact ax_newA_self _ _ _ | refine (ax_set_ne _ _ (by omega)).trans ?_ | refine (ax_newA_ne _ _ _ (by omega)).trans ?_) rfl rfl rfl rfl rfl ?_
        refine s_X0_readLong (c := 0) hB1 t1 hP1 hA hpq hqa hl l3 hn hln hn9 (fun e pos h2 q2 f2 t2 => ?_) (fun m i j u w2 h2 q2 d1 d2 d3 d4 d5 d6 d7 d8 d9 f2 g2 t2 hB2 => ?_)
        · show WP Γ _ _ _ _ _ _ _
          exact wp_ireturn dX0_readCommand_33 rfl rfl (kF e pos h2 (eR.trans (mrR_l q2)) (f1.tr (lo := p) (hi := p + 2) f2 (by omega) (by omega)) t2)
        · show WP Γ _ _ _ _ _ _ _
          exact wp_ireturn dX0_readCommand_33 rfl rfl (kO 0 _ _ _ _ w2 h2 (eR.trans (mrR_r q2)) (Or.inl ⟨rfl, m, i, j, rfl, d1, d2, rfl, rfl, d3, d4, decide_eq_true ⟨d6, d7⟩⟩) (by omega) d9 (fA.tr (lo := p) (hi := q + 2) f2 (by omega) (by omega)) (fun a h1 h2 => (g2 a h1 h2).trans (f1.2 a (by omega))) t2 hB2)
    · exact absurd hq (by decide)
/-- the commands from b on -/
def batG (np : Nat) (le ln bs : FI) (len : Nat) : Nat → FI → Nat → Nat → (Int32 × Nat) ⊕ (FI × Nat)
  | 0, _, _, _ => .inl (0, 0)
  | g + 1, rs, n, b => if tK bs len b = 3 then mrR (comR np le ln bs len (tB bs len b)) fun x => batG np le ln bs len g (upd5 rs n (nI x.1) x.2.1 x.2.2.1 x.2.2.2.1 x.2.2.2.2.1) (n + 1) x.2.2.2.2.2 else if tK bs len b = 0 then .inr (rs, n) else .inl (nI 1, tS bs len b)
def batT (np : Nat) (le ln bs : FI) (len : Nat) (rs : FI) : (Int32 × Nat) ⊕ (FI × Nat) := mrR (comR np le ln bs len 0) fun x => batG np le ln bs len (len + 1) (upd5 rs 0 (nI x.1) x.2.1 x.2.2.1 x.2.2.2.1 x.2.2.2.2.1) 1 x.2.2.2.2.2
/-- all commands are as they should be -/
def VR (np : Nat) (rs : FI) (n : Nat) : Prop := ∀ i, i < n → ∃ c, rs (i * 5 + 0) = nI c ∧ VC np c (rs (i * 5 + 1)) (rs (i * 5 + 2)) (rs (i * 5 + 3)) (rs (i * 5 + 4))
theorem upd5_at (rs : FI) (r : Nat) (a b c d e : Int32) : upd5 rs r a b c d e (r * 5 + 0) = a ∧ upd5 rs r a b c d e (r * 5 + 1) = b ∧ upd5 rs r a b c d e (r * 5 + 2) = c ∧ upd5 rs r a b c d e (r * 5 + 3) = d ∧ upd5 rs r a b c d e (r * 5 + 4) = e := by
  simp [upd5, upd]
theorem upd5_lt (rs : FI) {r : Nat} (a b c d e : Int32) {i : Nat} (h : i < r * 5) : upd5 rs r a b c d e i = rs i := by
  simp only [upd5, upd]
  repeat rw [if_neg (by omega)]
theorem VR.add {rs : FI} {c : Nat} {v f t l : Int32} (h : VR np rs n) (hv : VC np c v f t l) : VR np (upd5 rs n (nI c) v f t l) (n + 1) := by
  intro i hi
  by_cases e : i = n
  · subst e
    obtain ⟨e0, e1, e2, e3, e4⟩ := upd5_at rs i (nI c) v f t l
    exact ⟨c, e0, by rw [e1, e2, e3, e4]; exact hv⟩
  · obtain ⟨c', g1, g2⟩ := h i (by omega)
    refine ⟨c', by rw [upd5_lt _ _ _ _ _ _ (by omega)]; exact g1, ?_⟩
    rw [upd5_lt _ _ _ _ _ _ (by omega), upd5_lt _ _ _ _ _ _ (by omega), upd5_lt _ _ _ _ _ _ (by omega), upd5_lt _ _ _ _ _ _ (by omega)]
    exact g2
theorem s_X0_read {er ea : Int32} (hB : BatAt h q p n rs) (hT : TextAt h p bs len kd st bh er ea) (hP : PoolsAt h a np qu ra re le ln) (hA : Γ.2.1 ≤ p) (hpq : p + 2 ≤ q) (hqa : q + 2 ≤ a) (hl : len ≤ 500) (hn : np ≤ 8) (hln : ∀ j, j < np → ∃ m, ln j = nI m ∧ m ≤ 6)
    (kF : ∀ e pos h' n' rs', batT np le ln bs len rs = .inl (e, pos) → ax_fr p (q + 2) h h' → (∀ a, p + 2 ≤ a → a < q → h'.2 a = h.2 a) → TxF h' p bs len e pos → BatAt h' q p n' rs' → Q (.inl (some (.int 0))) h')
    (kO : ∀ n' rs' w h', batT np le ln bs len rs = .inr (rs', n') → VR np rs' n' → n' ≤ 100 → ax_fr p (q + 2) h h' → (∀ a, p + 2 ≤ a → a < q → h'.2 a = h.2 a) → TxG h' p bs len w → BatAt h' q p n' rs' → Q (.inl (some (.int (nI 1)))) h') : WP Γ MX0_read (6, 133, 0, 0) 0 [some (.ref q), some (.ref a), none] [] h Q := by
  have hO := hB.1
  have hT1 := hT.1
  have hPO := hP.1
  refine wp_aload_n (n := 1) dX0_read_0 rfl rfl ?_
  refine wp_getf (n := 4) dX0_read_1 rfl flX0_19 (by repeat first | assumption | exact ax_set_self _ _ _ | exact ax_newA_self _ _ _ | refine (ax_set_ne _ _ (by omega)).trans ?_ | refine (ax_newA_ne _ _ _ (by omega)).trans ?_) (by rfl) ?_
  refine wp_callV0 (n := 7) (rm' := (0, 0, 0, 0)) rfl dX0_read_4 rfl mlX0_23 (by repeat first | assumption | exact ax_set_self _ _ _ | exact ax_newA_self _ _ _ | refine (ax_set_ne _ _ (by omega)).trans ?_ | refine (ax_newA_ne _ _ _ (by omega)).trans ?_) rfl rfl rfl rfl rfl ?_
  refine s_X8_rewind hT hA (fun h1 f1 t1 => ?_)
  show WP Γ _ _ _ _ _ _ _
  have hO := f1.get hB.1 (by omega)
  refine wp_aload_n (n := 8) dX0_read_7 rfl rfl ?_
  refine wp_iconst (n := 9) (v := 0) dX0_read_8 rfl (by decide) ?_
  refine wp_putf (n := 12) dX0_read_9 rfl flX0_15 (by repeat first | assumption | exact ax_set_self _ _ _ | exact ax_newA_self _ _ _ | refine (ax_set_ne _ _ (by omega)).trans ?_ | refine (ax_newA_ne _ _ _ (by omega)).trans ?_) (by omega) (by rfl) rfl rfl ?_
  have hB2 : BatAt (ax_set h1 q (.inr (0, [.ref p, .ref (q + 1), .int 0]))) q p 0 rs := ⟨ax_set_self _ _ _, (ax_set_ne _ _ (by omega)).trans (f1.get hB.2 (by omega))⟩
  have f2 : ax_fr q (q + 1) h1 (ax_set h1 q (.inr (0, [.ref p, .ref (q + 1), .int 0]))) := ax_fr.set (by omega)
  have t2 := t1.fr f2 (by omega)
  have hP2 := (hP.fr f1 (by omega)).fr f2 (by omega)
  have f12 := (f1.to (lo := p) (hi := q + 2) (by omega)).tr (lo := p) (hi := q + 2) f2 (by omega) (by omega)
  have g12 : ∀ a, p + 2 ≤ a → a < q → (ax_set h1 q (.inr (0, [.ref p, .ref (q + 1), .int 0]))).2 a = h.2 a := fun a h1 h2 => (f2.2 a (by omega)).trans (f1.2 a (by omega))
  generalize ax_set h1 q (.inr (0, [.ref p, .ref (q + 1), .int 0])) = h2 at *
  have hO := hB2.1
  have hPO := hP2.1
  refine wp_aload_n (n := 13) dX0_read_12 rfl rfl ?_
  refine wp_aload_n (n := 14) dX0_read_13 rfl rfl ?_
  refine wp_callV1 (n := 17) (rm' := (5, 112, 0, 0)) rfl dX0_read_14 rfl mlX0_28 (by repeat first | assumption | exact ax_set_self _ _ _ | exact ax_newA_self _ _ _ | refine (ax_set_ne _ _ (by omega)).trans ?_ | refine (ax_newA_ne _ _ _ (by omega)).trans ?_) rfl rfl rfl rfl rfl ?_
  refine s_X0_readCommand hB2 t2 hP2 hA hpq hqa hl (Nat.zero_le _) hn hln (by omega) (fun e pos h3 q3 f3 t3 => ?_) (fun c v f t l w h3 q3 v3 w1 w2 f3 g3 t3 hB3 => ?_)
  · show WP Γ _ _ _ _ _ _ _
    refine wp_if_ne (t := 22) (n := 20) dX0_read_17 (by decide) rfl (fun hc => ?_) (fun hc => ?_)
    · exact absurd rfl hc
    · refine wp_iconst (n := 21) (v := 0) dX0_read_20 rfl (by decide) ?_
      exact wp_ireturn dX0_read_21 rfl rfl (kF e pos h3 _ _ (mrR_l q3) (f12.tr (lo := p) (hi := q + 2) f3 (by omega) (by omega)) (fun a h1 h2 => (f3.2 a (by omega)).trans (g12 a h1 h2)) t3 (hB2.fr f3 (by omega)))
  · show WP Γ _ _ _ _ _ _ _
    have eT : batT np le ln bs len rs = _ := mrR_r q3
    have f13 := f12.tr (lo := p) (hi := q + 2) f3 (by omega) (by omega)
    have g13 : ∀ a, p + 2 ≤ a → a < q → h3.2 a = h.2 a := fun a h1 h2 => (g3 a h1 h2).trans (g12 a h1 h2)
    have hP3 := hP2.fr f3 (by omega)
    rw [eT] at kF kO
    have L : ∀ g rd bh n rs1 h1, (∀ e pos h' n' rs', batG np le ln bs len g rs1 n bh = .inl (e, pos) → ax_fr p (q + 2) h h' → (∀ a, p + 2 ≤ a → a < q → h'.2 a = h.2 a) → TxF h' p bs len e pos → BatAt h' q p n' rs' → Q (.inl (some (.int 0))) h') → (∀ n' rs' w h', batG np le ln bs len g rs1 n bh = .inr (rs', n') → VR np rs' n' → n' ≤ 100 → ax_fr p (q + 2) h h' → (∀ a, p + 2 ≤ a → a < q → h'.2 a = h.2 a) → TxG h' p bs len w → BatAt h' q p n' rs' → Q (.inl (some (.int (nI 1)))) h') → len < g + bh → 6 * rd ≤ bh + 1 → rd = n → bh ≤ len → VR np rs1 n → ax_fr p (q + 2) h h1 → (∀ a, p + 2 ≤ a → a < q → h1.2 a = h.2 a) → TxG h1 p bs len bh → BatAt h1 q p n rs1 → PoolsAt h1 a np qu ra re le ln → WP Γ MX0_read (6, 133, 0, 0) 24 [some (.ref q), some (.ref a), some (.int (nI rd))] [] h1 Q := by
      intro g
      induction g with
      | zero => intros; omega
      | succ g ih =>
        intro rd bh n rs1 h1 kF kO i1 i2 i3 i4 i5 f1 g1 t1 hB1 hP1
        obtain ⟨kd1, st1, t1⟩ := t1
        have hO := hB1.1
        have hT1 := t1.1
        have hPO := hP1.1
        have hk := tK_le bs len bh
        obtain ⟨a1, a2⟩ := tS_le (bs := bs) i4
        obtain ⟨b1, b2⟩ := tB_le (bs := bs) i4
        unfold batG at kF kO
        refine wp_iload_n (n := 25) dX0_read_24 rfl rfl ?_
        refine wp_bipush (n := 27) (v := nI 100) dX0_read_25 rfl (by decide) ?_
        refine wp_icmp_ge (t := 56) (n := 30) dX0_read_27 (by decide) rfl (fun hc => ?_) (fun hc => ?_)
        · rw [nI_le9 (by omega) (by omega)] at hc
          exact absurd hc (by omega)
        · refine wp_aload_n (n := 31) dX0_read_30 rfl rfl ?_
          refine wp_getf (n := 34) dX0_read_31 rfl flX0_19 (by repeat first | assumption | exact ax_set_self _ _ _ | exact ax_newA_self _ _ _ | refine (ax_set_ne _ _ (by omega)).trans ?_ | refine (ax_newA_ne _ _ _ (by omega)).trans ?_) (by rfl) ?_
          refine wp_callV0 (n := 37) (rm' := (1, 20, 0, 0)) rfl dX0_read_34 rfl mlX0_32 (by repeat first | assumption | exact ax_set_self _ _ _ | exact ax_newA_self _ _ _ | refine (ax_set_ne _ _ (by omega)).trans ?_ | refine (ax_newA_ne _ _ _ (by omega)).trans ?_) rfl rfl rfl rfl rfl ?_
          refine s_X8_readSemicolon t1 hA hl i4 (fun h2 f2 t2 => ?_)
          show WP Γ _ _ _ _ _ _ _
          have hB2 := hB1.fr f2 (by omega)
          have hP2 := hP1.fr f2 (by omega)
          have hO := hB2.1
          have hT1 := t2.1
          have hPO := hP2.1
          have fB := f1.tr (lo := p) (hi := q + 2) f2 (by omega) (by omega)
          have gB : ∀ a, p + 2 ≤ a → a < q → h2.2 a = h.2 a := fun a h1 h2 => (f2.2 a (by omega)).trans (g1 a h1 h2)
          refine wp_if_eq (t := 56) (n := 40) dX0_read_37 (by decide) rfl (fun hq => ?_) (fun hq => ?_)
          · have hn3 : ¬ tK bs len bh = 3 := of_decide_eq_false (bI_eq hq)
            rw [if_neg hn3] at kF kO
            refine wp_aload_n (n := 57) dX0_read_56 rfl rfl ?_
            refine wp_getf (n := 60) dX0_read_57 rfl flX0_19 (by repeat first | assumption | exact ax_set_self _ _ _ | exact ax_newA_self _ _ _ | refine (ax_set_ne _ _ (by omega)).trans ?_ | refine (ax_newA_ne _ _ _ (by omega)).trans ?_) (by rfl) ?_
            refine wp_callV0 (n := 63) (rm' := (1, 21, 0, 0)) rfl dX0_read_60 rfl mlX0_36 (by repeat first | assumption | exact ax_set_self _ _ _ | exact ax_newA_self _ _ _ | refine (ax_set_ne _ _ (by omega)).trans ?_ | refine (ax_newA_ne _ _ _ (by omega)).trans ?_) rfl rfl rfl rfl rfl ?_
            refine s_X8_isAtEnd t2 hA hk (fun e0 => ?_) (fun e0 h3 f3 t3 => ?_)
            · show WP Γ _ _ _ _ _ _ _
              rw [if_pos e0] at kO
              exact wp_ireturn dX0_read_63 rfl rfl (kO _ _ _ h2 rfl i5 (by omega) fB gB ⟨_, _, t2⟩ hB2)
            · show WP Γ _ _ _ _ _ _ _
              rw [if_neg e0] at kF
              exact wp_ireturn dX0_read_63 rfl rfl (kF _ _ h3 _ _ rfl (fB.tr (lo := p) (hi := q + 2) f3 (by omega) (by omega)) (fun a h1 h2 => (f3.2 a (by omega)).trans (gB a h1 h2)) ⟨_, _, _, t3⟩ (hB2.fr f3 (by omega)))
          · have h3 : tK bs len bh = 3 := of_decide_eq_true (bI_ne hq)
            have hb3 := tK3 h3
            rw [if_pos h3] at kF kO
            refine wp_aload_n (n := 41) dX0_read_40 rfl rfl ?_
            refine wp_aload_n (n := 42) dX0_read_41 rfl rfl ?_
            refine wp_callV1 (n := 45) (rm' := (5, 112, 0, 0)) rfl dX0_read_42 rfl mlX0_28 (by repeat first | assumption | exact ax_set_self _ _ _ | exact ax_newA_self _ _ _ | refine (ax_set_ne _ _ (by omega)).trans ?_ | refine (ax_newA_ne _ _ _ (by omega)).trans ?_) rfl rfl rfl rfl rfl ?_
            refine s_X0_readCommand hB2 t2 hP2 hA hpq hqa hl b2 hn hln (by omega) (fun e pos h4 q4 f4 t4 => ?_) (fun c v f t l w4 h4 q4 v4 d1 d2 f4 g4 t4 hB4 => ?_)
            · show WP Γ _ _ _ _ _ _ _
              refine wp_if_ne (t := 50) (n := 48) dX0_read_45 (by decide) rfl (fun hs => ?_) (fun hs => ?_)
              · exact absurd rfl hs
              · refine wp_iconst (n := 49) (v := 0) dX0_read_48 rfl (by decide) ?_
                exact wp_ireturn dX0_read_49 rfl rfl (kF e pos h4 _ _ (mrR_l q4) (fB.tr (lo := p) (hi := q + 2) f4 (by omega) (by omega)) (fun a h1 h2 => (f4.2 a (by omega)).trans (gB a h1 h2)) t4 (hB2.fr f4 (by omega)))
            · show WP Γ _ _ _ _ _ _ _
              rw [mrR_r q4] at kF kO
              refine wp_if_ne (t := 50) (n := 48) dX0_read_45 (by decide) rfl (fun hs => ?_) (fun hs => ?_)
              · refine wp_iinc (n := 53) dX0_read_50 rfl rfl (nI_inc rd) rfl rfl rfl ?_
                refine wp_goto (t := 24) dX0_read_53 (by decide) ?_
                exact ih (rd + 1) w4 (n + 1) _ h4 kF kO (by omega) (by omega) (by omega) d2 (i5.add v4) (fB.tr (lo := p) (hi := q + 2) f4 (by omega) (by omega)) (fun a h1 h2 => (g4 a h1 h2).trans (gB a h1 h2)) t4 hB4 (hP2.fr f4 (by omega))
              · exact absurd hs (by decide)
    refine wp_if_ne (t := 22) (n := 20) dX0_read_17 (by decide) rfl (fun hc => ?_) (fun hc => ?_)
    · refine wp_iconst (n := 23) (v := nI 1) dX0_read_22 rfl (by decide) ?_
      refine wp_istore_n (n := 24) dX0_read_23 rfl rfl rfl rfl ?_
      exact L (len + 1) 1 w 1 _ h3 kF kO (by omega) (by omega) rfl w2 (VR.add (fun i hi => absurd hi (Nat.not_lt_zero i)) v3) f13 g13 t3 hB3 hP3
    · exact absurd hc (by decide)
end
