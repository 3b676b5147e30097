/-! ===== DescriptionReader: statements, the whole description ===== -/
/-- all of a ledger in one -/
abbrev KL : Type := (Nat × FI × FI × (Nat → UInt32) × FI × FI) × (Nat × FI × FI) × (Nat × FI × (Nat → Int64)) × (Nat × FI) × (Nat × FI) × Int32 × Nat
def mkK (np : Nat) (qu ra : FI) (re : Nat → UInt32) (le ln : FI) (nb : Nat) (pl tm : FI) (ne : Nat) (rw : FI) (bk : Nat → Int64) (nh : Nat) (hw : FI) (nc : Nat) (cw : FI) (t : Int32) (y : Nat) : KL := ((np, qu, ra, re, le, ln), (nb, pl, tm), (ne, rw, bk), (nh, hw), (nc, cw), t, y)
def LedK (h : AH) (b : Nat) (K : KL) : Prop := LedAt h b K.1.1 K.1.2.1 K.1.2.2.1 K.1.2.2.2.1 K.1.2.2.2.2.1 K.1.2.2.2.2.2 K.2.1.1 K.2.1.2.1 K.2.1.2.2 K.2.2.1.1 K.2.2.1.2.1 K.2.2.1.2.2 K.2.2.2.1.1 K.2.2.2.1.2 K.2.2.2.2.1.1 K.2.2.2.2.1.2 K.2.2.2.2.2.1 K.2.2.2.2.2.2
/-- what a statement is -/
def stmR (np : Nat) (qu le ln pl : FI) (nb : Nat) (hw : FI) (nh : Nat) (bs : FI) (len b : Nat) : (Int32 × Nat) ⊕ ((Nat × Nat × Int32 × Int32 × Nat) ⊕ ((Nat × Nat) ⊕ (Nat × Int32 × Nat))) := mrR (rdW bs len b) fun q =>
  if wrdB bs q.1 (q.2 - q.1) w_pool = true then mrR (polR np le ln bs len q.1 q.2) fun x => .inr (.inl x)
  else if wrdB bs q.1 (q.2 - q.1) w_pick = true then mrR (pikR bs len q.2) fun x => .inr (.inr (.inl x))
  else if wrdB bs q.1 (q.2 - q.1) w_grant = true then mrR (graR np qu le ln pl nb hw nh bs len q.2) fun x => .inr (.inr (.inr x))
  else .inl (nI 1, q.1)
section
variable {Γ : GE} {h : AH} {Q : PO} {r p len st bh b np nb ne nh nc y : Nat} {bs : FI} {kd : Int32} {qu ra le ln pl tm rw hw cw pk : FI} {re : Nat → UInt32} {bk : Nat → Int64} {t x : Int32}
theorem s_X3_readStatement (hr : h.2 r = some (.inr (3, [.ref p]))) (hT : TextAt h p bs len kd st bh 0 0) (hL : LedP h b np qu ra re le ln nb pl tm ne rw bk 0 hw nc cw t y pk) (hA : Γ.2.1 ≤ p) (hAb : Γ.2.1 ≤ b) (hpr : p + 2 ≤ r) (hrb : r + 1 ≤ b) (hl : len ≤ 500) (hb : bh ≤ len) (hn : np ≤ 8) (hnb : nb ≤ 200) (he : ne < 300) (hln : ∀ j, j < np → ∃ m, ln j = nI m ∧ m ≤ 6)
    (kF : ∀ e pos h', stmR np qu le ln pl nb hw 0 bs len bh = .inl (e, pos) → ax_fr p (b + 19) h h' → (∀ a, p + 2 ≤ a → a < b → h'.2 a = h.2 a) → TxF h' p bs len e pos → LedX h' b → Q (.inl (some (.int 0))) h')
    (kP : ∀ s l m1 m2 w h', stmR np qu le ln pl nb hw 0 bs len bh = .inr (.inl (s, l, nI m1, nI m2, w)) → np < 8 → 1 ≤ l → l ≤ 6 → s + l ≤ len → m1 ≤ 200 → m2 ≤ 9999 → (∀ i, s ≤ i → i < s + l → isAl (bs i) = true) → bh < w → w ≤ len → ax_fr p (b + 19) h h' → (∀ a, p + 2 ≤ a → a < b → h'.2 a = h.2 a) → TxG h' p bs len w → LedP h' b (np + 1) (upd qu np (nI m1)) (upd ra np (nI m2)) (vf_upd re np FP.fconst0) (opnL le bs np s l) (upd ln np (nI l)) nb pl tm ne rw bk 0 hw nc cw t y pk → Q (.inl (some (.int (nI 1)))) h')
    (kI : ∀ m w h', stmR np qu le ln pl nb hw 0 bs len bh = .inr (.inr (.inl (m, w))) → m ≤ 3 → bh < w → w ≤ len → ax_fr p (b + 19) h h' → (∀ a, p + 2 ≤ a → a < b → h'.2 a = h.2 a) → TxG h' p bs len w → LedP h' b np qu ra re le ln nb pl tm ne rw bk 0 hw nc cw t m pk → Q (.inl (some (.int (nI 1)))) h')
    (kG : ∀ j m w h' bk' pk', stmR np qu le ln pl nb hw 0 bs len bh = .inr (.inr (.inr (j, nI m, w))) → j < np → 1 ≤ m → m ≤ 200 → bh < w → w ≤ len → ax_fr p (b + 19) h h' → (∀ a, p + 2 ≤ a → a < b → h'.2 a = h.2 a) → TxG h' p bs len w → (∀ d, d < 200 → pk' d = bI (selL pl nb 0 m 0 d)) → LedP h' b np qu ra re le ln nb (putF pl nb pk' (nI j)) (putF tm nb pk' t) (ne + 1) (upd7 rw ne 0 (nI j) (nI m) 0 t 0 (-1)) bk' 0 hw nc cw t y pk' → bokB bk bk' ne pk' → Q (.inl (some (.int (nI 1)))) h') : WP Γ MX3_readStatement (6, 131, 0, 0) 0 [some (.ref r), some (.ref b)] [] h Q := by
  have hT0 := hT
  have hO := hT.1
  have hLO := hL.1
  refine wp_aload_n (n := 1) dX3_readStatement_0 rfl rfl ?_
  refine wp_getf (n := 4) dX3_readStatement_1 rfl flX3_9 (by repeat first | assumption | exact ax_set_self _ _ _ | exact ax_newA_self _ _ _ | refine (ax_set_ne _ _ (by omega)).trans ?_ | refine (ax_newA_ne _ _ _ (by omega)).trans ?_) (by rfl) ?_
  refine wp_callV0 (n := 7) (rm' := (1, 21, 0, 0)) rfl dX3_readStatement_4 rfl mlX3_34 (by repeat first | assumption | exact ax_set_self _ _ _ | exact ax_newA_self _ _ _ | refine (ax_set_ne _ _ (by omega)).trans ?_ | refine (ax_newA_ne _ _ _ (by omega)).trans ?_) rfl rfl rfl rfl rfl ?_
  refine s_rdW hT0 hA hl hb (fun e pos h1 q1 f1 t1 => ?_) (fun s w h1 q1 l1 l2 l3 l4 f1 t1 => ?_)
  · show WP Γ _ _ _ _ _ _ _
    refine wp_if_ne (t := 12) (n := 10) dX3_readStatement_7 (by decide) rfl (fun hq => ?_) (fun hq => ?_)
    · exact absurd rfl hq
    · refine wp_iconst (n := 11) (v := 0) dX3_readStatement_10 rfl (by decide) ?_
      exact wp_ireturn dX3_readStatement_11 rfl rfl (kF e pos h1 (mrR_l q1) (f1.to (by omega)) (fun a h1 h2 => f1.2 a (by omega)) t1 (hL.fr f1 (by omega)).led)
  · show WP Γ _ _ _ _ _ _ _
    have hr1 := f1.get hr (by omega)
    have hO := t1.1
    have hL1 := hL.fr f1 (by omega)
    have hLO := hL1.1
    have fA := f1.to (lo := p) (hi := b + 19) (by omega)
    have gA : ∀ a, p + 2 ≤ a → a < b → h1.2 a = h.2 a := fun a h1 h2 => f1.2 a (by omega)
    have eR : stmR np qu le ln pl nb hw 0 bs len bh = _ := mrR_r q1
    refine wp_if_ne (t := 12) (n := 10) dX3_readStatement_7 (by decide) rfl (fun hq => ?_) (fun hq => ?_)
    · refine wp_aload_n (n := 13) dX3_readStatement_12 rfl rfl ?_
      refine wp_getf (n := 16) dX3_readStatement_13 rfl flX3_9 (by repeat first | assumption | exact ax_set_self _ _ _ | exact ax_newA_self _ _ _ | refine (ax_set_ne _ _ (by omega)).trans ?_ | refine (ax_newA_ne _ _ _ (by omega)).trans ?_) (by rfl) ?_
      refine wp_ldcS (n := 18) 1 dX3_readStatement_16 rfl rfl ?_
      refine wp_callV1 (n := 21) (rm' := (4, 85, 0, 0)) rfl dX3_readStatement_18 rfl mlX3_39 (by repeat first | assumption | exact ax_set_self _ _ _ | exact ax_newA_self _ _ _ | refine (ax_set_ne _ _ (by omega)).trans ?_ | refine (ax_newA_ne _ _ _ (by omega)).trans ?_) rfl rfl rfl rfl rfl ?_
      refine s_isW 1 w_pool rfl rfl rfl (by decide) t1 (by omega) hl l3 ?_
      show WP Γ _ _ _ _ _ _ _
      refine wp_if_eq (t := 33) (n := 24) dX3_readStatement_21 (by decide) rfl (fun ha => ?_) (fun ha => ?_)
      · have ha := bI_eq ha
        refine wp_aload_n (n := 34) dX3_readStatement_33 rfl rfl ?_
        refine wp_getf (n := 37) dX3_readStatement_34 rfl flX3_9 (by repeat first | assumption | exact ax_set_self _ _ _ | exact ax_newA_self _ _ _ | refine (ax_set_ne _ _ (by omega)).trans ?_ | refine (ax_newA_ne _ _ _ (by omega)).trans ?_) (by rfl) ?_
        refine wp_ldcS (n := 39) 3 dX3_readStatement_37 rfl rfl ?_
        refine wp_callV1 (n := 42) (rm' := (4, 85, 0, 0)) rfl dX3_readStatement_39 rfl mlX3_39 (by repeat first | assumption | exact ax_set_self _ _ _ | exact ax_newA_self _ _ _ | refine (ax_set_ne _ _ (by omega)).trans ?_ | refine (ax_newA_ne _ _ _ (by omega)).trans ?_) rfl rfl rfl rfl rfl ?_
        refine s_isW 3 w_pick rfl rfl rfl (by decide) t1 (by omega) hl l3 ?_
        show WP Γ _ _ _ _ _ _ _
        refine wp_if_eq (t := 51) (n := 45) dX3_readStatement_42 (by decide) rfl (fun hb1 => ?_) (fun hb1 => ?_)
        · have hb1 := bI_eq hb1
          refine wp_aload_n (n := 52) dX3_readStatement_51 rfl rfl ?_
          refine wp_getf (n := 55) dX3_readStatement_52 rfl flX3_9 (by repeat first | assumption | exact ax_set_self _ _ _ | exact ax_newA_self _ _ _ | refine (ax_set_ne _ _ (by omega)).trans ?_ | refine (ax_newA_ne _ _ _ (by omega)).trans ?_) (by rfl) ?_
          refine wp_ldcS (n := 57) 8 dX3_readStatement_55 rfl rfl ?_
          refine wp_callV1 (n := 60) (rm' := (4, 85, 0, 0)) rfl dX3_readStatement_57 rfl mlX3_39 (by repeat first | assumption | exact ax_set_self _ _ _ | exact ax_newA_self _ _ _ | refine (ax_set_ne _ _ (by omega)).trans ?_ | refine (ax_newA_ne _ _ _ (by omega)).trans ?_) rfl rfl rfl rfl rfl ?_
          refine s_isW 8 w_grant rfl rfl rfl (by decide) t1 (by omega) hl l3 ?_
          show WP Γ _ _ _ _ _ _ _
          refine wp_if_eq (t := 69) (n := 63) dX3_readStatement_60 (by decide) rfl (fun hc1 => ?_) (fun hc1 => ?_)
          · have hc1 := bI_eq hc1
            simp only [ha, hb1, hc1, Bool.false_eq_true, if_false] at eR
            refine wp_aload_n (n := 70) dX3_readStatement_69 rfl rfl ?_
            refine wp_getf (n := 73) dX3_readStatement_70 rfl flX3_9 (by repeat first | assumption | exact ax_set_self _ _ _ | exact ax_newA_self _ _ _ | refine (ax_set_ne _ _ (by omega)).trans ?_ | refine (ax_newA_ne _ _ _ (by omega)).trans ?_) (by rfl) ?_
            refine wp_iconst (n := 74) (v := nI 1) dX3_readStatement_73 rfl (by decide) ?_
            refine wp_callV1 (n := 77) (rm' := (0, 0, 0, 0)) rfl dX3_readStatement_74 rfl mlX3_43 (by repeat first | assumption | exact ax_set_self _ _ _ | exact ax_newA_self _ _ _ | refine (ax_set_ne _ _ (by omega)).trans ?_ | refine (ax_newA_ne _ _ _ (by omega)).trans ?_) rfl rfl rfl rfl rfl ?_
            refine s_X8_fail t1 hA (fun h2 f2 t2 => ?_)
            show WP Γ _ _ _ _ _ _ _
            exact wp_ireturn dX3_readStatement_77 rfl rfl (kF _ _ h2 eR (fA.tr (lo := p) (hi := b + 19) f2 (by omega) (by omega)) (fun a h1 h2 => (f2.2 a (by omega)).trans (gA a h1 h2)) ⟨_, _, _, t2⟩ (hL1.fr f2 (by omega)).led)
          · have hc1 := bI_ne hc1
            simp only [ha, hb1, hc1, Bool.false_eq_true, if_false, if_true] at eR
            refine wp_aload_n (n := 64) dX3_readStatement_63 rfl rfl ?_
            refine wp_aload_n (n := 65) dX3_readStatement_64 rfl rfl ?_
            refine wp_callV1 (n := 68) (rm' := (3, 84, 0, 0)) rfl dX3_readStatement_65 rfl mlX3_74 (by repeat first | assumption | exact ax_set_self _ _ _ | exact ax_newA_self _ _ _ | refine (ax_set_ne _ _ (by omega)).trans ?_ | refine (ax_newA_ne _ _ _ (by omega)).trans ?_) rfl rfl rfl rfl rfl ?_
            refine s_X3_readGrant hr1 t1 hL1 hA hAb hpr hrb hl l3 hn hnb he hln (fun e pos h2 q2 f2 g2 t2 x2 => ?_) (fun j m w2 h2 bk2 pk2 q2 d1 d2 d3 d4 d5 f2 g2 t2 z2 hL2 b2 => ?_)
            · show WP Γ _ _ _ _ _ _ _
              exact wp_ireturn dX3_readStatement_68 rfl rfl (kF e pos h2 (eR.trans (mrR_l q2)) (fA.tr (lo := p) (hi := b + 19) f2 (by omega) (by omega)) (fun a h1 h2 => (g2 a h1 h2).trans (gA a h1 h2)) t2 x2)
            · show WP Γ _ _ _ _ _ _ _
              exact wp_ireturn dX3_readStatement_68 rfl rfl (kG j m w2 h2 bk2 pk2 (eR.trans (mrR_r q2)) d1 d2 d3 (by omega) d5 (fA.tr (lo := p) (hi := b + 19) f2 (by omega) (by omega)) (fun a h1 h2 => (g2 a h1 h2).trans (gA a h1 h2)) t2 z2 hL2 b2)
        · have hb1 := bI_ne hb1
          simp only [ha, hb1, Bool.false_eq_true, if_false, if_true] at eR
          refine wp_aload_n (n := 46) dX3_readStatement_45 rfl rfl ?_
          refine wp_aload_n (n := 47) dX3_readStatement_46 rfl rfl ?_
          refine wp_callV1 (n := 50) (rm' := (5, 107, 0, 0)) rfl dX3_readStatement_47 rfl mlX3_69 (by repeat first | assumption | exact ax_set_self _ _ _ | exact ax_newA_self _ _ _ | refine (ax_set_ne _ _ (by omega)).trans ?_ | refine (ax_newA_ne _ _ _ (by omega)).trans ?_) rfl rfl rfl rfl rfl ?_
          refine s_X3_readPick hr1 t1 hL1 hA hAb hpr hrb hl l3 (fun e pos h2 q2 f2 t2 => ?_) (fun m w2 h2 q2 d1 d2 d3 f2 g2 t2 hL2 => ?_)
          · show WP Γ _ _ _ _ _ _ _
            exact wp_ireturn dX3_readStatement_50 rfl rfl (kF e pos h2 (eR.trans (mrR_l q2)) (fA.tr (lo := p) (hi := b + 19) f2 (by omega) (by omega)) (fun a h1 h2 => (f2.2 a (by omega)).trans (gA a h1 h2)) t2 (hL1.fr f2 (by omega)).led)
          · show WP Γ _ _ _ _ _ _ _
            exact wp_ireturn dX3_readStatement_50 rfl rfl (kI m w2 h2 (eR.trans (mrR_r q2)) d1 (by omega) d3 (fA.tr (lo := p) (hi := b + 19) f2 (by omega) (by omega)) (fun a h1 h2 => (g2 a h1 h2).trans (gA a h1 h2)) t2 hL2)
      · have ha := bI_ne ha
        simp only [ha, if_true] at eR
        refine wp_aload_n (n := 25) dX3_readStatement_24 rfl rfl ?_
        refine wp_aload_n (n := 26) dX3_readStatement_25 rfl rfl ?_
        refine wp_getf (n := 29) dX3_readStatement_26 rfl flX3_59 (by repeat first | assumption | exact ax_set_self _ _ _ | exact ax_newA_self _ _ _ | refine (ax_set_ne _ _ (by omega)).trans ?_ | refine (ax_newA_ne _ _ _ (by omega)).trans ?_) (by rfl) ?_
        refine wp_callV1 (n := 32) (rm' := (5, 107, 0, 0)) rfl dX3_readStatement_29 rfl mlX3_63 (by repeat first | assumption | exact ax_set_self _ _ _ | exact ax_newA_self _ _ _ | refine (ax_set_ne _ _ (by omega)).trans ?_ | refine (ax_newA_ne _ _ _ (by omega)).trans ?_) rfl rfl rfl rfl rfl ?_
        refine s_X3_readPool hr1 t1 hL1 hA hAb hpr hrb hl l3 hn hln (fun e pos h2 q2 f2 g2 t2 x2 => ?_) (fun s2 l m1 m2 w2 h2 q2 d1 d2 d3 d4 d5 d6 d7 d8 d9 d10 f2 g2 t2 hL2 => ?_)
        · show WP Γ _ _ _ _ _ _ _
          exact wp_ireturn dX3_readStatement_32 rfl rfl (kF e pos h2 (eR.trans (mrR_l q2)) (fA.tr (lo := p) (hi := b + 19) f2 (by omega) (by omega)) (fun a h1 h2 => (g2 a h1 h2).trans (gA a h1 h2)) t2 x2)
        · show WP Γ _ _ _ _ _ _ _
          exact wp_ireturn dX3_readStatement_32 rfl rfl (kP s2 l m1 m2 w2 h2 (eR.trans (mrR_r q2)) d1 d3 d4 d5 d6 d7 d8 (by omega) d10 (fA.tr (lo := p) (hi := b + 19) f2 (by omega) (by omega)) (fun a h1 h2 => (g2 a h1 h2).trans (gA a h1 h2)) t2 hL2)
    · exact absurd hq (by decide)
end
