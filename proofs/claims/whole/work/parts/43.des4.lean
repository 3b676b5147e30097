/-! ===== DescriptionReader: the whole description ===== -/
def stmK (K : KL) (bs : FI) (len b : Nat) : (Int32 × Nat) ⊕ ((Nat × Nat × Int32 × Int32 × Nat) ⊕ ((Nat × Nat) ⊕ (Nat × Int32 × Nat))) := stmR K.1.1 K.1.2.1 K.1.2.2.2.2.1 K.1.2.2.2.2.2 K.2.1.2.1 K.2.1.1 K.2.2.2.1.2 K.2.2.2.1.1 bs len b
/-- a statement at b that makes K' of K and ends at b' -/
def StmOk (bs : FI) (len b : Nat) : KL → KL → Nat → Prop
  | ((np, qu, ra, re, le, ln), (nb, pl, tm), (ne, rw, bk), (nh, hw), (nc, cw), t, y), K', b' => b < b' ∧ b' ≤ len ∧
    ((∃ s l m1 m2, stmR np qu le ln pl nb hw nh bs len b = .inr (.inl (s, l, nI m1, nI m2, b')) ∧ np < 8 ∧ 1 ≤ l ∧ l ≤ 6 ∧ s + l ≤ len ∧ m1 ≤ 200 ∧ m2 ≤ 9999 ∧ (∀ i, s ≤ i → i < s + l → isAl (bs i) = true) ∧ K' = mkK (np + 1) (upd qu np (nI m1)) (upd ra np (nI m2)) (vf_upd re np FP.fconst0) (opnL le bs np s l) (upd ln np (nI l)) nb pl tm ne rw bk nh hw nc cw t y)
    ∨ (∃ m, stmR np qu le ln pl nb hw nh bs len b = .inr (.inr (.inl (m, b'))) ∧ m ≤ 3 ∧ K' = mkK np qu ra re le ln nb pl tm ne rw bk nh hw nc cw t m)
    ∨ (∃ j m bk' pk', stmR np qu le ln pl nb hw nh bs len b = .inr (.inr (.inr (j, nI m, b'))) ∧ j < np ∧ 1 ≤ m ∧ m ≤ 200 ∧ (∀ d, d < 200 → pk' d = bI (selL pl nb 0 m 0 d)) ∧ bokB bk bk' ne pk' ∧ K' = mkK np qu ra re le ln nb (putF pl nb pk' (nI j)) (putF tm nb pk' t) (ne + 1) (upd7 rw ne 0 (nI j) (nI m) 0 t 0 (-1)) bk' nh hw nc cw t y))
/-- the statements from b on -/
def DesR (bs : FI) (len : Nat) : Nat → KL → Nat → (Int32 × Nat) ⊕ KL → Prop
  | 0, _, _, _ => False
  | g + 1, K, b, out => if tK bs len b = 3 then ((∃ e, stmK K bs len (tB bs len b) = .inl e ∧ out = .inl e) ∨ ∃ K' b', StmOk bs len (tB bs len b) K K' b' ∧ DesR bs len g K' b' out) else if tK bs len b = 0 then out = .inr K else out = .inl (nI 1, tS bs len b)
def BegOk (m : Nat) (K : KL) : Prop := ∃ (qu ra : FI) (re : Nat → UInt32) (le ln rw : FI) (bk : Nat → Int64) (hw cw fn pl tm : FI), fn 0 = nI 102 ∧ fn 1 = nI 114 ∧ fn 2 = nI 101 ∧ fn 3 = nI 101 ∧ (∀ d, d < 200 → pl d = 0 ∧ tm d = 0) ∧ K = mkK 1 (upd qu 0 (nI m)) (upd ra 0 0) (vf_upd re 0 FP.fconst0) (opnL le fn 0 0 4) (upd ln 0 (nI 4)) m pl tm 0 rw bk 0 hw 0 cw 0 0
def DesT (bs : FI) (len : Nat) (out : (Int32 × Nat) ⊕ KL) : Prop := (∃ e, blkR bs len 0 = .inl e ∧ out = .inl e) ∨ ∃ m w K, blkR bs len 0 = .inr (nI m, w) ∧ 1 ≤ m ∧ m ≤ 200 ∧ 0 < w ∧ w ≤ len ∧ BegOk m K ∧ DesR bs len (len + 1) K w out
section
variable {Γ : GE} {h : AH} {Q : PO} {r p len st bh b np nb ne nh nc y : Nat} {bs : FI} {kd er ea : Int32} {qu ra le ln pl tm rw hw cw pk : FI} {re : Nat → UInt32} {bk : Nat → Int64} {t x : Int32}
theorem s_X3_readInto (hr : h.2 r = some (.inr (3, [.ref p]))) (hT : TextAt h p bs len kd st bh er ea) (hL : LedP h b np qu ra re le ln nb pl tm ne rw bk nh hw nc cw t y pk) (hA : Γ.2.1 ≤ p) (hAb : Γ.2.1 ≤ b) (hpr : p + 2 ≤ r) (hrb : r + 1 ≤ b) (hl : len ≤ 500) (hF9 : FreeAt Γ h)
    (kF : ∀ e pos h', DesT bs len (.inl (e, pos)) → ax_fr p (b + 19) h h' → (∀ a, p + 2 ≤ a → a < b → h'.2 a = h.2 a) → TxF h' p bs len e pos → LedX h' b → Q (.inl (some (.int 0))) h')
    (kO : ∀ K w h', DesT bs len (.inr K) → ax_fr p (b + 19) h h' → (∀ a, p + 2 ≤ a → a < b → h'.2 a = h.2 a) → TxG h' p bs len w → LedK h' b K → Q (.inl (some (.int (nI 1)))) h') : WP Γ MX3_readInto (7, 152, 0, 0) 0 [some (.ref r), some (.ref b), none] [] h Q := by
  have hT0 := hT
  have hO := hT.1
  refine wp_aload_n (n := 1) dX3_readInto_0 rfl rfl ?_
  refine wp_getf (n := 4) dX3_readInto_1 rfl flX3_9 (by repeat first | assumption | exact ax_set_self _ _ _ | exact ax_newA_self _ _ _ | refine (ax_set_ne _ _ (by omega)).trans ?_ | refine (ax_newA_ne _ _ _ (by omega)).trans ?_) (by rfl) ?_
  refine wp_callV0 (n := 7) (rm' := (0, 0, 0, 0)) rfl dX3_readInto_4 rfl mlX3_15 (by repeat first | assumption | exact ax_set_self _ _ _ | exact ax_newA_self _ _ _ | refine (ax_set_ne _ _ (by omega)).trans ?_ | refine (ax_newA_ne _ _ _ (by omega)).trans ?_) rfl rfl rfl rfl rfl ?_
  refine s_X8_rewind hT0 hA (fun h1 f1 t1 => ?_)
  show WP Γ _ _ _ _ _ _ _
  have hr1 := f1.get hr (by omega)
  have hL1 := hL.fr f1 (by omega)
  have hLO := hL1.1
  refine wp_aload_n (n := 8) dX3_readInto_7 rfl rfl ?_
  refine wp_aload_n (n := 9) dX3_readInto_8 rfl rfl ?_
  refine wp_callV1 (n := 12) (rm' := (5, 107, 0, 0)) rfl dX3_readInto_9 rfl mlX3_20 (by repeat first | assumption | exact ax_set_self _ _ _ | exact ax_newA_self _ _ _ | refine (ax_set_ne _ _ (by omega)).trans ?_ | refine (ax_newA_ne _ _ _ (by omega)).trans ?_) rfl rfl rfl rfl rfl ?_
  refine s_X3_readBlocks hr1 t1 hL1 hA hAb hpr hrb (hF9.fr f1 (by omega)) hl (Nat.zero_le _) (fun e pos h2 q2 f2 t2 => ?_) (fun m w h2 fn pl2 tm2 q2 m1 m2 w1 w2 f2 g2 t2 e0 e1 e2 e3 z2 hL2 => ?_)
  · show WP Γ _ _ _ _ _ _ _
    refine wp_if_ne (t := 17) (n := 15) dX3_readInto_12 (by decide) rfl (fun hc => ?_) (fun hc => ?_)
    · exact absurd rfl hc
    · refine wp_iconst (n := 16) (v := 0) dX3_readInto_15 rfl (by decide) ?_
      exact wp_ireturn dX3_readInto_16 rfl rfl (kF e pos h2 (Or.inl ⟨_, q2, rfl⟩) ((f1.to (lo := p) (hi := b + 19) (by omega)).tr (lo := p) (hi := b + 19) f2 (by omega) (by omega)) (fun a h1 h2 => (f2.2 a (by omega)).trans (f1.2 a (by omega))) t2 (hL1.fr f2 (by omega)).led)
  · show WP Γ _ _ _ _ _ _ _
    have fA := (f1.to (lo := p) (hi := b + 19) (by omega)).tr (lo := p) (hi := b + 19) f2 (by omega) (by omega)
    have gA : ∀ a, p + 2 ≤ a → a < b → h2.2 a = h.2 a := fun a h1 h2 => (g2 a h1 h2).trans (f1.2 a (by omega))
    have T : ∀ out, DesR bs len (len + 1) (mkK 1 (upd qu 0 (nI m)) (upd ra 0 0) (vf_upd re 0 FP.fconst0) (opnL le fn 0 0 4) (upd ln 0 (nI 4)) m pl2 tm2 0 rw bk 0 hw 0 cw 0 0) w out → DesT bs len out := fun out hd => Or.inr ⟨m, w, _, q2, m1, m2, w1, w2, ⟨qu, ra, re, le, ln, rw, bk, hw, cw, fn, pl2, tm2, e0, e1, e2, e3, z2, rfl⟩, hd⟩
    have kF : ∀ e pos h', DesR bs len (len + 1) (mkK 1 (upd qu 0 (nI m)) (upd ra 0 0) (vf_upd re 0 FP.fconst0) (opnL le fn 0 0 4) (upd ln 0 (nI 4)) m pl2 tm2 0 rw bk 0 hw 0 cw 0 0) w (.inl (e, pos)) → _ := fun e pos h' hd => kF e pos h' (T _ hd)
    have kO : ∀ K w' h', DesR bs len (len + 1) (mkK 1 (upd qu 0 (nI m)) (upd ra 0 0) (vf_upd re 0 FP.fconst0) (opnL le fn 0 0 4) (upd ln 0 (nI 4)) m pl2 tm2 0 rw bk 0 hw 0 cw 0 0) w (.inr K) → _ := fun K w' h' hd => kO K w' h' (T _ hd)
    clear T
    have L : ∀ g rd bh np qu ra re le ln nb pl tm ne rw bk hw nc cw t y pk h1, (∀ e pos h', DesR bs len g (mkK np qu ra re le ln nb pl tm ne rw bk 0 hw nc cw t y) bh (.inl (e, pos)) → ax_fr p (b + 19) h h' → (∀ a, p + 2 ≤ a → a < b → h'.2 a = h.2 a) → TxF h' p bs len e pos → LedX h' b → Q (.inl (some (.int 0))) h') → (∀ K w h', DesR bs len g (mkK np qu ra re le ln nb pl tm ne rw bk 0 hw nc cw t y) bh (.inr K) → ax_fr p (b + 19) h h' → (∀ a, p + 2 ≤ a → a < b → h'.2 a = h.2 a) → TxG h' p bs len w → LedK h' b K → Q (.inl (some (.int (nI 1)))) h') → len < g + bh → 2 * rd ≤ bh + 1 → 2 * ne ≤ bh → bh ≤ len → np ≤ 8 → nb ≤ 200 → (∀ j, j < np → ∃ m, ln j = nI m ∧ m ≤ 6) → ax_fr p (b + 19) h h1 → (∀ a, p + 2 ≤ a → a < b → h1.2 a = h.2 a) → TxG h1 p bs len bh → LedP h1 b np qu ra re le ln nb pl tm ne rw bk 0 hw nc cw t y pk → WP Γ MX3_readInto (7, 152, 0, 0) 19 [some (.ref r), some (.ref b), some (.int (nI rd))] [] h1 Q := by
      intro g
      induction g with
      | zero => intros; omega
      | succ g ih =>
        intro rd bh np qu ra re le ln nb pl tm ne rw bk hw nc cw t y pk h1 kF kO i1 i2 i3 i4 i5 i6 i7 f1 g1 t1 hL1
        obtain ⟨kd1, st1, t1⟩ := t1
        have hr1 := (g1 r (by omega) (by omega)).trans hr
        have hO := t1.1
        have hLO := hL1.1
        have hk := tK_le bs len bh
        obtain ⟨a1, a2⟩ := tS_le (bs := bs) i4
        obtain ⟨b1, b2⟩ := tB_le (bs := bs) i4
        refine wp_iload_n (n := 20) dX3_readInto_19 rfl rfl ?_
        refine wp_sipush (n := 23) (v := nI 500) dX3_readInto_20 rfl (by decide) ?_
        refine wp_icmp_ge (t := 52) (n := 26) dX3_readInto_23 (by decide) rfl (fun hc => ?_) (fun hc => ?_)
        · rw [nI_le9 (by omega) (by omega)] at hc
          exact absurd hc (by omega)
        · refine wp_aload_n (n := 27) dX3_readInto_26 rfl rfl ?_
          refine wp_getf (n := 30) dX3_readInto_27 rfl flX3_9 (by repeat first | assumption | exact ax_set_self _ _ _ | exact ax_newA_self _ _ _ | refine (ax_set_ne _ _ (by omega)).trans ?_ | refine (ax_newA_ne _ _ _ (by omega)).trans ?_) (by rfl) ?_
          refine wp_callV0 (n := 33) (rm' := (1, 20, 0, 0)) rfl dX3_readInto_30 rfl mlX3_24 (by repeat first | assumption | exact ax_set_self _ _ _ | exact ax_newA_self _ _ _ | refine (ax_set_ne _ _ (by omega)).trans ?_ | refine (ax_newA_ne _ _ _ (by omega)).trans ?_) rfl rfl rfl rfl rfl ?_
          refine s_X8_readSemicolon t1 hA hl i4 (fun h2 f2 t2 => ?_)
          show WP Γ _ _ _ _ _ _ _
          have hr2 := f2.get hr1 (by omega)
          have hL2 := hL1.fr f2 (by omega)
          have hLO := hL2.1
          have hO := t2.1
          have fB := f1.tr (lo := p) (hi := b + 19) f2 (by omega) (by omega)
          have gB : ∀ a, p + 2 ≤ a → a < b → h2.2 a = h.2 a := fun a h1 h2 => (f2.2 a (by omega)).trans (g1 a h1 h2)
          refine wp_if_eq (t := 52) (n := 36) dX3_readInto_33 (by decide) rfl (fun hq => ?_) (fun hq => ?_)
          · have hn3 : ¬ tK bs len bh = 3 := of_decide_eq_false (bI_eq hq)
            refine wp_aload_n (n := 53) dX3_readInto_52 rfl rfl ?_
            refine wp_getf (n := 56) dX3_readInto_53 rfl flX3_9 (by repeat first | assumption | exact ax_set_self _ _ _ | exact ax_newA_self _ _ _ | refine (ax_set_ne _ _ (by omega)).trans ?_ | refine (ax_newA_ne _ _ _ (by omega)).trans ?_) (by rfl) ?_
            refine wp_callV0 (n := 59) (rm' := (1, 21, 0, 0)) rfl dX3_readInto_56 rfl mlX3_31 (by repeat first | assumption | exact ax_set_self _ _ _ | exact ax_newA_self _ _ _ | refine (ax_set_ne _ _ (by omega)).trans ?_ | refine (ax_newA_ne _ _ _ (by omega)).trans ?_) rfl rfl rfl rfl rfl ?_
            refine s_X8_isAtEnd t2 hA hk (fun e0 => ?_) (fun e0 h3 f3 t3 => ?_)
            · show WP Γ _ _ _ _ _ _ _
              exact wp_ireturn dX3_readInto_59 rfl rfl (kO _ _ h2 (by unfold DesR; rw [if_neg hn3, if_pos e0]) fB gB ⟨_, _, t2⟩ ⟨pk, hL2⟩)
            · show WP Γ _ _ _ _ _ _ _
              exact wp_ireturn dX3_readInto_59 rfl rfl (kF _ _ h3 (by unfold DesR; rw [if_neg hn3, if_neg e0]) (fB.tr (lo := p) (hi := b + 19) f3 (by omega) (by omega)) (fun a h1 h2 => (f3.2 a (by omega)).trans (gB a h1 h2)) ⟨_, _, _, t3⟩ (hL2.fr f3 (by omega)).led)
          · have h3 : tK bs len bh = 3 := of_decide_eq_true (bI_ne hq)
            have hb3 := tK3 h3
            have St : ∀ K' b' out, StmOk bs len (tB bs len bh) (mkK np qu ra re le ln nb pl tm ne rw bk 0 hw nc cw t y) K' b' → DesR bs len g K' b' out → DesR bs len (g + 1) (mkK np qu ra re le ln nb pl tm ne rw bk 0 hw nc cw t y) bh out := fun K' b' out h1 h2 => by unfold DesR; rw [if_pos h3]; exact Or.inr ⟨K', b', h1, h2⟩
            refine wp_aload_n (n := 37) dX3_readInto_36 rfl rfl ?_
            refine wp_aload_n (n := 38) dX3_readInto_37 rfl rfl ?_
            refine wp_callV1 (n := 41) (rm' := (6, 131, 0, 0)) rfl dX3_readInto_38 rfl mlX3_28 (by repeat first | assumption | exact ax_set_self _ _ _ | exact ax_newA_self _ _ _ | refine (ax_set_ne _ _ (by omega)).trans ?_ | refine (ax_newA_ne _ _ _ (by omega)).trans ?_) rfl rfl rfl rfl rfl ?_
            refine s_X3_readStatement hr2 t2 hL2 hA hAb hpr hrb hl b2 i5 i6 (by omega) i7 (fun e pos h4 q4 f4 g4 t4 x4 => ?_) (fun s l m1 m2 w4 h4 q4 d1 d2 d3 d4 d5 d6 d7 d8 d9 f4 g4 t4 hL4 => ?_) (fun m w4 h4 q4 d1 d2 d3 f4 g4 t4 hL4 => ?_) (fun j m w4 h4 bk4 pk4 q4 d1 d2 d3 d4 d5 f4 g4 t4 z4 hL4 b4 => ?_)
            · show WP Γ _ _ _ _ _ _ _
              refine wp_if_ne (t := 46) (n := 44) dX3_readInto_41 (by decide) rfl (fun hs => ?_) (fun hs => ?_)
              · exact absurd rfl hs
              · refine wp_iconst (n := 45) (v := 0) dX3_readInto_44 rfl (by decide) ?_
                exact wp_ireturn dX3_readInto_45 rfl rfl (kF e pos h4 (by unfold DesR; rw [if_pos h3]; exact Or.inl ⟨_, q4, rfl⟩) (fB.tr (lo := p) (hi := b + 19) f4 (by omega) (by omega)) (fun a h1 h2 => (g4 a h1 h2).trans (gB a h1 h2)) t4 x4)
            · show WP Γ _ _ _ _ _ _ _
              have so : StmOk bs len (tB bs len bh) (mkK np qu ra re le ln nb pl tm ne rw bk 0 hw nc cw t y) (mkK (np + 1) (upd qu np (nI m1)) (upd ra np (nI m2)) (vf_upd re np FP.fconst0) (opnL le bs np s l) (upd ln np (nI l)) nb pl tm ne rw bk 0 hw nc cw t y) w4 := ⟨d8, d9, Or.inl ⟨s, l, m1, m2, q4, d1, d2, d3, d4, d5, d6, d7, rfl⟩⟩
              refine wp_if_ne (t := 46) (n := 44) dX3_readInto_41 (by decide) rfl (fun hs => ?_) (fun hs => ?_)
              · refine wp_iinc (n := 49) dX3_readInto_46 rfl rfl (nI_inc rd) rfl rfl rfl ?_
                refine wp_goto (t := 19) dX3_readInto_49 (by decide) ?_
                refine ih (rd + 1) w4 _ _ _ _ _ _ _ _ _ _ _ _ _ _ _ _ _ _ h4 (fun e pos h' hd => kF e pos h' (St _ _ _ so hd)) (fun K w' h' hd => kO K w' h' (St _ _ _ so hd)) (by omega) (by omega) (by omega) d9 (by omega) i6 (fun j hj => ?_) (fB.tr (lo := p) (hi := b + 19) f4 (by omega) (by omega)) (fun a h1 h2 => (g4 a h1 h2).trans (gB a h1 h2)) t4 hL4
                by_cases q : j = np
                · exact ⟨l, by simp only [upd]; rw [if_pos q], d3⟩
                · simp only [upd]; rw [if_neg q]; exact i7 j (by omega)
              · exact absurd hs (by decide)
            · show WP Γ _ _ _ _ _ _ _
              have so : StmOk bs len (tB bs len bh) (mkK np qu ra re le ln nb pl tm ne rw bk 0 hw nc cw t y) (mkK np qu ra re le ln nb pl tm ne rw bk 0 hw nc cw t m) w4 := ⟨d2, d3, Or.inr (Or.inl ⟨m, q4, d1, rfl⟩)⟩
              refine wp_if_ne (t := 46) (n := 44) dX3_readInto_41 (by decide) rfl (fun hs => ?_) (fun hs => ?_)
              · refine wp_iinc (n := 49) dX3_readInto_46 rfl rfl (nI_inc rd) rfl rfl rfl ?_
                refine wp_goto (t := 19) dX3_readInto_49 (by decide) ?_
                exact ih (rd + 1) w4 _ _ _ _ _ _ _ _ _ _ _ _ _ _ _ _ _ _ h4 (fun e pos h' hd => kF e pos h' (St _ _ _ so hd)) (fun K w' h' hd => kO K w' h' (St _ _ _ so hd)) (by omega) (by omega) (by omega) d3 i5 i6 i7 (fB.tr (lo := p) (hi := b + 19) f4 (by omega) (by omega)) (fun a h1 h2 => (g4 a h1 h2).trans (gB a h1 h2)) t4 hL4
              · exact absurd hs (by decide)
            · show WP Γ _ _ _ _ _ _ _
              have so : StmOk bs len (tB bs len bh) (mkK np qu ra re le ln nb pl tm ne rw bk 0 hw nc cw t y) (mkK np qu ra re le ln nb (putF pl nb pk4 (nI j)) (putF tm nb pk4 t) (ne + 1) (upd7 rw ne 0 (nI j) (nI m) 0 t 0 (-1)) bk4 0 hw nc cw t y) w4 := ⟨d4, d5, Or.inr (Or.inr ⟨j, m, bk4, pk4, q4, d1, d2, d3, z4, b4, rfl⟩)⟩
              refine wp_if_ne (t := 46) (n := 44) dX3_readInto_41 (by decide) rfl (fun hs => ?_) (fun hs => ?_)
              · refine wp_iinc (n := 49) dX3_readInto_46 rfl rfl (nI_inc rd) rfl rfl rfl ?_
                refine wp_goto (t := 19) dX3_readInto_49 (by decide) ?_
                exact ih (rd + 1) w4 _ _ _ _ _ _ _ _ _ _ _ _ _ _ _ _ _ _ h4 (fun e pos h' hd => kF e pos h' (St _ _ _ so hd)) (fun K w' h' hd => kO K w' h' (St _ _ _ so hd)) (by omega) (by omega) (by omega) d5 i5 i6 i7 (fB.tr (lo := p) (hi := b + 19) f4 (by omega) (by omega)) (fun a h1 h2 => (g4 a h1 h2).trans (gB a h1 h2)) t4 hL4
              · exact absurd hs (by decide)
    refine wp_if_ne (t := 17) (n := 15) dX3_readInto_12 (by decide) rfl (fun hc => ?_) (fun hc => ?_)
    · refine wp_iconst (n := 18) (v := nI 1) dX3_readInto_17 rfl (by decide) ?_
      refine wp_istore_n (n := 19) dX3_readInto_18 rfl rfl rfl rfl ?_
      refine L (len + 1) 1 w _ _ _ _ _ _ _ _ _ _ _ _ _ _ _ _ _ _ h2 kF kO (by omega) (by omega) (by omega) w2 (by omega) m2 (fun j hj => ?_) fA gA t2 hL2
      obtain rfl : j = 0 := by omega
      exact ⟨4, by simp [upd], by omega⟩
    · exact absurd hc (by decide)
end
