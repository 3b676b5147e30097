/-! ===== DescriptionReader ===== -/
def mrR {α β γ : Type} (a : α ⊕ β) (f : β → α ⊕ γ) : α ⊕ γ := match a with
  | .inl e => .inl e
  | .inr x => f x
/-- the head: the number of blocks -/
def blkR (bs : FI) (len b : Nat) : (Int32 × Nat) ⊕ (Int32 × Nat) := mrR (rdW bs len b) fun q => if wrdB bs q.1 (q.2 - q.1) w_blocks = true then rdN bs len q.2 (nI 1) (nI 200) else .inl (nI 1, q.1)
/-- a pool: where its name begins, how long it is, quota, rate, the place behind -/
def polR (np : Nat) (le ln bs : FI) (len s0 b : Nat) : (Int32 × Nat) ⊕ (Nat × Nat × Int32 × Int32 × Nat) := if 8 ≤ np then .inl (nI 4, s0) else mrR (rdW bs len b) fun q => if 6 < q.2 - q.1 ∨ wrdB bs q.1 (q.2 - q.1) w_free = true then .inl (nI 1, q.1) else if fstG (nameB le ln bs q.1 (q.2 - q.1)) np 0 = none then (mrR (rdN bs len q.2 0 (nI 200)) fun u => mrR (rdN bs len u.2 0 (nI 9999)) fun v => .inr (q.1, q.2 - q.1, u.1, v.1, v.2)) else .inl (nI 3, q.1)
def pikR (bs : FI) (len b : Nat) : (Int32 × Nat) ⊕ (Nat × Nat) := mrR (rdW bs len b) fun q => if wrdB bs q.1 (q.2 - q.1) w_lowest = true then .inr (0, q.2) else if wrdB bs q.1 (q.2 - q.1) w_highest = true then .inr (1, q.2) else if wrdB bs q.1 (q.2 - q.1) w_oldest = true then .inr (2, q.2) else if wrdB bs q.1 (q.2 - q.1) w_fitting = true then .inr (3, q.2) else .inl (nI 1, q.1)
/-- a grant: pool, number, the place behind -/
def graR (np : Nat) (qu le ln pl : FI) (nb : Nat) (hw : FI) (nh : Nat) (bs : FI) (len b : Nat) : (Int32 × Nat) ⊕ (Nat × Int32 × Nat) := mrR (rdW bs len b) fun q => match fstG (nameB le ln bs q.1 (q.2 - q.1)) np 0 with
  | none => .inl (nI 3, q.1)
  | some 0 => .inl (nI 3, q.1)
  | some (j + 1) => mrR (rdN bs len q.2 (nI 1) (if roo qu pl nb hw nh (j + 1) < avl pl nb hw nh 0 then roo qu pl nb hw nh (j + 1) else avl pl nb hw nh 0)) fun u => .inr (j + 1, u.1, u.2)
theorem mrR_l {α β γ : Type} {a : α ⊕ β} {f : β → α ⊕ γ} {e : α} (h : a = .inl e) : mrR a f = .inl e := by rw [h]; rfl
theorem mrR_r {α β γ : Type} {a : α ⊕ β} {f : β → α ⊕ γ} {x : β} (h : a = .inr x) : mrR a f = f x := by rw [h]; rfl
section
variable {Γ : GE} {h : AH} {Q : PO} {r p len st bh b np nb ne nh nc y : Nat} {bs : FI} {kd : Int32} {qu ra le ln pl tm rw hw cw pk : FI} {re : Nat → UInt32} {bk : Nat → Int64} {t x : Int32}
theorem s_X3_readBlocks (hr : h.2 r = some (.inr (3, [.ref p]))) (hT : TextAt h p bs len kd st bh 0 0) (hL : LedP h b np qu ra re le ln nb pl tm ne rw bk nh hw nc cw t y pk) (hA : Γ.2.1 ≤ p) (hAb : Γ.2.1 ≤ b) (hpr : p + 2 ≤ r) (hrb : r + 1 ≤ b) (hF9 : FreeAt Γ h) (hl : len ≤ 500) (hb : bh ≤ len)
    (kF : ∀ e pos h', blkR bs len bh = .inl (e, pos) → ax_fr p (p + 2) h h' → TxF h' p bs len e pos → Q (.inl (some (.int 0))) h')
    (kO : ∀ m w h' fn pl' tm', blkR bs len bh = .inr (nI m, w) → 1 ≤ m → m ≤ 200 → bh < w → w ≤ len → ax_fr p (b + 19) h h' → (∀ a, p + 2 ≤ a → a < b → h'.2 a = h.2 a) → TxG h' p bs len w → fn 0 = nI 102 → fn 1 = nI 114 → fn 2 = nI 101 → fn 3 = nI 101 → (∀ d, d < 200 → pl' d = 0 ∧ tm' d = 0) → LedP h' b 1 (upd qu 0 (nI m)) (upd ra 0 0) (vf_upd re 0 FP.fconst0) (opnL le fn 0 0 4) (upd ln 0 (nI 4)) m pl' tm' 0 rw bk 0 hw 0 cw 0 0 pk → Q (.inl (some (.int (nI 1)))) h') : WP Γ MX3_readBlocks (5, 107, 0, 0) 0 [some (.ref r), some (.ref b), none] [] h Q := by
  have hT0 := hT
  have hO := hT.1
  refine wp_aload_n (n := 1) dX3_readBlocks_0 rfl rfl ?_
  refine wp_getf (n := 4) dX3_readBlocks_1 rfl flX3_9 (by repeat first | assumption | exact ax_set_self _ _ _ | exact ax_newA_self _ _ _ | refine (ax_set_ne _ _ (by omega)).trans ?_ | refine (ax_newA_ne _ _ _ (by omega)).trans ?_) (by rfl) ?_
  refine wp_callV0 (n := 7) (rm' := (1, 21, 0, 0)) rfl dX3_readBlocks_4 rfl mlX3_34 (by repeat first | assumption | exact ax_set_self _ _ _ | exact ax_newA_self _ _ _ | refine (ax_set_ne _ _ (by omega)).trans ?_ | refine (ax_newA_ne _ _ _ (by omega)).trans ?_) rfl rfl rfl rfl rfl ?_
  refine s_rdW hT0 hA hl hb (fun e pos h1 q1 f1 t1 => ?_) (fun s w h1 q1 l1 l2 l3 l4 f1 t1 => ?_)
  · show WP Γ _ _ _ _ _ _ _
    refine wp_if_ne (t := 12) (n := 10) dX3_readBlocks_7 (by decide) rfl (fun hc => ?_) (fun hc => ?_)
    · exact absurd rfl hc
    · refine wp_iconst (n := 11) (v := 0) dX3_readBlocks_10 rfl (by decide) ?_
      exact wp_ireturn dX3_readBlocks_11 rfl rfl (kF e pos h1 (mrR_l q1) f1 t1)
  · show WP Γ _ _ _ _ _ _ _
    have hr1 := f1.get hr (by omega)
    have hO := t1.1
    refine wp_if_ne (t := 12) (n := 10) dX3_readBlocks_7 (by decide) rfl (fun hc => ?_) (fun hc => ?_)
    · refine wp_aload_n (n := 13) dX3_readBlocks_12 rfl rfl ?_
      refine wp_getf (n := 16) dX3_readBlocks_13 rfl flX3_9 (by repeat first | assumption | exact ax_set_self _ _ _ | exact ax_newA_self _ _ _ | refine (ax_set_ne _ _ (by omega)).trans ?_ | refine (ax_newA_ne _ _ _ (by omega)).trans ?_) (by rfl) ?_
      refine wp_ldcS (n := 18) 0 dX3_readBlocks_16 rfl rfl ?_
      refine wp_callV1 (n := 21) (rm' := (4, 85, 0, 0)) rfl dX3_readBlocks_18 rfl mlX3_39 (by repeat first | assumption | exact ax_set_self _ _ _ | exact ax_newA_self _ _ _ | refine (ax_set_ne _ _ (by omega)).trans ?_ | refine (ax_newA_ne _ _ _ (by omega)).trans ?_) rfl rfl rfl rfl rfl ?_
      refine s_isW 0 w_blocks rfl rfl rfl (by decide) t1 (by omega) hl l3 ?_
      show WP Γ _ _ _ _ _ _ _
      refine wp_if_ne (t := 33) (n := 24) dX3_readBlocks_21 (by decide) rfl (fun hq => ?_) (fun hq => ?_)
      · have hq := bI_ne hq
        have eR : blkR bs len bh = rdN bs len w (nI 1) (nI 200) := (mrR_r q1).trans (by simp only [hq, if_true])
        refine wp_aload_n (n := 34) dX3_readBlocks_33 rfl rfl ?_
        refine wp_getf (n := 37) dX3_readBlocks_34 rfl flX3_9 (by repeat first | assumption | exact ax_set_self _ _ _ | exact ax_newA_self _ _ _ | refine (ax_set_ne _ _ (by omega)).trans ?_ | refine (ax_newA_ne _ _ _ (by omega)).trans ?_) (by rfl) ?_
        refine wp_iconst (n := 38) (v := nI 1) dX3_readBlocks_37 rfl (by decide) ?_
        refine wp_sipush (n := 41) (v := nI 200) dX3_readBlocks_38 rfl (by decide) ?_
        refine wp_callV2 (n := 44) (rm' := (1, 60, 0, 0)) rfl dX3_readBlocks_41 rfl mlX3_47 (by repeat first | assumption | exact ax_set_self _ _ _ | exact ax_newA_self _ _ _ | refine (ax_set_ne _ _ (by omega)).trans ?_ | refine (ax_newA_ne _ _ _ (by omega)).trans ?_) rfl rfl rfl rfl rfl ?_
        refine s_rdN t1 hA hl l3 (fun e pos h2 q2 f2 t2 => ?_) (fun m w2 h2 q2 m1 m2 m3 m4 m5 f2 t2 => ?_)
        · show WP Γ _ _ _ _ _ _ _
          refine wp_istore_n (n := 45) dX3_readBlocks_44 rfl rfl rfl rfl ?_
          refine wp_iload_n (n := 46) dX3_readBlocks_45 rfl rfl ?_
          refine wp_iconst (n := 47) (v := (-1)) dX3_readBlocks_46 rfl (by decide) ?_
          refine wp_icmp_ne (t := 52) (n := 50) dX3_readBlocks_47 (by decide) rfl (fun hs => ?_) (fun hs => ?_)
          · exact absurd rfl hs
          · refine wp_iconst (n := 51) (v := 0) dX3_readBlocks_50 rfl (by decide) ?_
            exact wp_ireturn dX3_readBlocks_51 rfl rfl (kF e pos h2 (eR.trans q2) (f1.tr (lo := p) (hi := p + 2) f2 (by omega) (by omega)) t2)
        · show WP Γ _ _ _ _ _ _ _
          have g1 : 1 ≤ m := (nI_le9 (by omega) (by omega)).mp m4
          have g2 : m ≤ 200 := (nI_le9 (by omega) (by omega)).mp m5
          have fA := f1.tr (lo := p) (hi := p + 2) f2 (by omega) (by omega)
          have hL2 := hL.fr fA (by omega)
          have hL21 := hL2.1
          refine wp_istore_n (n := 45) dX3_readBlocks_44 rfl rfl rfl rfl ?_
          refine wp_iload_n (n := 46) dX3_readBlocks_45 rfl rfl ?_
          refine wp_iconst (n := 47) (v := (-1)) dX3_readBlocks_46 rfl (by decide) ?_
          refine wp_icmp_ne (t := 52) (n := 50) dX3_readBlocks_47 (by decide) rfl (fun hs => ?_) (fun hs => ?_)
          · refine wp_aload_n (n := 53) dX3_readBlocks_52 rfl rfl ?_
            refine wp_iload_n (n := 54) dX3_readBlocks_53 rfl rfl ?_
            refine wp_callV1 (n := 57) (rm' := (2, 47, 0, 0)) rfl dX3_readBlocks_54 rfl mlX3_51 (by repeat first | assumption | exact ax_set_self _ _ _ | exact ax_newA_self _ _ _ | refine (ax_set_ne _ _ (by omega)).trans ?_ | refine (ax_newA_ne _ _ _ (by omega)).trans ?_) rfl rfl rfl rfl rfl ?_
            refine s_X5_begin hL2 hAb (hF9.fr fA (by omega)) (fun h3 fn pl3 tm3 e0 e1 e2 e3 z3 f3 hL3 => ?_)
            show WP Γ _ _ _ _ _ _ _
            refine wp_iconst (n := 58) (v := nI 1) dX3_readBlocks_57 rfl (by decide) ?_
            exact wp_ireturn dX3_readBlocks_58 rfl rfl (kO m w2 h3 fn pl3 tm3 (eR.trans q2) g1 g2 (by omega) m3 (fA.tr (lo := p) (hi := b + 19) f3 (by omega) (by omega)) (fun a h1 h2 => (f3.2 a (by omega)).trans (fA.2 a (by omega))) (t2.fr f3 (by omega)) e0 e1 e2 e3 z3 hL3)
          · exact absurd hs (nI_ne_neg (by omega))
      · have hq := bI_eq hq
        have eR : blkR bs len bh = .inl (nI 1, s) := (mrR_r q1).trans (by simp only [hq, Bool.false_eq_true, if_false])
        refine wp_aload_n (n := 25) dX3_readBlocks_24 rfl rfl ?_
        refine wp_getf (n := 28) dX3_readBlocks_25 rfl flX3_9 (by repeat first | assumption | exact ax_set_self _ _ _ | exact ax_newA_self _ _ _ | refine (ax_set_ne _ _ (by omega)).trans ?_ | refine (ax_newA_ne _ _ _ (by omega)).trans ?_) (by rfl) ?_
        refine wp_iconst (n := 29) (v := nI 1) dX3_readBlocks_28 rfl (by decide) ?_
        refine wp_callV1 (n := 32) (rm' := (0, 0, 0, 0)) rfl dX3_readBlocks_29 rfl mlX3_43 (by repeat first | assumption | exact ax_set_self _ _ _ | exact ax_newA_self _ _ _ | refine (ax_set_ne _ _ (by omega)).trans ?_ | refine (ax_newA_ne _ _ _ (by omega)).trans ?_) rfl rfl rfl rfl rfl ?_
        refine s_X8_fail t1 hA (fun h2 f2 t2 => ?_)
        show WP Γ _ _ _ _ _ _ _
        exact wp_ireturn dX3_readBlocks_32 rfl rfl (kF _ _ h2 eR (f1.tr (lo := p) (hi := p + 2) f2 (by omega) (by omega)) ⟨_, _, _, t2⟩)
    · exact absurd hc (by decide)
theorem s_X3_readPick (hr : h.2 r = some (.inr (3, [.ref p]))) (hT : TextAt h p bs len kd st bh 0 0) (hL : LedP h b np qu ra re le ln nb pl tm ne rw bk nh hw nc cw t y pk) (hA : Γ.2.1 ≤ p) (hAb : Γ.2.1 ≤ b) (hpr : p + 2 ≤ r) (hrb : r + 1 ≤ b) (hl : len ≤ 500) (hb : bh ≤ len)
    (kF : ∀ e pos h', pikR bs len bh = .inl (e, pos) → ax_fr p (p + 2) h h' → TxF h' p bs len e pos → Q (.inl (some (.int 0))) h')
    (kO : ∀ m w h', pikR bs len bh = .inr (m, w) → m ≤ 3 → bh < w → w ≤ len → ax_fr p (b + 19) h h' → (∀ a, p + 2 ≤ a → a < b → h'.2 a = h.2 a) → TxG h' p bs len w → LedP h' b np qu ra re le ln nb pl tm ne rw bk nh hw nc cw t m pk → Q (.inl (some (.int (nI 1)))) h') : WP Γ MX3_readPick (5, 107, 0, 0) 0 [some (.ref r), some (.ref b)] [] h Q := by
  have hT0 := hT
  have hO := hT.1
  refine wp_aload_n (n := 1) dX3_readPick_0 rfl rfl ?_
  refine wp_getf (n := 4) dX3_readPick_1 rfl flX3_9 (by repeat first | assumption | exact ax_set_self _ _ _ | exact ax_newA_self _ _ _ | refine (ax_set_ne _ _ (by omega)).trans ?_ | refine (ax_newA_ne _ _ _ (by omega)).trans ?_) (by rfl) ?_
  refine wp_callV0 (n := 7) (rm' := (1, 21, 0, 0)) rfl dX3_readPick_4 rfl mlX3_34 (by repeat first | assumption | exact ax_set_self _ _ _ | exact ax_newA_self _ _ _ | refine (ax_set_ne _ _ (by omega)).trans ?_ | refine (ax_newA_ne _ _ _ (by omega)).trans ?_) rfl rfl rfl rfl rfl ?_
  refine s_rdW hT0 hA hl hb (fun e pos h1 q1 f1 t1 => ?_) (fun s w h1 q1 l1 l2 l3 l4 f1 t1 => ?_)
  · show WP Γ _ _ _ _ _ _ _
    refine wp_if_ne (t := 12) (n := 10) dX3_readPick_7 (by decide) rfl (fun hc => ?_) (fun hc => ?_)
    · exact absurd rfl hc
    · refine wp_iconst (n := 11) (v := 0) dX3_readPick_10 rfl (by decide) ?_
      exact wp_ireturn dX3_readPick_11 rfl rfl (kF e pos h1 (mrR_l q1) f1 t1)
  · show WP Γ _ _ _ _ _ _ _
    have hr1 := f1.get hr (by omega)
    have hO := t1.1
    have hL1 := hL.fr f1 (by omega)
    have hL2 := hL1.1
    have eR : pikR bs len bh = _ := mrR_r q1
    have fin : ∀ m, m ≤ 3 → pikR bs len bh = .inr (m, w) → WP Γ MX3_readPick (5, 107, 0, 0) 101 [some (.ref r), some (.ref b)] [] (ax_set h1 b (.inr (5, [.ref (b + 1), .ref (b + 7), .ref (b + 11), .ref (b + 14), .ref (b + 16), .int t, .int (nI m), .ref (b + 18)]))) Q := by
      intro m hm e
      refine wp_iconst (n := 102) (v := nI 1) dX3_readPick_101 rfl (by decide) ?_
      exact wp_ireturn dX3_readPick_102 rfl rfl (kO m w _ e hm (by omega) l3 ((f1.to (lo := p) (hi := b + 19) (by omega)).put (by omega)) (fun a h1 h2 => (ax_set_ne _ _ (by omega)).trans (f1.2 a (by omega))) ⟨_, _, t1.fr (ax_fr.set (lo := b) (hi := b + 1) (by omega)) (by omega)⟩ (hL1.top t m))
    refine wp_if_ne (t := 12) (n := 10) dX3_readPick_7 (by decide) rfl (fun hc => ?_) (fun hc => ?_)
    · refine wp_aload_n (n := 13) dX3_readPick_12 rfl rfl ?_
      refine wp_getf (n := 16) dX3_readPick_13 rfl flX3_9 (by repeat first | assumption | exact ax_set_self _ _ _ | exact ax_newA_self _ _ _ | refine (ax_set_ne _ _ (by omega)).trans ?_ | refine (ax_newA_ne _ _ _ (by omega)).trans ?_) (by rfl) ?_
      refine wp_ldcS (n := 18) 4 dX3_readPick_16 rfl rfl ?_
      refine wp_callV1 (n := 21) (rm' := (4, 85, 0, 0)) rfl dX3_readPick_18 rfl mlX3_39 (by repeat first | assumption | exact ax_set_self _ _ _ | exact ax_newA_self _ _ _ | refine (ax_set_ne _ _ (by omega)).trans ?_ | refine (ax_newA_ne _ _ _ (by omega)).trans ?_) rfl rfl rfl rfl rfl ?_
      refine s_isW 4 w_lowest rfl rfl rfl (by decide) t1 (by omega) hl l3 ?_
      show WP Γ _ _ _ _ _ _ _
      refine wp_if_eq (t := 32) (n := 24) dX3_readPick_21 (by decide) rfl (fun ha => ?_) (fun ha => ?_)
      · have ha := bI_eq ha
        refine wp_aload_n (n := 33) dX3_readPick_32 rfl rfl ?_
        refine wp_getf (n := 36) dX3_readPick_33 rfl flX3_9 (by repeat first | assumption | exact ax_set_self _ _ _ | exact ax_newA_self _ _ _ | refine (ax_set_ne _ _ (by omega)).trans ?_ | refine (ax_newA_ne _ _ _ (by omega)).trans ?_) (by rfl) ?_
        refine wp_ldcS (n := 38) 5 dX3_readPick_36 rfl rfl ?_
        refine wp_callV1 (n := 41) (rm' := (4, 85, 0, 0)) rfl dX3_readPick_38 rfl mlX3_39 (by repeat first | assumption | exact ax_set_self _ _ _ | exact ax_newA_self _ _ _ | refine (ax_set_ne _ _ (by omega)).trans ?_ | refine (ax_newA_ne _ _ _ (by omega)).trans ?_) rfl rfl rfl rfl rfl ?_
        refine s_isW 5 w_highest rfl rfl rfl (by decide) t1 (by omega) hl l3 ?_
        show WP Γ _ _ _ _ _ _ _
        refine wp_if_eq (t := 52) (n := 44) dX3_readPick_41 (by decide) rfl (fun hb1 => ?_) (fun hb1 => ?_)
        · have hb1 := bI_eq hb1
          refine wp_aload_n (n := 53) dX3_readPick_52 rfl rfl ?_
          refine wp_getf (n := 56) dX3_readPick_53 rfl flX3_9 (by repeat first | assumption | exact ax_set_self _ _ _ | exact ax_newA_self _ _ _ | refine (ax_set_ne _ _ (by omega)).trans ?_ | refine (ax_newA_ne _ _ _ (by omega)).trans ?_) (by rfl) ?_
          refine wp_ldcS (n := 58) 6 dX3_readPick_56 rfl rfl ?_
          refine wp_callV1 (n := 61) (rm' := (4, 85, 0, 0)) rfl dX3_readPick_58 rfl mlX3_39 (by repeat first | assumption | exact ax_set_self _ _ _ | exact ax_newA_self _ _ _ | refine (ax_set_ne _ _ (by omega)).trans ?_ | refine (ax_newA_ne _ _ _ (by omega)).trans ?_) rfl rfl rfl rfl rfl ?_
          refine s_isW 6 w_oldest rfl rfl rfl (by decide) t1 (by omega) hl l3 ?_
          show WP Γ _ _ _ _ _ _ _
          refine wp_if_eq (t := 72) (n := 64) dX3_readPick_61 (by decide) rfl (fun hc1 => ?_) (fun hc1 => ?_)
          · have hc1 := bI_eq hc1
            refine wp_aload_n (n := 73) dX3_readPick_72 rfl rfl ?_
            refine wp_getf (n := 76) dX3_readPick_73 rfl flX3_9 (by repeat first | assumption | exact ax_set_self _ _ _ | exact ax_newA_self _ _ _ | refine (ax_set_ne _ _ (by omega)).trans ?_ | refine (ax_newA_ne _ _ _ (by omega)).trans ?_) (by rfl) ?_
            refine wp_ldcS (n := 78) 7 dX3_readPick_76 rfl rfl ?_
            refine wp_callV1 (n := 81) (rm' := (4, 85, 0, 0)) rfl dX3_readPick_78 rfl mlX3_39 (by repeat first | assumption | exact ax_set_self _ _ _ | exact ax_newA_self _ _ _ | refine (ax_set_ne _ _ (by omega)).trans ?_ | refine (ax_newA_ne _ _ _ (by omega)).trans ?_) rfl rfl rfl rfl rfl ?_
            refine s_isW 7 w_fitting rfl rfl rfl (by decide) t1 (by omega) hl l3 ?_
            show WP Γ _ _ _ _ _ _ _
            refine wp_if_eq (t := 92) (n := 84) dX3_readPick_81 (by decide) rfl (fun hd1 => ?_) (fun hd1 => ?_)
            · have hd1 := bI_eq hd1
              simp only [ha, hb1, hc1, hd1, Bool.false_eq_true, if_false] at eR
              refine wp_aload_n (n := 93) dX3_readPick_92 rfl rfl ?_
              refine wp_getf (n := 96) dX3_readPick_93 rfl flX3_9 (by repeat first | assumption | exact ax_set_self _ _ _ | exact ax_newA_self _ _ _ | refine (ax_set_ne _ _ (by omega)).trans ?_ | refine (ax_newA_ne _ _ _ (by omega)).trans ?_) (by rfl) ?_
              refine wp_iconst (n := 97) (v := nI 1) dX3_readPick_96 rfl (by decide) ?_
              refine wp_callV1 (n := 100) (rm' := (0, 0, 0, 0)) rfl dX3_readPick_97 rfl mlX3_43 (by repeat first | assumption | exact ax_set_self _ _ _ | exact ax_newA_self _ _ _ | refine (ax_set_ne _ _ (by omega)).trans ?_ | refine (ax_newA_ne _ _ _ (by omega)).trans ?_) rfl rfl rfl rfl rfl ?_
              refine s_X8_fail t1 hA (fun h2 f2 t2 => ?_)
              show WP Γ _ _ _ _ _ _ _
              exact wp_ireturn dX3_readPick_100 rfl rfl (kF _ _ h2 eR (f1.tr (lo := p) (hi := p + 2) f2 (by omega) (by omega)) ⟨_, _, _, t2⟩)
            · have hd1 := bI_ne hd1
              simp only [ha, hb1, hc1, hd1, Bool.false_eq_true, if_false, if_true] at eR
              refine wp_aload_n (n := 85) dX3_readPick_84 rfl rfl ?_
              refine wp_iconst (n := 86) (v := nI 3) dX3_readPick_85 rfl (by decide) ?_
              refine wp_putf (n := 89) dX3_readPick_86 rfl flX3_109 (by repeat first | assumption | exact ax_set_self _ _ _ | exact ax_newA_self _ _ _ | refine (ax_set_ne _ _ (by omega)).trans ?_ | refine (ax_newA_ne _ _ _ (by omega)).trans ?_) (by omega) (by rfl) rfl rfl ?_
              refine wp_goto (t := 101) dX3_readPick_89 (by decide) ?_
              exact fin 3 (by omega) eR
          · have hc1 := bI_ne hc1
            simp only [ha, hb1, hc1, Bool.false_eq_true, if_false, if_true] at eR
            refine wp_aload_n (n := 65) dX3_readPick_64 rfl rfl ?_
            refine wp_iconst (n := 66) (v := nI 2) dX3_readPick_65 rfl (by decide) ?_
            refine wp_putf (n := 69) dX3_readPick_66 rfl flX3_109 (by repeat first | assumption | exact ax_set_self _ _ _ | exact ax_newA_self _ _ _ | refine (ax_set_ne _ _ (by omega)).trans ?_ | refine (ax_newA_ne _ _ _ (by omega)).trans ?_) (by omega) (by rfl) rfl rfl ?_
            refine wp_goto (t := 101) dX3_readPick_69 (by decide) ?_
            exact fin 2 (by omega) eR
        · have hb1 := bI_ne hb1
          simp only [ha, hb1, Bool.false_eq_true, if_false, if_true] at eR
          refine wp_aload_n (n := 45) dX3_readPick_44 rfl rfl ?_
          refine wp_iconst (n := 46) (v := nI 1) dX3_readPick_45 rfl (by decide) ?_
          refine wp_putf (n := 49) dX3_readPick_46 rfl flX3_109 (by repeat first | assumption | exact ax_set_self _ _ _ | exact ax_newA_self _ _ _ | refine (ax_set_ne _ _ (by omega)).trans ?_ | refine (ax_newA_ne _ _ _ (by omega)).trans ?_) (by omega) (by rfl) rfl rfl ?_
          refine wp_goto (t := 101) dX3_readPick_49 (by decide) ?_
          exact fin 1 (by omega) eR
      · have ha := bI_ne ha
        simp only [ha, if_true] at eR
        refine wp_aload_n (n := 25) dX3_readPick_24 rfl rfl ?_
        refine wp_iconst (n := 26) (v := 0) dX3_readPick_25 rfl (by decide) ?_
        refine wp_putf (n := 29) dX3_readPick_26 rfl flX3_109 (by repeat first | assumption | exact ax_set_self _ _ _ | exact ax_newA_self _ _ _ | refine (ax_set_ne _ _ (by omega)).trans ?_ | refine (ax_newA_ne _ _ _ (by omega)).trans ?_) (by omega) (by rfl) rfl rfl ?_
        refine wp_goto (t := 101) dX3_readPick_29 (by decide) ?_
        exact fin 0 (by omega) eR
    · exact absurd hc (by decide)
end
