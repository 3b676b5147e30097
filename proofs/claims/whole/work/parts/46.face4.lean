/-! ===== the face: the text ===== -/
set_option maxRecDepth 20000 in
theorem imX8_init : Cond.instanceMethod MX8_init.1 ∈ TB := TB_1 34 rfl rfl
def TxI (h : AH) (p : Nat) (bs : FI) (len : Nat) : Prop := ∃ kd st bh er ea, TextAt h p bs len kd st bh er ea
section
variable {Γ : GE} {h : AH} {Q : PO} {p D b np nb ne nh nc y len : Nat} {bs : FI} {qu ra le ln pl tm rw hw cw pk : FI} {re : Nat → UInt32} {bk : Nat → Int64} {t x er : Int32}
theorem TxI.fr {h' : AH} {lo hi : Nat} (hM : TxI h p bs len) (hF : ax_fr lo hi h h') (hd : hi ≤ p ∨ p + 2 ≤ lo) : TxI h' p bs len := by
  obtain ⟨kd, st, bh, er, ea, hT⟩ := hM
  exact ⟨kd, st, bh, er, ea, hT.fr hF hd⟩
theorem s_X9_appendByte (hF : FacC h p b D er) (hT : TxI h (p + 1) bs len) (hA : Γ.2.1 ≤ p) (hl : len ≤ 500)
    (k1 : inI x 0 255 = false → ∀ n', h.1 ≤ n' → Q (.inr IAE) (n', h.2))
    (k0 : inI x 0 255 = true → 500 ≤ len → Q (.inl (some (.int (-2)))) h)
    (k : inI x 0 255 = true → len < 500 → ∀ h', ax_fr (p + 1) (p + 3) h h' → TxI h' (p + 1) (upd bs len x) (len + 1) → Q (.inl (some (.int (nI (len + 1))))) h') : WP Γ MX9_appendByte (6, 95, 1, 6) 0 [some (.ref p), some (.int x)] [] h Q := by
  unfold FacC at hF
  obtain ⟨kd, st, bh, e1, ea, hT⟩ := hT
  have hT1 := hT.1
  refine wp_iload_n (n := 1) dX9_appendByte_0 rfl rfl ?_
  refine wp_if_lt (t := 11) (n := 4) dX9_appendByte_1 (by decide) rfl (fun hc => ?_) (fun hc => ?_)
  · exact wp_throwS 13 rfl dX9_appendByte_11 dX9_appendByte_14 dX9_appendByte_15 dX9_appendByte_17 dX9_appendByte_20 rfl (by decide) (by decide) clX9_54 ax_iaei atX9_58 agX9_58 ax_nw rfl rfl (by decide) (by decide) (k1 (decide_eq_false (fun q => absurd hc (Int32.not_lt.mpr q.1))))
  · refine wp_iload_n (n := 5) dX9_appendByte_4 rfl rfl ?_
    refine wp_sipush (n := 8) (v := nI 255) dX9_appendByte_5 rfl (by decide) ?_
    refine wp_icmp_le (t := 21) (n := 11) dX9_appendByte_8 (by decide) rfl (fun hq => ?_) (fun hq => ?_)
    · have hin : inI x 0 255 = true := decide_eq_true ⟨i32_not_lt hc, hq⟩
      refine wp_aload_n (n := 22) dX9_appendByte_21 rfl rfl ?_
      refine wp_getf (n := 25) dX9_appendByte_22 rfl flX9_10 (by repeat first | assumption | exact ax_set_self _ _ _ | exact ax_newA_self _ _ _ | refine (ax_set_ne _ _ (by omega)).trans ?_ | refine (ax_newA_ne _ _ _ (by omega)).trans ?_) (by rfl) ?_
      refine wp_iload_n (n := 26) dX9_appendByte_25 rfl rfl ?_
      refine wp_callV1 (n := 29) (rm' := (0, 0, 0, 0)) rfl dX9_appendByte_26 rfl mlX9_61 (by repeat first | assumption | exact ax_set_self _ _ _ | exact ax_newA_self _ _ _ | refine (ax_set_ne _ _ (by omega)).trans ?_ | refine (ax_newA_ne _ _ _ (by omega)).trans ?_) rfl rfl rfl rfl rfl ?_
      refine s_X8_append hT (by omega) hl (fun q => ?_) (fun q h1 f1 t1 => ?_)
      · show WP Γ _ _ _ _ _ _ _
        exact wp_ireturn dX9_appendByte_29 rfl rfl (k0 hin q)
      · show WP Γ _ _ _ _ _ _ _
        exact wp_ireturn dX9_appendByte_29 rfl rfl (k hin q h1 (f1.to (by omega)) ⟨_, _, _, _, _, t1⟩)
    · exact wp_throwS 13 rfl dX9_appendByte_11 dX9_appendByte_14 dX9_appendByte_15 dX9_appendByte_17 dX9_appendByte_20 rfl (by decide) (by decide) clX9_54 ax_iaei atX9_58 agX9_58 ax_nw rfl rfl (by decide) (by decide) (k1 (decide_eq_false (fun q => hq q.2)))
theorem s_X9_poolNamed (hF : FacC h p b D er) (hT : TxI h (p + 1) bs len) (hL : LedP h b np qu ra re le ln nb pl tm ne rw bk nh hw nc cw t y pk) (hA : Γ.2.1 ≤ p) (hpb : p + 7 ≤ b) (hl : len ≤ 500) (hn : np ≤ 8) (hln : ∀ j, j < np → ∃ m, ln j = nI m ∧ m ≤ 6)
    (k : ∀ h', ax_fr (p + 1) (p + 3) h h' → TxI h' (p + 1) bs 0 → Q (.inl (some (.int (oI (fstG (nameB le ln bs 0 len) np 0))))) h') : WP Γ MX9_poolNamed (2, 48, 0, 0) 0 [some (.ref p), none] [] h Q := by
  unfold FacC at hF
  obtain ⟨kd, st, bh, e1, ea, hT⟩ := hT
  have hT1 := hT.1
  have hT2 := hT.2
  obtain ⟨hO, hP, hM, hJ, hR, hC, su, hS⟩ := hL
  have hP1 := hP.1
  have hM1 := hM.1
  have hJ1 := hJ.1
  have hR1 := hR.1
  have hC1 := hC.1
  have hP2 := hP.2.1
  have hP3 := hP.2.2.1
  have hP4 := hP.2.2.2.1
  have hM2 := hM.2.1
  have hM3 := hM.2.2.1
  have hM4 := hM.2.2.2
  refine wp_aload_n (n := 1) dX9_poolNamed_0 rfl rfl ?_
  refine wp_getf (n := 4) dX9_poolNamed_1 rfl flX9_39 (by repeat first | assumption | exact ax_set_self _ _ _ | exact ax_newA_self _ _ _ | refine (ax_set_ne _ _ (by omega)).trans ?_ | refine (ax_newA_ne _ _ _ (by omega)).trans ?_) (by rfl) ?_
  refine wp_getf (n := 7) dX9_poolNamed_4 rfl flX9_76 (by repeat first | assumption | exact ax_set_self _ _ _ | exact ax_newA_self _ _ _ | refine (ax_set_ne _ _ (by omega)).trans ?_ | refine (ax_newA_ne _ _ _ (by omega)).trans ?_) (by rfl) ?_
  refine wp_aload_n (n := 8) dX9_poolNamed_7 rfl rfl ?_
  refine wp_getf (n := 11) dX9_poolNamed_8 rfl flX9_10 (by repeat first | assumption | exact ax_set_self _ _ _ | exact ax_newA_self _ _ _ | refine (ax_set_ne _ _ (by omega)).trans ?_ | refine (ax_newA_ne _ _ _ (by omega)).trans ?_) (by rfl) ?_
  refine wp_getf (n := 14) dX9_poolNamed_11 rfl flX9_85 (by repeat first | assumption | exact ax_set_self _ _ _ | exact ax_newA_self _ _ _ | refine (ax_set_ne _ _ (by omega)).trans ?_ | refine (ax_newA_ne _ _ _ (by omega)).trans ?_) (by rfl) ?_
  refine wp_iconst (n := 15) (v := 0) dX9_poolNamed_14 rfl (by decide) ?_
  refine wp_aload_n (n := 16) dX9_poolNamed_15 rfl rfl ?_
  refine wp_getf (n := 19) dX9_poolNamed_16 rfl flX9_10 (by repeat first | assumption | exact ax_set_self _ _ _ | exact ax_newA_self _ _ _ | refine (ax_set_ne _ _ (by omega)).trans ?_ | refine (ax_newA_ne _ _ _ (by omega)).trans ?_) (by rfl) ?_
  refine wp_getf (n := 22) dX9_poolNamed_19 rfl flX9_89 (by repeat first | assumption | exact ax_set_self _ _ _ | exact ax_newA_self _ _ _ | refine (ax_set_ne _ _ (by omega)).trans ?_ | refine (ax_newA_ne _ _ _ (by omega)).trans ?_) (by rfl) ?_
  refine wp_callV3 (n := 25) (rm' := (1, 24, 0, 0)) rfl dX9_poolNamed_22 rfl mlX9_92 (by repeat first | assumption | exact ax_set_self _ _ _ | exact ax_newA_self _ _ _ | refine (ax_set_ne _ _ (by omega)).trans ?_ | refine (ax_newA_ne _ _ _ (by omega)).trans ?_) rfl rfl rfl rfl rfl ?_
  refine s_X6_find (s := 0) (N := 500) hP hn hln hT2 (by omega) (by omega) ?_
  show WP Γ _ _ _ _ _ _ _
  refine wp_istore_n (n := 26) dX9_poolNamed_25 rfl rfl rfl rfl ?_
  refine wp_aload_n (n := 27) dX9_poolNamed_26 rfl rfl ?_
  refine wp_getf (n := 30) dX9_poolNamed_27 rfl flX9_10 (by repeat first | assumption | exact ax_set_self _ _ _ | exact ax_newA_self _ _ _ | refine (ax_set_ne _ _ (by omega)).trans ?_ | refine (ax_newA_ne _ _ _ (by omega)).trans ?_) (by rfl) ?_
  refine wp_callV0 (n := 33) (rm' := (0, 0, 0, 0)) rfl dX9_poolNamed_30 rfl mlX9_96 (by repeat first | assumption | exact ax_set_self _ _ _ | exact ax_newA_self _ _ _ | refine (ax_set_ne _ _ (by omega)).trans ?_ | refine (ax_newA_ne _ _ _ (by omega)).trans ?_) rfl rfl rfl rfl rfl ?_
  refine s_X8_clear hT (by omega) (fun h1 f1 t1 => ?_)
  show WP Γ _ _ _ _ _ _ _
  refine wp_iload_n (n := 34) dX9_poolNamed_33 rfl rfl ?_
  exact wp_ireturn dX9_poolNamed_34 rfl rfl (k h1 (f1.to (by omega)) ⟨_, _, _, _, _, t1⟩)
theorem s_X9_endReading {kd : Int32} {st bh : Nat} {e ea : Int32} (hF : FacC h p b D er) (hT : TextAt h (p + 1) bs len kd st bh e ea) (hA : Γ.2.1 ≤ p)
    (k : ∀ h', ax_fr p (p + 3) h h' → FacC h' p b D e → TxI h' (p + 1) bs 0 → Q (.inl (some (.int (-100 - ea)))) h') : WP Γ MX9_endReading (1, 20, 0, 0) 0 [some (.ref p), none] [] h Q := by
  have hF0 := hF
  unfold FacC at hF
  have hT1 := hT.1
  refine wp_aload_n (n := 1) dX9_endReading_0 rfl rfl ?_
  refine wp_aload_n (n := 2) dX9_endReading_1 rfl rfl ?_
  refine wp_getf (n := 5) dX9_endReading_2 rfl flX9_10 (by repeat first | assumption | exact ax_set_self _ _ _ | exact ax_newA_self _ _ _ | refine (ax_set_ne _ _ (by omega)).trans ?_ | refine (ax_newA_ne _ _ _ (by omega)).trans ?_) (by rfl) ?_
  refine wp_getf (n := 8) dX9_endReading_5 rfl flX9_112 (by repeat first | assumption | exact ax_set_self _ _ _ | exact ax_newA_self _ _ _ | refine (ax_set_ne _ _ (by omega)).trans ?_ | refine (ax_newA_ne _ _ _ (by omega)).trans ?_) (by rfl) ?_
  refine wp_putf (n := 11) dX9_endReading_8 rfl flX9_46 (by repeat first | assumption | exact ax_set_self _ _ _ | exact ax_newA_self _ _ _ | refine (ax_set_ne _ _ (by omega)).trans ?_ | refine (ax_newA_ne _ _ _ (by omega)).trans ?_) (by omega) (by rfl) rfl rfl ?_
  have f1 : ax_fr p (p + 1) h (ax_set h p (.inr (9, [.ref (p + 1), .ref (p + 3), .ref (p + 4), .ref (p + 6), .ref b, .ref D, .int e]))) := ax_fr.set (by omega)
  have hF1 : FacC (ax_set h p (.inr (9, [.ref (p + 1), .ref (p + 3), .ref (p + 4), .ref (p + 6), .ref b, .ref D, .int e]))) p b D e := ax_set_self _ _ _
  have t1 := hT.fr f1 (by omega)
  generalize ax_set h p (.inr (9, [.ref (p + 1), .ref (p + 3), .ref (p + 4), .ref (p + 6), .ref b, .ref D, .int e])) = h1 at *
  have hF2 := hF1
  unfold FacC at hF2
  have hT2 := t1.1
  refine wp_bipush (n := 13) (v := (-100)) dX9_endReading_11 rfl (by decide) ?_
  refine wp_aload_n (n := 14) dX9_endReading_13 rfl rfl ?_
  refine wp_getf (n := 17) dX9_endReading_14 rfl flX9_10 (by repeat first | assumption | exact ax_set_self _ _ _ | exact ax_newA_self _ _ _ | refine (ax_set_ne _ _ (by omega)).trans ?_ | refine (ax_newA_ne _ _ _ (by omega)).trans ?_) (by rfl) ?_
  refine wp_getf (n := 20) dX9_endReading_17 rfl flX9_115 (by repeat first | assumption | exact ax_set_self _ _ _ | exact ax_newA_self _ _ _ | refine (ax_set_ne _ _ (by omega)).trans ?_ | refine (ax_newA_ne _ _ _ (by omega)).trans ?_) (by rfl) ?_
  refine wp_isub (n := 21) dX9_endReading_20 rfl ?_
  refine wp_istore_n (n := 22) dX9_endReading_21 rfl rfl rfl rfl ?_
  refine wp_aload_n (n := 23) dX9_endReading_22 rfl rfl ?_
  refine wp_getf (n := 26) dX9_endReading_23 rfl flX9_10 (by repeat first | assumption | exact ax_set_self _ _ _ | exact ax_newA_self _ _ _ | refine (ax_set_ne _ _ (by omega)).trans ?_ | refine (ax_newA_ne _ _ _ (by omega)).trans ?_) (by rfl) ?_
  refine wp_callV0 (n := 29) (rm' := (0, 0, 0, 0)) rfl dX9_endReading_26 rfl mlX9_96 (by repeat first | assumption | exact ax_set_self _ _ _ | exact ax_newA_self _ _ _ | refine (ax_set_ne _ _ (by omega)).trans ?_ | refine (ax_newA_ne _ _ _ (by omega)).trans ?_) rfl rfl rfl rfl rfl ?_
  refine s_X8_clear t1 (by omega) (fun h2 f2 t2 => ?_)
  show WP Γ _ _ _ _ _ _ _
  refine wp_iload_n (n := 30) dX9_endReading_29 rfl rfl ?_
  exact wp_ireturn dX9_endReading_30 rfl rfl (k h2 ((f1.to (lo := p) (hi := p + 3) (by omega)).tr (lo := p) (hi := p + 3) f2 (by omega) (by omega)) (hF1.fr f2 (by omega)) ⟨_, _, _, _, _, t2⟩)
theorem s_X9_useDraft (hF : FacC h p b D er) (hA : Γ.2.1 ≤ p)
    (k : ∀ h', ax_fr p (p + 1) h h' → FacC h' p D b er → Q (.inl none) h') : WP Γ MX9_useDraft (0, 0, 0, 0) 0 [some (.ref p), none] [] h Q := by
  have hF0 := hF
  unfold FacC at hF
  refine wp_aload_n (n := 1) dX9_useDraft_0 rfl rfl ?_
  refine wp_getf (n := 4) dX9_useDraft_1 rfl flX9_39 (by repeat first | assumption | exact ax_set_self _ _ _ | exact ax_newA_self _ _ _ | refine (ax_set_ne _ _ (by omega)).trans ?_ | refine (ax_newA_ne _ _ _ (by omega)).trans ?_) (by rfl) ?_
  refine wp_astore_n (n := 5) dX9_useDraft_4 rfl rfl rfl rfl ?_
  refine wp_aload_n (n := 6) dX9_useDraft_5 rfl rfl ?_
  refine wp_aload_n (n := 7) dX9_useDraft_6 rfl rfl ?_
  refine wp_getf (n := 10) dX9_useDraft_7 rfl flX9_43 (by repeat first | assumption | exact ax_set_self _ _ _ | exact ax_newA_self _ _ _ | refine (ax_set_ne _ _ (by omega)).trans ?_ | refine (ax_newA_ne _ _ _ (by omega)).trans ?_) (by rfl) ?_
  refine wp_putf (n := 13) dX9_useDraft_10 rfl flX9_39 (by repeat first | assumption | exact ax_set_self _ _ _ | exact ax_newA_self _ _ _ | refine (ax_set_ne _ _ (by omega)).trans ?_ | refine (ax_newA_ne _ _ _ (by omega)).trans ?_) (by omega) (by rfl) rfl rfl ?_
  refine wp_aload_n (n := 14) dX9_useDraft_13 rfl rfl ?_
  refine wp_aload_n (n := 15) dX9_useDraft_14 rfl rfl ?_
  refine wp_putf (n := 18) dX9_useDraft_15 rfl flX9_43 (by repeat first | assumption | exact ax_set_self _ _ _ | exact ax_newA_self _ _ _ | refine (ax_set_ne _ _ (by omega)).trans ?_ | refine (ax_newA_ne _ _ _ (by omega)).trans ?_) (by omega) (by rfl) rfl rfl ?_
  exact wp_return dX9_useDraft_18 rfl (k _ ((ax_fr.set (lo := p) (hi := p + 1) (by omega)).put (by omega)) (ax_set_self _ _ _))
theorem s_X9_load (hF : FacC h p b D er) (hR3 : h.2 (p + 3) = some (.inr (3, [.ref (p + 1)]))) (hT : TxI h (p + 1) bs len) (hX : LedX h D) (hA : Γ.2.1 ≤ p) (hD : p + 7 ≤ D) (hl : len ≤ 500) (hF9 : FreeAt Γ h)
    (k0 : ∀ e pos h', DesT bs len (.inl (e, pos)) → h'.1 = h.1 → (∀ a, p + 3 ≤ a → (a < D ∨ D + 19 ≤ a) → h'.2 a = h.2 a) → (∀ a, a < p → h'.2 a = h.2 a) → FacC h' p b D e → TxI h' (p + 1) bs 0 → LedX h' D → Q (.inl (some (.int (-100 - nI pos)))) h')
    (k1 : ∀ K h', DesT bs len (.inr K) → h'.1 = h.1 → (∀ a, p + 3 ≤ a → (a < D ∨ D + 19 ≤ a) → h'.2 a = h.2 a) → (∀ a, a < p → h'.2 a = h.2 a) → FacC h' p D b 0 → TxI h' (p + 1) bs 0 → LedK h' D K → Q (.inl (some (.int (nI K.1.1)))) h') : WP Γ MX9_load (8, 174, 0, 0) 0 [some (.ref p), none, none] [] h Q := by
  have hF0 := hF
  unfold FacC at hF
  obtain ⟨kd, st, bh, e1, ea, hT⟩ := hT
  obtain ⟨np2, qu2, ra2, re2, le2, ln2, nb2, pl2, tm2, ne2, rw2, bk2, nh2, hw2, nc2, cw2, t2, y2, pk2, hX⟩ := hX
  refine wp_aload_n (n := 1) dX9_load_0 rfl rfl ?_
  refine wp_getf (n := 4) dX9_load_1 rfl flX9_21 (by repeat first | assumption | exact ax_set_self _ _ _ | exact ax_newA_self _ _ _ | refine (ax_set_ne _ _ (by omega)).trans ?_ | refine (ax_newA_ne _ _ _ (by omega)).trans ?_) (by rfl) ?_
  refine wp_aload_n (n := 5) dX9_load_4 rfl rfl ?_
  refine wp_getf (n := 8) dX9_load_5 rfl flX9_43 (by repeat first | assumption | exact ax_set_self _ _ _ | exact ax_newA_self _ _ _ | refine (ax_set_ne _ _ (by omega)).trans ?_ | refine (ax_newA_ne _ _ _ (by omega)).trans ?_) (by rfl) ?_
  refine wp_callV1 (n := 11) (rm' := (7, 152, 0, 0)) rfl dX9_load_8 rfl mlX9_65 (by repeat first | assumption | exact ax_set_self _ _ _ | exact ax_newA_self _ _ _ | refine (ax_set_ne _ _ (by omega)).trans ?_ | refine (ax_newA_ne _ _ _ (by omega)).trans ?_) rfl rfl rfl rfl rfl ?_
  refine s_X3_readInto hR3 hT hX (by omega) (by omega) (by omega) (by omega) hl hF9 (fun e pos h1 d1 f1 g1 t1 x1 => ?_) (fun K w h1 d1 f1 g1 t1 hK => ?_)
  · show WP Γ _ _ _ _ _ _ _
    obtain ⟨kd1, st1, bh1, t1⟩ := t1
    have hF1 : FacC h1 p b D er := (f1.2 p (by omega)).trans hF
    have hF2 := hF1
    unfold FacC at hF2
    refine wp_istore_n (n := 12) dX9_load_11 rfl rfl rfl rfl ?_
    refine wp_aload_n (n := 13) dX9_load_12 rfl rfl ?_
    refine wp_callV0 (n := 16) (rm' := (1, 20, 0, 0)) rfl dX9_load_13 rfl mlX9_69 (by repeat first | assumption | exact ax_set_self _ _ _ | exact ax_newA_self _ _ _ | refine (ax_set_ne _ _ (by omega)).trans ?_ | refine (ax_newA_ne _ _ _ (by omega)).trans ?_) rfl rfl rfl rfl rfl ?_
    refine s_X9_endReading hF1 t1 hA (fun h2 f2 hF3 t2 => ?_)
    show WP Γ _ _ _ _ _ _ _
    refine wp_istore_n (n := 17) dX9_load_16 rfl rfl rfl rfl ?_
    refine wp_iload_n (n := 18) dX9_load_17 rfl rfl ?_
    refine wp_if_ne (t := 23) (n := 21) dX9_load_18 (by decide) rfl (fun hc => ?_) (fun hc => ?_)
    · exact absurd rfl hc
    · refine wp_iload_n (n := 22) dX9_load_21 rfl rfl ?_
      exact wp_ireturn dX9_load_22 rfl rfl (k0 e pos h2 d1 (f2.1.trans f1.1) (fun a h1 h2 => (f2.2 a (by omega)).trans (by rcases h2 with z | z; exact g1 a (by omega) z; exact f1.2 a (by omega))) (fun a h1 => (f2.2 a (by omega)).trans (f1.2 a (by omega))) hF3 t2 (by obtain ⟨a1, a2, a3, a4, a5, a6, a7, a8, a9, a10, a11, a12, a13, a14, a15, a16, a17, a18, a19, x1⟩ := x1; exact (x1.fr f2 (by omega)).led))
  · show WP Γ _ _ _ _ _ _ _
    obtain ⟨kd1, st1, t1⟩ := t1
    have hF1 : FacC h1 p b D er := (f1.2 p (by omega)).trans hF
    have hF2 := hF1
    unfold FacC at hF2
    refine wp_istore_n (n := 12) dX9_load_11 rfl rfl rfl rfl ?_
    refine wp_aload_n (n := 13) dX9_load_12 rfl rfl ?_
    refine wp_callV0 (n := 16) (rm' := (1, 20, 0, 0)) rfl dX9_load_13 rfl mlX9_69 (by repeat first | assumption | exact ax_set_self _ _ _ | exact ax_newA_self _ _ _ | refine (ax_set_ne _ _ (by omega)).trans ?_ | refine (ax_newA_ne _ _ _ (by omega)).trans ?_) rfl rfl rfl rfl rfl ?_
    refine s_X9_endReading hF1 t1 hA (fun h2 f2 hF3 t2 => ?_)
    show WP Γ _ _ _ _ _ _ _
    have hF4 := hF3
    unfold FacC at hF4
    refine wp_istore_n (n := 17) dX9_load_16 rfl rfl rfl rfl ?_
    refine wp_iload_n (n := 18) dX9_load_17 rfl rfl ?_
    refine wp_if_ne (t := 23) (n := 21) dX9_load_18 (by decide) rfl (fun hc => ?_) (fun hc => ?_)
    · refine wp_aload_n (n := 24) dX9_load_23 rfl rfl ?_
      refine wp_callV0 (n := 27) (rm' := (0, 0, 0, 0)) rfl dX9_load_24 rfl mlX9_73 (by repeat first | assumption | exact ax_set_self _ _ _ | exact ax_newA_self _ _ _ | refine (ax_set_ne _ _ (by omega)).trans ?_ | refine (ax_newA_ne _ _ _ (by omega)).trans ?_) rfl rfl rfl rfl rfl ?_
      refine s_X9_useDraft hF3 hA (fun h3 f3 hF5 => ?_)
      show WP Γ _ _ _ _ _ _ _
      have hF6 := hF5
      unfold FacC at hF6
      have hK3 : LedK h3 D K := LedAt.fr (LedAt.fr hK f2 (by omega)) f3 (by omega)
      obtain ⟨pk3, hL3⟩ := id hK3
      have hO3 := hL3.1
      have hP3 := hL3.2.1.1
      refine wp_aload_n (n := 28) dX9_load_27 rfl rfl ?_
      refine wp_getf (n := 31) dX9_load_28 rfl flX9_39 (by repeat first | assumption | exact ax_set_self _ _ _ | exact ax_newA_self _ _ _ | refine (ax_set_ne _ _ (by omega)).trans ?_ | refine (ax_newA_ne _ _ _ (by omega)).trans ?_) (by rfl) ?_
      refine wp_getf (n := 34) dX9_load_31 rfl flX9_76 (by repeat first | assumption | exact ax_set_self _ _ _ | exact ax_newA_self _ _ _ | refine (ax_set_ne _ _ (by omega)).trans ?_ | refine (ax_newA_ne _ _ _ (by omega)).trans ?_) (by rfl) ?_
      refine wp_getf (n := 37) dX9_load_34 rfl flX9_80 (by repeat first | assumption | exact ax_set_self _ _ _ | exact ax_newA_self _ _ _ | refine (ax_set_ne _ _ (by omega)).trans ?_ | refine (ax_newA_ne _ _ _ (by omega)).trans ?_) (by rfl) ?_
      exact wp_ireturn dX9_load_37 rfl rfl (k1 K h3 d1 (f3.1.trans (f2.1.trans f1.1)) (fun a h1 h2 => (f3.2 a (by omega)).trans ((f2.2 a (by omega)).trans (by rcases h2 with z | z; exact g1 a (by omega) z; exact f1.2 a (by omega)))) (fun a h1 => (f3.2 a (by omega)).trans ((f2.2 a (by omega)).trans (f1.2 a (by omega)))) hF5 (t2.fr f3 (by omega)) hK3)
    · exact absurd hc (by decide)
end
