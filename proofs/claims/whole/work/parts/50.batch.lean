/-! ===== the face: batch ===== -/
/-- commands k, k + 1 .. on a ledger: the first that can't be carried out, or the ledger behind all -/
def CarR (rs : FI) : Nat → Nat → KL → Nat ⊕ KL → Prop
  | 0, _, K, out => out = .inr K
  | g + 1, k, K, out => ∃ c, rs (k * 5 + 0) = nI c ∧ ((CmdR c (rs (k * 5 + 1)) (rs (k * 5 + 2)) (rs (k * 5 + 3)) (rs (k * 5 + 4)) K none ∧ out = .inl k) ∨ ∃ K', CmdR c (rs (k * 5 + 1)) (rs (k * 5 + 2)) (rs (k * 5 + 3)) (rs (k * 5 + 4)) K (some K') ∧ CarR rs g (k + 1) K' out)
theorem CmdR.np {c : Nat} {v f g l : Int32} {K K' : KL} (h : CmdR c v f g l K (some K')) : K'.1.1 = K.1.1 := by
  obtain ⟨⟨np, qu, ra, re, le, ln⟩, ⟨nb, pl, tm⟩, ⟨ne, rw, bk⟩, ⟨nh, hw⟩, ⟨nc, cw⟩, t, y⟩ := K
  rcases h with ⟨_, m, i, j, _, _, _, _, _, _, z | ⟨K2, ⟨_, _, bk', pk', _, _, rfl⟩, e⟩⟩ | ⟨_, m, i, j, _, _, _, _, _, _, _, z | ⟨K2, ⟨_, _, rfl⟩, e⟩⟩ | ⟨_, m, tn, _, _, _, _, _, z | ⟨K2, ⟨_, _, _, re', hw', _, _, _, rfl⟩, e⟩⟩ | ⟨_, m, _, _, z | ⟨j, _, _, _, ⟨r, _, z⟩ | ⟨K2, ⟨_, _, _, _, _, bk', pk', _, _, rfl⟩, e⟩⟩⟩
  · exact absurd z.2 (by simp)
  · cases e; rfl
  · exact absurd z.2 (by simp)
  · cases e; rfl
  · exact absurd z.2 (by simp)
  · cases e; rfl
  · exact absurd z.2 (by simp)
  · exact absurd z (by simp)
  · cases e; rfl
section
variable {Γ : GE} {h : AH} {Q : PO} {q p D n b len np nb ne nh nc y : Nat} {bs rs : FI} {qu ra le ln pl tm rw hw cw pk : FI} {re : Nat → UInt32} {bk : Nat → Int64} {t x er : Int32}
theorem s_X0_carryOut {K0 : KL} (hB : BatAt h q p n rs) (hL : LedK h b K0) (hI : InvK K0) (hV : VR K0.1.1 rs n) (hn : n ≤ 100) (hA : Γ.2.1 ≤ b) (hqb : q + 2 ≤ b)
    (kF : ∀ k h', CarR rs n 0 K0 (.inl k) → k < n → ax_fr b (b + 19) h h' → LedX h' b → Q (.inl (some (.int (nI k)))) h')
    (kO : ∀ K h', CarR rs n 0 K0 (.inr K) → InvK K → ax_fr b (b + 19) h h' → LedK h' b K → Q (.inl (some (.int (nI n)))) h') : WP Γ MX0_carryOut (5, 125, 0, 0) 0 [some (.ref q), some (.ref b), none] [] h Q := by
  refine wp_iconst (n := 1) (v := 0) dX0_carryOut_0 rfl (by decide) ?_
  refine wp_istore_n (n := 2) dX0_carryOut_1 rfl rfl rfl rfl ?_
  have L : ∀ g k K h1, k + g = n → K.1.1 = K0.1.1 → InvK K → ax_fr b (b + 19) h h1 → LedK h1 b K → (∀ k' h', CarR rs g k K (.inl k') → k' < n → ax_fr b (b + 19) h h' → LedX h' b → Q (.inl (some (.int (nI k')))) h') → (∀ K' h', CarR rs g k K (.inr K') → InvK K' → ax_fr b (b + 19) h h' → LedK h' b K' → Q (.inl (some (.int (nI n)))) h') → WP Γ MX0_carryOut (5, 125, 0, 0) 2 [some (.ref q), some (.ref b), some (.int (nI k))] [] h1 Q := by
    intro g
    induction g with
    | zero =>
      intro k K h1 e1 e2 iv f1 hK kF kO
      have hO := f1.get hB.1 (by omega)
      refine wp_iload_n (n := 3) dX0_carryOut_2 rfl rfl ?_
      refine wp_aload_n (n := 4) dX0_carryOut_3 rfl rfl ?_
      refine wp_getf (n := 7) dX0_carryOut_4 rfl flX0_15 (by repeat first | assumption | exact ax_set_self _ _ _ | exact ax_newA_self _ _ _ | refine (ax_set_ne _ _ (by omega)).trans ?_ | refine (ax_newA_ne _ _ _ (by omega)).trans ?_) (by rfl) ?_
      refine wp_icmp_ge (t := 29) (n := 10) dX0_carryOut_7 (by decide) rfl (fun hc => ?_) (fun hc => ?_)
      · refine wp_aload_n (n := 30) dX0_carryOut_29 rfl rfl ?_
        refine wp_getf (n := 33) dX0_carryOut_30 rfl flX0_15 (by repeat first | assumption | exact ax_set_self _ _ _ | exact ax_newA_self _ _ _ | refine (ax_set_ne _ _ (by omega)).trans ?_ | refine (ax_newA_ne _ _ _ (by omega)).trans ?_) (by rfl) ?_
        exact wp_ireturn dX0_carryOut_33 rfl rfl (kO K h1 rfl iv f1 hK)
      · rw [nI_le9 (by omega) (by omega)] at hc
        exact absurd (by omega) hc
    | succ g ih =>
      intro k K h1 e1 e2 iv f1 hK kF kO
      have hB1 := hB.fr f1 (by omega)
      have hO := hB1.1
      obtain ⟨pk1, hL1⟩ := id hK
      have hLO := hL1.1
      obtain ⟨c, c1, c2⟩ := hV k (by omega)
      rw [← e2] at c2
      refine wp_iload_n (n := 3) dX0_carryOut_2 rfl rfl ?_
      refine wp_aload_n (n := 4) dX0_carryOut_3 rfl rfl ?_
      refine wp_getf (n := 7) dX0_carryOut_4 rfl flX0_15 (by repeat first | assumption | exact ax_set_self _ _ _ | exact ax_newA_self _ _ _ | refine (ax_set_ne _ _ (by omega)).trans ?_ | refine (ax_newA_ne _ _ _ (by omega)).trans ?_) (by rfl) ?_
      refine wp_icmp_ge (t := 29) (n := 10) dX0_carryOut_7 (by decide) rfl (fun hc => ?_) (fun hc => ?_)
      · rw [nI_le9 (by omega) (by omega)] at hc
        exact absurd hc (by omega)
      · refine wp_aload_n (n := 11) dX0_carryOut_10 rfl rfl ?_
        refine wp_iload_n (n := 12) dX0_carryOut_11 rfl rfl ?_
        refine wp_iconst (n := 13) (v := nI 5) dX0_carryOut_12 rfl (by decide) ?_
        refine wp_imul (n := 14) dX0_carryOut_13 rfl ?_
        refine wp_aload_n (n := 15) dX0_carryOut_14 rfl rfl ?_
        refine wp_callV2 (n := 18) (rm' := (4, 99, 0, 0)) rfl dX0_carryOut_15 rfl mlX0_39 (by repeat first | assumption | exact ax_set_self _ _ _ | exact ax_newA_self _ _ _ | refine (ax_set_ne _ _ (by omega)).trans ?_ | refine (ax_newA_ne _ _ _ (by omega)).trans ?_) rfl rfl rfl rfl rfl ?_
        refine s_X0_carryOutOne hB1 hL1 iv hA (by omega) c1 c2 (fun r h2 r1 r2 f2 x2 => ?_) (fun r K' h2 r1 r2 iv2 f2 hK2 => ?_)
        · show WP Γ _ _ _ _ _ _ _
          obtain ⟨pk2, x2⟩ := x2
          refine wp_if_ge (t := 23) (n := 21) dX0_carryOut_18 (by decide) rfl (fun hq => ?_) (fun hq => ?_)
          · exact absurd r1 (Int32.not_lt.mpr hq)
          · refine wp_iload_n (n := 22) dX0_carryOut_21 rfl rfl ?_
            exact wp_ireturn dX0_carryOut_22 rfl rfl (kF k h2 ⟨c, c1, Or.inl ⟨r2, rfl⟩⟩ (by omega) (f1.tr (lo := b) (hi := b + 19) f2 (by omega) (by omega)) x2.led)
        · show WP Γ _ _ _ _ _ _ _
          refine wp_if_ge (t := 23) (n := 21) dX0_carryOut_18 (by decide) rfl (fun hq => ?_) (fun hq => ?_)
          · refine wp_iinc (n := 26) dX0_carryOut_23 rfl rfl (nI_inc k) rfl rfl rfl ?_
            refine wp_goto (t := 2) dX0_carryOut_26 (by decide) ?_
            exact ih (k + 1) K' h2 (by omega) (r2.np.trans e2) iv2 (f1.tr (lo := b) (hi := b + 19) f2 (by omega) (by omega)) hK2 (fun k' h' z => kF k' h' ⟨c, c1, Or.inr ⟨K', r2, z⟩⟩) (fun K2 h' z => kO K2 h' ⟨c, c1, Or.inr ⟨K', r2, z⟩⟩)
          · exact absurd (i32_not_le hq) r1
  exact L n 0 K0 h (by omega) rfl hI ax_fr.rf hL kF kO
theorem s_X9_batch (hF : FacC h p b D er) (hT : TxI h (p + 1) bs len) (hB : BatAt h (p + 4) (p + 1) n rs) (hL : LedP h b np qu ra re le ln nb pl tm ne rw bk nh hw nc cw t y pk) (hI : Inv np qu ra re le ln nb pl tm ne rw bk nh hw nc cw t y) (hX : LedX h D) (hA : Γ.2.1 ≤ p) (hb : p + 7 ≤ b) (hD : p + 7 ≤ D) (hbD : b + 19 ≤ D ∨ D + 19 ≤ b) (hl : len ≤ 500)
    (k0 : ∀ e pos h' n' rs', batT np le ln bs len rs = .inl (e, pos) → h'.1 = h.1 → (∀ a, p + 6 ≤ a → h'.2 a = h.2 a) → h'.2 (p + 3) = h.2 (p + 3) → (∀ a, a < p → h'.2 a = h.2 a) → FacC h' p b D e → TxI h' (p + 1) bs 0 → BatAt h' (p + 4) (p + 1) n' rs' → Q (.inl (some (.int (-100 - nI pos)))) h')
    (k1 : ∀ n' rs' k h', batT np le ln bs len rs = .inr (rs', n') → CarR rs' n' 0 (mkK np qu ra re le ln nb pl tm ne rw bk nh hw nc cw t y) (.inl k) → k < n' → h'.1 = h.1 → (∀ a, p + 6 ≤ a → (a < D ∨ D + 19 ≤ a) → h'.2 a = h.2 a) → h'.2 (p + 3) = h.2 (p + 3) → (∀ a, a < p → h'.2 a = h.2 a) → FacC h' p b D 0 → TxI h' (p + 1) bs 0 → BatAt h' (p + 4) (p + 1) n' rs' → LedX h' D → Q (.inl (some (.int (-1000 - nI k)))) h')
    (k2 : ∀ n' rs' K h', batT np le ln bs len rs = .inr (rs', n') → CarR rs' n' 0 (mkK np qu ra re le ln nb pl tm ne rw bk nh hw nc cw t y) (.inr K) → InvK K → h'.1 = h.1 → (∀ a, p + 6 ≤ a → (a < D ∨ D + 19 ≤ a) → h'.2 a = h.2 a) → h'.2 (p + 3) = h.2 (p + 3) → (∀ a, a < p → h'.2 a = h.2 a) → FacC h' p D b 0 → TxI h' (p + 1) bs 0 → BatAt h' (p + 4) (p + 1) n' rs' → LedK h' D K → Q (.inl (some (.int (nI n')))) h') : WP Γ MX9_batch (7, 155, 0, 0) 0 [some (.ref p), none, none, none] [] h Q := by
  have hF0 := hF
  unfold FacC at hF
  obtain ⟨kd, st, bh, e1, ea, hT⟩ := hT
  obtain ⟨⟨s1, s2, s3, s4, s5, s6, s7, s8, tn, s9, s10⟩, IM, IP, _⟩ := id hI
  have hLO := hL.1
  have hP1 := hL.2.1
  have hBO := hB.1
  refine wp_aload_n (n := 1) dX9_batch_0 rfl rfl ?_
  refine wp_getf (n := 4) dX9_batch_1 rfl flX9_28 (by repeat first | assumption | exact ax_set_self _ _ _ | exact ax_newA_self _ _ _ | refine (ax_set_ne _ _ (by omega)).trans ?_ | refine (ax_newA_ne _ _ _ (by omega)).trans ?_) (by rfl) ?_
  refine wp_aload_n (n := 5) dX9_batch_4 rfl rfl ?_
  refine wp_getf (n := 8) dX9_batch_5 rfl flX9_39 (by repeat first | assumption | exact ax_set_self _ _ _ | exact ax_newA_self _ _ _ | refine (ax_set_ne _ _ (by omega)).trans ?_ | refine (ax_newA_ne _ _ _ (by omega)).trans ?_) (by rfl) ?_
  refine wp_getf (n := 11) dX9_batch_8 rfl flX9_76 (by repeat first | assumption | exact ax_set_self _ _ _ | exact ax_newA_self _ _ _ | refine (ax_set_ne _ _ (by omega)).trans ?_ | refine (ax_newA_ne _ _ _ (by omega)).trans ?_) (by rfl) ?_
  refine wp_callV1 (n := 14) (rm' := (6, 133, 0, 0)) rfl dX9_batch_11 rfl mlX9_99 (by repeat first | assumption | exact ax_set_self _ _ _ | exact ax_newA_self _ _ _ | refine (ax_set_ne _ _ (by omega)).trans ?_ | refine (ax_newA_ne _ _ _ (by omega)).trans ?_) rfl rfl rfl rfl rfl ?_
  refine s_X0_read hB hT hP1 (by omega) (by omega) (by omega) hl s2 (fun j hj => by obtain ⟨_, _, _, m, a1, a2, a3, _⟩ := IP j hj; exact ⟨m, a3, a2⟩) (fun e pos h1 n1 rs1 q1 f1 g1 t1 b1 => ?_) (fun n1 rs1 w h1 q1 v1 n2 f1 g1 t1 b1 => ?_)
  · show WP Γ _ _ _ _ _ _ _
    obtain ⟨kd1, st1, bh1, t1⟩ := t1
    have hF1 : FacC h1 p b D er := (f1.2 p (by omega)).trans hF
    have hF2 := hF1
    unfold FacC at hF2
    refine wp_istore_n (n := 15) dX9_batch_14 rfl rfl rfl rfl ?_
    refine wp_aload_n (n := 16) dX9_batch_15 rfl rfl ?_
    refine wp_callV0 (n := 19) (rm' := (1, 20, 0, 0)) rfl dX9_batch_16 rfl mlX9_69 (by repeat first | assumption | exact ax_set_self _ _ _ | exact ax_newA_self _ _ _ | refine (ax_set_ne _ _ (by omega)).trans ?_ | refine (ax_newA_ne _ _ _ (by omega)).trans ?_) rfl rfl rfl rfl rfl ?_
    refine s_X9_endReading hF1 t1 hA (fun h2 f2 hF3 t2 => ?_)
    show WP Γ _ _ _ _ _ _ _
    refine wp_istore_n (n := 20) dX9_batch_19 rfl rfl rfl rfl ?_
    refine wp_iload_n (n := 21) dX9_batch_20 rfl rfl ?_
    refine wp_if_ne (t := 26) (n := 24) dX9_batch_21 (by decide) rfl (fun hc => ?_) (fun hc => ?_)
    · exact absurd rfl hc
    · refine wp_iload_n (n := 25) dX9_batch_24 rfl rfl ?_
      exact wp_ireturn dX9_batch_25 rfl rfl (k0 e pos h2 n1 rs1 q1 (f2.1.trans f1.1) (fun a h1 => (f2.2 a (by omega)).trans (f1.2 a (by omega))) ((f2.2 (p + 3) (by omega)).trans (g1 (p + 3) (by omega) (by omega))) (fun a h1 => (f2.2 a (by omega)).trans (f1.2 a (by omega))) hF3 t2 (b1.fr f2 (by omega)))
  · show WP Γ _ _ _ _ _ _ _
    obtain ⟨kd1, st1, t1⟩ := t1
    have hF1 : FacC h1 p b D er := (f1.2 p (by omega)).trans hF
    have hF2 := hF1
    unfold FacC at hF2
    refine wp_istore_n (n := 15) dX9_batch_14 rfl rfl rfl rfl ?_
    refine wp_aload_n (n := 16) dX9_batch_15 rfl rfl ?_
    refine wp_callV0 (n := 19) (rm' := (1, 20, 0, 0)) rfl dX9_batch_16 rfl mlX9_69 (by repeat first | assumption | exact ax_set_self _ _ _ | exact ax_newA_self _ _ _ | refine (ax_set_ne _ _ (by omega)).trans ?_ | refine (ax_newA_ne _ _ _ (by omega)).trans ?_) rfl rfl rfl rfl rfl ?_
    refine s_X9_endReading hF1 t1 hA (fun h2 f2 hF3 t2 => ?_)
    show WP Γ _ _ _ _ _ _ _
    have hF4 := hF3
    unfold FacC at hF4
    have b2 := b1.fr f2 (by omega)
    have b21 := b2.1
    obtain ⟨np2, qu2, ra2, re2, le2, ln2, nb2, pl2, tm2, ne2, rw2, bk2, nh2, hw2, nc2, cw2, t2', y2, pk2, hX⟩ := hX
    have hX2 := (hX.fr f1 (by omega)).fr f2 (by omega)
    have hL2 := (hL.fr f1 (by omega)).fr f2 (by omega)
    have hX21 := hX2.1
    have hL21 := hL2.1
    have z12 : h2.1 = h.1 := f2.1.trans f1.1
    have e12 : ∀ a, p + 6 ≤ a → h2.2 a = h.2 a := fun a h1 => (f2.2 a (by omega)).trans (f1.2 a (by omega))
    have e3 : h2.2 (p + 3) = h.2 (p + 3) := (f2.2 (p + 3) (by omega)).trans (g1 (p + 3) (by omega) (by omega))
    have e0 : ∀ a, a < p → h2.2 a = h.2 a := fun a h1 => (f2.2 a (by omega)).trans (f1.2 a (by omega))
    refine wp_istore_n (n := 20) dX9_batch_19 rfl rfl rfl rfl ?_
    refine wp_iload_n (n := 21) dX9_batch_20 rfl rfl ?_
    refine wp_if_ne (t := 26) (n := 24) dX9_batch_21 (by decide) rfl (fun hc => ?_) (fun hc => ?_)
    · refine wp_aload_n (n := 27) dX9_batch_26 rfl rfl ?_
      refine wp_getf (n := 30) dX9_batch_27 rfl flX9_43 (by repeat first | assumption | exact ax_set_self _ _ _ | exact ax_newA_self _ _ _ | refine (ax_set_ne _ _ (by omega)).trans ?_ | refine (ax_newA_ne _ _ _ (by omega)).trans ?_) (by rfl) ?_
      refine wp_aload_n (n := 31) dX9_batch_30 rfl rfl ?_
      refine wp_getf (n := 34) dX9_batch_31 rfl flX9_39 (by repeat first | assumption | exact ax_set_self _ _ _ | exact ax_newA_self _ _ _ | refine (ax_set_ne _ _ (by omega)).trans ?_ | refine (ax_newA_ne _ _ _ (by omega)).trans ?_) (by rfl) ?_
      refine wp_callV1 (n := 37) (rm' := (2, 81, 0, 0)) rfl dX9_batch_34 rfl mlX9_103 (by repeat first | assumption | exact ax_set_self _ _ _ | exact ax_newA_self _ _ _ | refine (ax_set_ne _ _ (by omega)).trans ?_ | refine (ax_newA_ne _ _ _ (by omega)).trans ?_) rfl rfl rfl rfl rfl ?_
      refine s_X5_copyFrom hX2 hL2 (by omega) (by omega) (fun h3 f3 hL3 => ?_)
      show WP Γ _ _ _ _ _ _ _
      have hF5 := hF3.fr f3 (by omega)
      have hF6 := hF5
      unfold FacC at hF6
      have b3 := b2.fr f3 (by omega)
      have b31 := b3.1
      have hD3 := hL3.1
      have t3 := t2.fr f3 (by omega)
      refine wp_aload_n (n := 38) dX9_batch_37 rfl rfl ?_
      refine wp_getf (n := 41) dX9_batch_38 rfl flX9_28 (by repeat first | assumption | exact ax_set_self _ _ _ | exact ax_newA_self _ _ _ | refine (ax_set_ne _ _ (by omega)).trans ?_ | refine (ax_newA_ne _ _ _ (by omega)).trans ?_) (by rfl) ?_
      refine wp_aload_n (n := 42) dX9_batch_41 rfl rfl ?_
      refine wp_getf (n := 45) dX9_batch_42 rfl flX9_43 (by repeat first | assumption | exact ax_set_self _ _ _ | exact ax_newA_self _ _ _ | refine (ax_set_ne _ _ (by omega)).trans ?_ | refine (ax_newA_ne _ _ _ (by omega)).trans ?_) (by rfl) ?_
      refine wp_callV1 (n := 48) (rm' := (5, 125, 0, 0)) rfl dX9_batch_45 rfl mlX9_107 (by repeat first | assumption | exact ax_set_self _ _ _ | exact ax_newA_self _ _ _ | refine (ax_set_ne _ _ (by omega)).trans ?_ | refine (ax_newA_ne _ _ _ (by omega)).trans ?_) rfl rfl rfl rfl rfl ?_
      refine s_X0_carryOut (K0 := mkK np qu ra re le ln nb pl tm ne rw bk nh hw nc cw t y) b3 ⟨_, hL3⟩ hI v1 n2 (by omega) (by omega) (fun k h4 c4 k4 f4 x4 => ?_) (fun K h4 c4 iv4 f4 hK4 => ?_)
      · show WP Γ _ _ _ _ _ _ _
        have hF7 := hF5.fr f4 (by omega)
        have hF8 := hF7
        unfold FacC at hF8
        have b4 := b3.fr f4 (by omega)
        have b41 := b4.1
        refine wp_istore_n (n := 49) dX9_batch_48 rfl rfl rfl rfl ?_
        refine wp_iload_n (n := 50) dX9_batch_49 rfl rfl ?_
        refine wp_aload_n (n := 51) dX9_batch_50 rfl rfl ?_
        refine wp_getf (n := 54) dX9_batch_51 rfl flX9_28 (by repeat first | assumption | exact ax_set_self _ _ _ | exact ax_newA_self _ _ _ | refine (ax_set_ne _ _ (by omega)).trans ?_ | refine (ax_newA_ne _ _ _ (by omega)).trans ?_) (by rfl) ?_
        refine wp_getf (n := 57) dX9_batch_54 rfl flX9_111 (by repeat first | assumption | exact ax_set_self _ _ _ | exact ax_newA_self _ _ _ | refine (ax_set_ne _ _ (by omega)).trans ?_ | refine (ax_newA_ne _ _ _ (by omega)).trans ?_) (by rfl) ?_
        refine wp_icmp_ge (t := 66) (n := 60) dX9_batch_57 (by decide) rfl (fun hq => ?_) (fun hq => ?_)
        · rw [nI_le9 (by omega) (by omega)] at hq
          exact absurd hq (by omega)
        · refine wp_sipush (n := 63) (v := (-1000)) dX9_batch_60 rfl (by decide) ?_
          refine wp_iload_n (n := 64) dX9_batch_63 rfl rfl ?_
          refine wp_isub (n := 65) dX9_batch_64 rfl ?_
          exact wp_ireturn dX9_batch_65 rfl rfl (k1 n1 rs1 k h4 q1 c4 k4 (f4.1.trans (f3.1.trans z12)) (fun a h1 h2 => (f4.2 a (by omega)).trans ((f3.2 a (by omega)).trans (e12 a h1))) ((f4.2 _ (by omega)).trans ((f3.2 _ (by omega)).trans e3)) (fun a h1 => (f4.2 a (by omega)).trans ((f3.2 a (by omega)).trans (e0 a h1))) hF7 (t3.fr f4 (by omega)) b4 x4)
      · show WP Γ _ _ _ _ _ _ _
        have hF7 := hF5.fr f4 (by omega)
        have hF8 := hF7
        unfold FacC at hF8
        have b4 := b3.fr f4 (by omega)
        have b41 := b4.1
        refine wp_istore_n (n := 49) dX9_batch_48 rfl rfl rfl rfl ?_
        refine wp_iload_n (n := 50) dX9_batch_49 rfl rfl ?_
        refine wp_aload_n (n := 51) dX9_batch_50 rfl rfl ?_
        refine wp_getf (n := 54) dX9_batch_51 rfl flX9_28 (by repeat first | assumption | exact ax_set_self _ _ _ | exact ax_newA_self _ _ _ | refine (ax_set_ne _ _ (by omega)).trans ?_ | refine (ax_newA_ne _ _ _ (by omega)).trans ?_) (by rfl) ?_
        refine wp_getf (n := 57) dX9_batch_54 rfl flX9_111 (by repeat first | assumption | exact ax_set_self _ _ _ | exact ax_newA_self _ _ _ | refine (ax_set_ne _ _ (by omega)).trans ?_ | refine (ax_newA_ne _ _ _ (by omega)).trans ?_) (by rfl) ?_
        refine wp_icmp_ge (t := 66) (n := 60) dX9_batch_57 (by decide) rfl (fun hq => ?_) (fun hq => ?_)
        · refine wp_aload_n (n := 67) dX9_batch_66 rfl rfl ?_
          refine wp_callV0 (n := 70) (rm' := (0, 0, 0, 0)) rfl dX9_batch_67 rfl mlX9_73 (by repeat first | assumption | exact ax_set_self _ _ _ | exact ax_newA_self _ _ _ | refine (ax_set_ne _ _ (by omega)).trans ?_ | refine (ax_newA_ne _ _ _ (by omega)).trans ?_) rfl rfl rfl rfl rfl ?_
          refine s_X9_useDraft hF7 hA (fun h5 f5 hF9 => ?_)
          show WP Γ _ _ _ _ _ _ _
          refine wp_iload_n (n := 71) dX9_batch_70 rfl rfl ?_
          exact wp_ireturn dX9_batch_71 rfl rfl (k2 n1 rs1 K h5 q1 c4 iv4 (f5.1.trans (f4.1.trans (f3.1.trans z12))) (fun a h1 h2 => (f5.2 a (by omega)).trans ((f4.2 a (by omega)).trans ((f3.2 a (by omega)).trans (e12 a h1)))) ((f5.2 _ (by omega)).trans ((f4.2 _ (by omega)).trans ((f3.2 _ (by omega)).trans e3))) (fun a h1 => (f5.2 a (by omega)).trans ((f4.2 a (by omega)).trans ((f3.2 a (by omega)).trans (e0 a h1)))) hF9 ((t3.fr f4 (by omega)).fr f5 (by omega)) (b4.fr f5 (by omega)) (LedAt.fr hK4 f5 (by omega)))
        · rw [nI_le9 (by omega) (by omega)] at hq
          exact absurd (Nat.le_refl _) hq
    · exact absurd hc (by decide)
end
