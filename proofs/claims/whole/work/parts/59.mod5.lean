/-! ===== the reference: its face 1 ===== -/
section
variable {Γ : GE} {h : AH} {Q : PO} {m a np nb ne nh nc y : Nat} {R : FI} {qu ra le ln pl tm rw hw cw pk : FI} {re : Nat → UInt32} {bk : Nat → Int64} {t x z w v th tl at' bg er ea lr cm : Int32}
theorem s_X10_transfer (hM : ModC h m a th tl at' bg er ea lr cm) (hR : h.2 a = some (.inl (.int, 5061, .inl R))) (hP : h.2 (m + 9) = some (.inl (.boolean, 200, .inl pk))) (hr : RowR R np qu ra re le ln nb pl tm ne rw bk nh hw nc cw t y) (hI : Inv np qu ra re le ln nb pl tm ne rw bk nh hw nc cw t y) (hA : Γ.2.1 ≤ m) (hAa : Γ.2.1 ≤ a) (ham : ¬ a = m) (ham9 : ¬ a = m + 9)
    (k1 : (inN x np && inN z np) = false → ∀ h', ax_fr m (m + 1) h h' → ModC h' m a (nI 1) tl at' bg er ea lr cm → Q (.inl (some (.int 0))) h')
    (k2 : (inN x np && inN z np) = true → (decide (¬ x = z) && inI w 1 200 && inI v 0 9) = false → ∀ h', ax_fr m (m + 1) h h' → ModC h' m a (nI 2) tl at' bg er ea lr cm → Q (.inl (some (.int 0))) h')
    (k0 : ∀ i j u, i < np → j < np → x = nI i → z = nI j → ¬ i = j → 1 ≤ u → u ≤ 200 → w = nI u → inI v 0 9 = true → ∀ r, r = (if 300 ≤ ne then -2 else obs qu pl nb hw nh (nI i) j (nI u) 0) → r < 0 → ∀ h', ax_fr m (m + 1) h h' → ModC h' m a 0 tl at' bg er ea lr cm → Q (.inl (some (.int r))) h')
    (k : ∀ i j u, i < np → j < np → x = nI i → z = nI j → ¬ i = j → 1 ≤ u → u ≤ 200 → w = nI u → inI v 0 9 = true → ne < 300 → obs qu pl nb hw nh (nI i) j (nI u) 0 = 0 → ∀ h' R' pk', h'.1 = h.1 → (∀ c, ¬ c = m → ¬ c = a → ¬ c = m + 9 → h'.2 c = h.2 c) → ModC h' m a 0 tl at' bg er ea lr cm → h'.2 a = some (.inl (.int, 5061, .inl R')) → h'.2 (m + 9) = some (.inl (.boolean, 200, .inl pk')) → (∀ K', MovOk np qu ra re le ln nb pl tm ne rw bk nh hw nc cw t y (nI i) j u v K' → RowR R' K'.1.1 K'.1.2.1 K'.1.2.2.1 K'.1.2.2.2.1 K'.1.2.2.2.2.1 K'.1.2.2.2.2.2 K'.2.1.1 K'.2.1.2.1 K'.2.1.2.2 K'.2.2.1.1 K'.2.2.1.2.1 K'.2.2.1.2.2 K'.2.2.2.1.1 K'.2.2.2.1.2 K'.2.2.2.2.1.1 K'.2.2.2.2.1.2 K'.2.2.2.2.2.1 K'.2.2.2.2.2.2) → Q (.inl (some (.int (nI ne)))) h') : WP Γ MX10_transfer (5, 115, 0, 0) 0 [some (.ref m), some (.int x), some (.int z), some (.int w), some (.int v)] [] h Q := by
  have hM0 := hM
  unfold ModC at hM
  have hS := hI.1
  obtain ⟨s1, s2, s3, s4, s5, s6, s7, s8, tn, s9, s10⟩ := hS
  have r1 := hr.1.2.1
  have J2 : ∀ h1, ax_fr m (m + 1) h h1 → ModC h1 m a 0 tl at' bg er ea lr cm → (inN x np && inN z np) = true → ∀ c, c = (decide (¬ x = z) && inI w 1 200 && inI v 0 9) → WP Γ MX10_transfer (5, 115, 0, 0) 64 [some (.ref m), some (.int x), some (.int z), some (.int w), some (.int v)] [.int (bI c), .ref m] h1 Q := by
    intro h1 f1 m1 hp c hc9
    have m1' := m1
    unfold ModC at m1'
    refine wp_iconst (n := 65) (v := nI 2) dX10_transfer_64 rfl (by decide) ?_
    refine wp_callV2 (n := 68) (rm' := (0, 0, 0, 0)) rfl dX10_transfer_65 rfl mlX10_113 (by repeat first | assumption | exact ax_set_self _ _ _ | exact ax_newA_self _ _ _ | refine (ax_set_ne _ _ (by omega)).trans ?_ | refine (ax_newA_ne _ _ _ (by omega)).trans ?_) rfl rfl rfl rfl rfl ?_
    refine s_X10_isThrown m1 hA (fun h2 f2 m2 => ?_)
    show WP Γ _ _ _ _ _ _ _
    have f12 := f1.tr (lo := m) (hi := m + 1) f2 (by omega) (by omega)
    cases c with
    | false =>
      refine wp_if_eq (t := 73) (n := 71) dX10_transfer_68 (by decide) rfl (fun hq => ?_) (fun hq => ?_)
      · exact absurd hq (by decide)
      · refine wp_iconst (n := 72) (v := 0) dX10_transfer_71 rfl (by decide) ?_
        exact wp_ireturn dX10_transfer_72 rfl rfl (k2 hp hc9.symm h2 f12 m2)
    | true =>
      refine wp_if_eq (t := 73) (n := 71) dX10_transfer_68 (by decide) rfl (fun hq => ?_) (fun hq => ?_)
      · have hc9 := hc9.symm
        rw [Bool.and_eq_true, Bool.and_eq_true] at hc9
        rw [Bool.and_eq_true] at hp
        obtain ⟨⟨g1, g2⟩, g3⟩ := hc9
        obtain ⟨i, i1, rfl⟩ := inN_get (n := np) (by omega) (of_decide_eq_true hp.1).1 (of_decide_eq_true hp.1).2
        obtain ⟨j, j1, rfl⟩ := inN_get (n := np) (by omega) (of_decide_eq_true hp.2).1 (of_decide_eq_true hp.2).2
        obtain ⟨u, u1, u2, rfl⟩ := inI_get (a := 1) (b := 200) (by omega) (by omega) (of_decide_eq_true g2).1 (of_decide_eq_true g2).2
        have hij : ¬ i = j := fun q => of_decide_eq_true g1 (by rw [q])
        have m2' := m2
        unfold ModC at m2'
        refine wp_aload_n (n := 74) dX10_transfer_73 rfl rfl ?_
        refine wp_iload_n (n := 75) dX10_transfer_74 rfl rfl ?_
        refine wp_iload_n (n := 76) dX10_transfer_75 rfl rfl ?_
        refine wp_iload_n (n := 77) dX10_transfer_76 rfl rfl ?_
        refine wp_iload (n := 79) dX10_transfer_77 rfl rfl ?_
        refine wp_callV4 (n := 82) (rm' := (4, 90, 0, 0)) rfl dX10_transfer_79 rfl mlX10_117 (by repeat first | assumption | exact ax_set_self _ _ _ | exact ax_newA_self _ _ _ | refine (ax_set_ne _ _ (by omega)).trans ?_ | refine (ax_newA_ne _ _ _ (by omega)).trans ?_) rfl rfl rfl rfl rfl ?_
        refine s_X10_transfers m2 (f12.get hR (by omega)) (f12.get hP (by omega)) hr hI hA hAa ham ham9 i1 j1 u1 u2 (fun r e1 e2 => ?_) (fun e1 e2 h3 R3 pk3 f3 c3 p3 z3 => ?_)
        · show WP Γ _ _ _ _ _ _ _
          exact wp_ireturn dX10_transfer_82 rfl rfl (k0 i j u i1 j1 rfl rfl hij u1 u2 rfl g3 r e1 e2 h2 f12 m2)
        · show WP Γ _ _ _ _ _ _ _
          exact wp_ireturn dX10_transfer_82 rfl rfl (k i j u i1 j1 rfl rfl hij u1 u2 rfl g3 e1 e2 h3 R3 pk3 (f3.1.trans f12.1) (fun c c1 c2 c9 => (f3.2 c c2 c9).trans (f12.2 c (by omega))) ((f3.2 m (by omega) (by omega)).trans m2) c3 p3 z3)
      · exact absurd rfl hq
  have J1 : ∀ c, c = (inN x np && inN z np) → WP Γ MX10_transfer (5, 115, 0, 0) 22 [some (.ref m), some (.int x), some (.int z), some (.int w), some (.int v)] [.int (bI c), .ref m] h Q := by
    intro c hc9
    refine wp_iconst (n := 23) (v := nI 1) dX10_transfer_22 rfl (by decide) ?_
    refine wp_callV2 (n := 26) (rm' := (0, 0, 0, 0)) rfl dX10_transfer_23 rfl mlX10_113 (by repeat first | assumption | exact ax_set_self _ _ _ | exact ax_newA_self _ _ _ | refine (ax_set_ne _ _ (by omega)).trans ?_ | refine (ax_newA_ne _ _ _ (by omega)).trans ?_) rfl rfl rfl rfl rfl ?_
    refine s_X10_isThrown hM0 hA (fun h1 f1 m1 => ?_)
    show WP Γ _ _ _ _ _ _ _
    cases c with
    | false =>
      refine wp_if_eq (t := 31) (n := 29) dX10_transfer_26 (by decide) rfl (fun hq => ?_) (fun hq => ?_)
      · exact absurd hq (by decide)
      · refine wp_iconst (n := 30) (v := 0) dX10_transfer_29 rfl (by decide) ?_
        exact wp_ireturn dX10_transfer_30 rfl rfl (k1 hc9.symm h1 f1 m1)
    | true =>
      have J2 := J2 h1 f1 m1 hc9.symm
      refine wp_if_eq (t := 31) (n := 29) dX10_transfer_26 (by decide) rfl (fun hq => ?_) (fun hq => ?_)
      · refine wp_aload_n (n := 32) dX10_transfer_31 rfl rfl ?_
        refine wp_iload_n (n := 33) dX10_transfer_32 rfl rfl ?_
        refine wp_iload_n (n := 34) dX10_transfer_33 rfl rfl ?_
        refine wp_icmp_eq (t := 63) (n := 37) dX10_transfer_34 (by decide) rfl (fun hx => ?_) (fun hx => ?_)
        · refine wp_iconst (n := 64) (v := 0) dX10_transfer_63 rfl (by decide) ?_
          exact J2 false (by rw [decide_eq_false (fun q => q hx)]; rfl)
        · refine wp_iload_n (n := 38) dX10_transfer_37 rfl rfl ?_
          refine wp_iconst (n := 39) (v := nI 1) dX10_transfer_38 rfl (by decide) ?_
          refine wp_sipush (n := 42) (v := nI 200) dX10_transfer_39 rfl (by decide) ?_
          refine wp_callS3 (n := 45) (rm' := (0, 0, 0, 0)) rfl dX10_transfer_42 rfl mlX10_54 rfl rfl rfl rfl ?_
          refine s_X10_in ?_
          show WP Γ _ _ _ _ _ _ _
          refine wp_if_eq (t := 63) (n := 48) dX10_transfer_45 (by decide) rfl (fun hu => ?_) (fun hu => ?_)
          · refine wp_iconst (n := 64) (v := 0) dX10_transfer_63 rfl (by decide) ?_
            exact J2 false (by rw [show inI w 1 200 = false from bI_eq hu, Bool.and_false, Bool.false_and])
          · have hu : inI w 1 200 = true := bI_ne hu
            refine wp_iload (n := 50) dX10_transfer_48 rfl rfl ?_
            refine wp_iconst (n := 51) (v := 0) dX10_transfer_50 rfl (by decide) ?_
            refine wp_bipush (n := 53) (v := nI 9) dX10_transfer_51 rfl (by decide) ?_
            refine wp_callS3 (n := 56) (rm' := (0, 0, 0, 0)) rfl dX10_transfer_53 rfl mlX10_54 rfl rfl rfl rfl ?_
            refine s_X10_in ?_
            show WP Γ _ _ _ _ _ _ _
            refine wp_if_eq (t := 63) (n := 59) dX10_transfer_56 (by decide) rfl (fun hv => ?_) (fun hv => ?_)
            · refine wp_iconst (n := 64) (v := 0) dX10_transfer_63 rfl (by decide) ?_
              exact J2 false (by rw [show inI v 0 9 = false from bI_eq hv, Bool.and_false])
            · have hv : inI v 0 9 = true := bI_ne hv
              refine wp_iconst (n := 60) (v := nI 1) dX10_transfer_59 rfl (by decide) ?_
              refine wp_goto (t := 64) dX10_transfer_60 (by decide) ?_
              exact J2 true (by rw [decide_eq_true hx, hu, hv]; rfl)
      · exact absurd rfl hq
  refine wp_aload_n (n := 1) dX10_transfer_0 rfl rfl ?_
  refine wp_aload_n (n := 2) dX10_transfer_1 rfl rfl ?_
  refine wp_iload_n (n := 3) dX10_transfer_2 rfl rfl ?_
  refine wp_callV1 (n := 6) (rm' := (1, 22, 0, 0)) rfl dX10_transfer_3 rfl mlX10_109 (by repeat first | assumption | exact ax_set_self _ _ _ | exact ax_newA_self _ _ _ | refine (ax_set_ne _ _ (by omega)).trans ?_ | refine (ax_newA_ne _ _ _ (by omega)).trans ?_) rfl rfl rfl rfl rfl ?_
  refine s_X10_isPool hM0 hR r1 s2 ?_
  show WP Γ _ _ _ _ _ _ _
  refine wp_if_eq (t := 21) (n := 9) dX10_transfer_6 (by decide) rfl (fun hc => ?_) (fun hc => ?_)
  · refine wp_iconst (n := 22) (v := 0) dX10_transfer_21 rfl (by decide) ?_
    exact J1 false (by rw [bI_eq hc, Bool.false_and])
  · have hc := bI_ne hc
    refine wp_aload_n (n := 10) dX10_transfer_9 rfl rfl ?_
    refine wp_iload_n (n := 11) dX10_transfer_10 rfl rfl ?_
    refine wp_callV1 (n := 14) (rm' := (1, 22, 0, 0)) rfl dX10_transfer_11 rfl mlX10_109 (by repeat first | assumption | exact ax_set_self _ _ _ | exact ax_newA_self _ _ _ | refine (ax_set_ne _ _ (by omega)).trans ?_ | refine (ax_newA_ne _ _ _ (by omega)).trans ?_) rfl rfl rfl rfl rfl ?_
    refine s_X10_isPool hM0 hR r1 s2 ?_
    show WP Γ _ _ _ _ _ _ _
    refine wp_if_eq (t := 21) (n := 17) dX10_transfer_14 (by decide) rfl (fun hq => ?_) (fun hq => ?_)
    · refine wp_iconst (n := 22) (v := 0) dX10_transfer_21 rfl (by decide) ?_
      exact J1 false (by rw [bI_eq hq, Bool.and_false])
    · refine wp_iconst (n := 18) (v := nI 1) dX10_transfer_17 rfl (by decide) ?_
      refine wp_goto (t := 22) dX10_transfer_18 (by decide) ?_
      exact J1 true (by rw [hc, bI_ne hq]; rfl)
theorem s_X10_blockCount (hM : ModC h m a th tl at' bg er ea lr cm) (hR : h.2 a = some (.inl (.int, 5061, .inl R))) (hr : RowR R np qu ra re le ln nb pl tm ne rw bk nh hw nc cw t y) (hA : Γ.2.1 ≤ m) (ham : ¬ a = m)
    (k : ∀ h', ax_fr m (m + 1) h h' → ModC h' m a 0 tl at' bg er ea lr cm → Q (.inl (some (.int (nI nb)))) h') : WP Γ MX10_blockCount (0, 0, 0, 0) 0 [some (.ref m)] [] h Q := by
  unfold ModC at hM
  have hR1 := (ax_fr.set (lo := m) (hi := m + 1) (h := h) (a := m) (e := .inr (10, [.ref a, .ref (m + 2), .ref (m + 3), .ref (m + 4), .ref (m + 5), .ref (m + 6), .ref (m + 7), .ref (m + 8), .int 0, .ref (m + 9), .ref (m + 10), .int tl, .int at', .int bg, .int er, .int ea, .int lr, .ref (m + 11), .int cm])) (by omega)).get hR (by omega)
  refine wp_aload_n (n := 1) dX10_blockCount_0 rfl rfl ?_
  refine wp_iconst (n := 2) (v := 0) dX10_blockCount_1 rfl (by decide) ?_
  refine wp_putf (n := 5) dX10_blockCount_2 rfl flX10_50 (by repeat first | assumption | exact ax_set_self _ _ _ | exact ax_newA_self _ _ _ | refine (ax_set_ne _ _ (by omega)).trans ?_ | refine (ax_newA_ne _ _ _ (by omega)).trans ?_) (by omega) (by rfl) rfl rfl ?_
  refine wp_aload_n (n := 6) dX10_blockCount_5 rfl rfl ?_
  refine wp_getf (n := 9) dX10_blockCount_6 rfl flX10_9 (by repeat first | assumption | exact ax_set_self _ _ _ | exact ax_newA_self _ _ _ | refine (ax_set_ne _ _ (by omega)).trans ?_ | refine (ax_newA_ne _ _ _ (by omega)).trans ?_) (by rfl) ?_
  refine wp_iconst (n := 10) (v := 0) dX10_blockCount_9 rfl (by decide) ?_
  refine wp_iald (n := 11) 0 dX10_blockCount_10 rfl hR1 rfl (by omega) (by omega) ?_
  rw [hr.1.1]
  exact wp_ireturn dX10_blockCount_11 rfl rfl (k _ (ax_fr.set (by omega)) (ModC.set _ _ _ _ _ _ _ _ _ _ _))
theorem s_X10_poolCount (hM : ModC h m a th tl at' bg er ea lr cm) (hR : h.2 a = some (.inl (.int, 5061, .inl R))) (hr : RowR R np qu ra re le ln nb pl tm ne rw bk nh hw nc cw t y) (hA : Γ.2.1 ≤ m) (ham : ¬ a = m)
    (k : ∀ h', ax_fr m (m + 1) h h' → ModC h' m a 0 tl at' bg er ea lr cm → Q (.inl (some (.int (nI np)))) h') : WP Γ MX10_poolCount (0, 0, 0, 0) 0 [some (.ref m)] [] h Q := by
  unfold ModC at hM
  have hR1 := (ax_fr.set (lo := m) (hi := m + 1) (h := h) (a := m) (e := .inr (10, [.ref a, .ref (m + 2), .ref (m + 3), .ref (m + 4), .ref (m + 5), .ref (m + 6), .ref (m + 7), .ref (m + 8), .int 0, .ref (m + 9), .ref (m + 10), .int tl, .int at', .int bg, .int er, .int ea, .int lr, .ref (m + 11), .int cm])) (by omega)).get hR (by omega)
  refine wp_aload_n (n := 1) dX10_poolCount_0 rfl rfl ?_
  refine wp_iconst (n := 2) (v := 0) dX10_poolCount_1 rfl (by decide) ?_
  refine wp_putf (n := 5) dX10_poolCount_2 rfl flX10_50 (by repeat first | assumption | exact ax_set_self _ _ _ | exact ax_newA_self _ _ _ | refine (ax_set_ne _ _ (by omega)).trans ?_ | refine (ax_newA_ne _ _ _ (by omega)).trans ?_) (by omega) (by rfl) rfl rfl ?_
  refine wp_aload_n (n := 6) dX10_poolCount_5 rfl rfl ?_
  refine wp_getf (n := 9) dX10_poolCount_6 rfl flX10_9 (by repeat first | assumption | exact ax_set_self _ _ _ | exact ax_newA_self _ _ _ | refine (ax_set_ne _ _ (by omega)).trans ?_ | refine (ax_newA_ne _ _ _ (by omega)).trans ?_) (by rfl) ?_
  refine wp_iconst (n := 10) (v := nI 1) dX10_poolCount_9 rfl (by decide) ?_
  refine wp_iald (n := 11) _ dX10_poolCount_10 rfl (by repeat first | assumption | exact ax_set_self _ _ _ | exact ax_newA_self _ _ _ | refine (ax_set_ne _ _ (by omega)).trans ?_ | refine (ax_newA_ne _ _ _ (by omega)).trans ?_) rfl (by omega) (by decide) ?_
  rw [hr.1.2.1]
  exact wp_ireturn dX10_poolCount_11 rfl rfl (k _ (ax_fr.set (by omega)) (ModC.set _ _ _ _ _ _ _ _ _ _ _))
theorem s_X10_entryCount (hM : ModC h m a th tl at' bg er ea lr cm) (hR : h.2 a = some (.inl (.int, 5061, .inl R))) (hr : RowR R np qu ra re le ln nb pl tm ne rw bk nh hw nc cw t y) (hA : Γ.2.1 ≤ m) (ham : ¬ a = m)
    (k : ∀ h', ax_fr m (m + 1) h h' → ModC h' m a 0 tl at' bg er ea lr cm → Q (.inl (some (.int (nI ne)))) h') : WP Γ MX10_entryCount (0, 0, 0, 0) 0 [some (.ref m)] [] h Q := by
  unfold ModC at hM
  have hR1 := (ax_fr.set (lo := m) (hi := m + 1) (h := h) (a := m) (e := .inr (10, [.ref a, .ref (m + 2), .ref (m + 3), .ref (m + 4), .ref (m + 5), .ref (m + 6), .ref (m + 7), .ref (m + 8), .int 0, .ref (m + 9), .ref (m + 10), .int tl, .int at', .int bg, .int er, .int ea, .int lr, .ref (m + 11), .int cm])) (by omega)).get hR (by omega)
  refine wp_aload_n (n := 1) dX10_entryCount_0 rfl rfl ?_
  refine wp_iconst (n := 2) (v := 0) dX10_entryCount_1 rfl (by decide) ?_
  refine wp_putf (n := 5) dX10_entryCount_2 rfl flX10_50 (by repeat first | assumption | exact ax_set_self _ _ _ | exact ax_newA_self _ _ _ | refine (ax_set_ne _ _ (by omega)).trans ?_ | refine (ax_newA_ne _ _ _ (by omega)).trans ?_) (by omega) (by rfl) rfl rfl ?_
  refine wp_aload_n (n := 6) dX10_entryCount_5 rfl rfl ?_
  refine wp_getf (n := 9) dX10_entryCount_6 rfl flX10_9 (by repeat first | assumption | exact ax_set_self _ _ _ | exact ax_newA_self _ _ _ | refine (ax_set_ne _ _ (by omega)).trans ?_ | refine (ax_newA_ne _ _ _ (by omega)).trans ?_) (by rfl) ?_
  refine wp_iconst (n := 10) (v := nI 4) dX10_entryCount_9 rfl (by decide) ?_
  refine wp_iald (n := 11) _ dX10_entryCount_10 rfl (by repeat first | assumption | exact ax_set_self _ _ _ | exact ax_newA_self _ _ _ | refine (ax_set_ne _ _ (by omega)).trans ?_ | refine (ax_newA_ne _ _ _ (by omega)).trans ?_) rfl (by omega) (by decide) ?_
  rw [hr.1.2.2.2.2.1]
  exact wp_ireturn dX10_entryCount_11 rfl rfl (k _ (ax_fr.set (by omega)) (ModC.set _ _ _ _ _ _ _ _ _ _ _))
theorem s_X10_reservationCount (hM : ModC h m a th tl at' bg er ea lr cm) (hR : h.2 a = some (.inl (.int, 5061, .inl R))) (hr : RowR R np qu ra re le ln nb pl tm ne rw bk nh hw nc cw t y) (hA : Γ.2.1 ≤ m) (ham : ¬ a = m)
    (k : ∀ h', ax_fr m (m + 1) h h' → ModC h' m a 0 tl at' bg er ea lr cm → Q (.inl (some (.int (nI nh)))) h') : WP Γ MX10_reservationCount (0, 0, 0, 0) 0 [some (.ref m)] [] h Q := by
  unfold ModC at hM
  have hR1 := (ax_fr.set (lo := m) (hi := m + 1) (h := h) (a := m) (e := .inr (10, [.ref a, .ref (m + 2), .ref (m + 3), .ref (m + 4), .ref (m + 5), .ref (m + 6), .ref (m + 7), .ref (m + 8), .int 0, .ref (m + 9), .ref (m + 10), .int tl, .int at', .int bg, .int er, .int ea, .int lr, .ref (m + 11), .int cm])) (by omega)).get hR (by omega)
  refine wp_aload_n (n := 1) dX10_reservationCount_0 rfl rfl ?_
  refine wp_iconst (n := 2) (v := 0) dX10_reservationCount_1 rfl (by decide) ?_
  refine wp_putf (n := 5) dX10_reservationCount_2 rfl flX10_50 (by repeat first | assumption | exact ax_set_self _ _ _ | exact ax_newA_self _ _ _ | refine (ax_set_ne _ _ (by omega)).trans ?_ | refine (ax_newA_ne _ _ _ (by omega)).trans ?_) (by omega) (by rfl) rfl rfl ?_
  refine wp_aload_n (n := 6) dX10_reservationCount_5 rfl rfl ?_
  refine wp_getf (n := 9) dX10_reservationCount_6 rfl flX10_9 (by repeat first | assumption | exact ax_set_self _ _ _ | exact ax_newA_self _ _ _ | refine (ax_set_ne _ _ (by omega)).trans ?_ | refine (ax_newA_ne _ _ _ (by omega)).trans ?_) (by rfl) ?_
  refine wp_iconst (n := 10) (v := nI 5) dX10_reservationCount_9 rfl (by decide) ?_
  refine wp_iald (n := 11) _ dX10_reservationCount_10 rfl (by repeat first | assumption | exact ax_set_self _ _ _ | exact ax_newA_self _ _ _ | refine (ax_set_ne _ _ (by omega)).trans ?_ | refine (ax_newA_ne _ _ _ (by omega)).trans ?_) rfl (by omega) (by decide) ?_
  rw [hr.1.2.2.2.2.2.1]
  exact wp_ireturn dX10_reservationCount_11 rfl rfl (k _ (ax_fr.set (by omega)) (ModC.set _ _ _ _ _ _ _ _ _ _ _))
theorem s_X10_now (hM : ModC h m a th tl at' bg er ea lr cm) (hR : h.2 a = some (.inl (.int, 5061, .inl R))) (hr : RowR R np qu ra re le ln nb pl tm ne rw bk nh hw nc cw t y) (hA : Γ.2.1 ≤ m) (ham : ¬ a = m)
    (k : ∀ h', ax_fr m (m + 1) h h' → ModC h' m a 0 tl at' bg er ea lr cm → Q (.inl (some (.int (t)))) h') : WP Γ MX10_now (0, 0, 0, 0) 0 [some (.ref m)] [] h Q := by
  unfold ModC at hM
  have hR1 := (ax_fr.set (lo := m) (hi := m + 1) (h := h) (a := m) (e := .inr (10, [.ref a, .ref (m + 2), .ref (m + 3), .ref (m + 4), .ref (m + 5), .ref (m + 6), .ref (m + 7), .ref (m + 8), .int 0, .ref (m + 9), .ref (m + 10), .int tl, .int at', .int bg, .int er, .int ea, .int lr, .ref (m + 11), .int cm])) (by omega)).get hR (by omega)
  refine wp_aload_n (n := 1) dX10_now_0 rfl rfl ?_
  refine wp_iconst (n := 2) (v := 0) dX10_now_1 rfl (by decide) ?_
  refine wp_putf (n := 5) dX10_now_2 rfl flX10_50 (by repeat first | assumption | exact ax_set_self _ _ _ | exact ax_newA_self _ _ _ | refine (ax_set_ne _ _ (by omega)).trans ?_ | refine (ax_newA_ne _ _ _ (by omega)).trans ?_) (by omega) (by rfl) rfl rfl ?_
  refine wp_aload_n (n := 6) dX10_now_5 rfl rfl ?_
  refine wp_getf (n := 9) dX10_now_6 rfl flX10_9 (by repeat first | assumption | exact ax_set_self _ _ _ | exact ax_newA_self _ _ _ | refine (ax_set_ne _ _ (by omega)).trans ?_ | refine (ax_newA_ne _ _ _ (by omega)).trans ?_) (by rfl) ?_
  refine wp_iconst (n := 10) (v := nI 2) dX10_now_9 rfl (by decide) ?_
  refine wp_iald (n := 11) _ dX10_now_10 rfl (by repeat first | assumption | exact ax_set_self _ _ _ | exact ax_newA_self _ _ _ | refine (ax_set_ne _ _ (by omega)).trans ?_ | refine (ax_newA_ne _ _ _ (by omega)).trans ?_) rfl (by omega) (by decide) ?_
  rw [hr.1.2.2.1]
  exact wp_ireturn dX10_now_11 rfl rfl (k _ (ax_fr.set (by omega)) (ModC.set _ _ _ _ _ _ _ _ _ _ _))
theorem s_X10_balance (hM : ModC h m a th tl at' bg er ea lr cm) (hR : h.2 a = some (.inl (.int, 5061, .inl R))) (hr : RowR R np qu ra re le ln nb pl tm ne rw bk nh hw nc cw t y) (hI : InvS np nb ne nh nc y t) (hA : Γ.2.1 ≤ m) (ham : ¬ a = m)
    (k1 : inN x np = false → ∀ h', ax_fr m (m + 1) h h' → ModC h' m a (nI 1) tl at' bg er ea lr cm → Q (.inl (some (.int 0))) h')
    (k : ∀ j, j < np → x = nI j → ∀ h', ax_fr m (m + 1) h h' → ModC h' m a 0 tl at' bg er ea lr cm → Q (.inl (some (.int (nI (cnt pl (nI j) nb))))) h') : WP Γ MX10_balance (2, 43, 0, 0) 0 [some (.ref m), some (.int x)] [] h Q := by
  have hM0 := hM
  unfold ModC at hM
  obtain ⟨s1, s2, s3, s4, s5, s6, s7, s8, tn, s9, s10⟩ := hI
  have hr0 := hr
  obtain ⟨⟨r0, r1, r2, r3, r4, r5, r6⟩, rM, rP, rJ, rH, rC⟩ := hr
  refine wp_aload_n (n := 1) dX10_balance_0 rfl rfl ?_
  refine wp_aload_n (n := 2) dX10_balance_1 rfl rfl ?_
  refine wp_iload_n (n := 3) dX10_balance_2 rfl rfl ?_
  refine wp_callV1 (n := 6) (rm' := (1, 22, 0, 0)) rfl dX10_balance_3 rfl mlX10_109 (by repeat first | assumption | exact ax_set_self _ _ _ | exact ax_newA_self _ _ _ | refine (ax_set_ne _ _ (by omega)).trans ?_ | refine (ax_newA_ne _ _ _ (by omega)).trans ?_) rfl rfl rfl rfl rfl ?_
  refine s_X10_isPool hM0 hR r1 s2 ?_
  show WP Γ _ _ _ _ _ _ _
  refine wp_iconst (n := 7) (v := nI 1) dX10_balance_6 rfl (by decide) ?_
  refine wp_callV2 (n := 10) (rm' := (0, 0, 0, 0)) rfl dX10_balance_7 rfl mlX10_113 (by repeat first | assumption | exact ax_set_self _ _ _ | exact ax_newA_self _ _ _ | refine (ax_set_ne _ _ (by omega)).trans ?_ | refine (ax_newA_ne _ _ _ (by omega)).trans ?_) rfl rfl rfl rfl rfl ?_
  refine s_X10_isThrown hM0 hA (fun h1 f1 m1 => ?_)
  show WP Γ _ _ _ _ _ _ _
  have hR1 := f1.get hR (by omega)
  cases hx : inN x np with
  | false =>
    rw [hx] at m1
    refine wp_if_eq (t := 17) (n := 13) dX10_balance_10 (by decide) rfl (fun hq => ?_) (fun hq => ?_)
    · exact absurd hq (by decide)
    · refine wp_iconst (n := 14) (v := 0) dX10_balance_13 rfl (by decide) ?_
      refine wp_goto (t := 22) dX10_balance_14 (by decide) ?_
      exact wp_ireturn dX10_balance_22 rfl rfl (k1 hx h1 f1 m1)
  | true =>
    rw [hx] at m1
    obtain ⟨j, hj, rfl⟩ := inN_get (n := np) (by omega) (of_decide_eq_true hx).1 (of_decide_eq_true hx).2
    have m1' := m1
    unfold ModC at m1'
    refine wp_if_eq (t := 17) (n := 13) dX10_balance_10 (by decide) rfl (fun hq => ?_) (fun hq => ?_)
    · refine wp_aload_n (n := 18) dX10_balance_17 rfl rfl ?_
      refine wp_iload_n (n := 19) dX10_balance_18 rfl rfl ?_
      refine wp_callV1 (n := 22) (rm' := (0, 0, 0, 0)) rfl dX10_balance_19 rfl mlX10_62 (by repeat first | assumption | exact ax_set_self _ _ _ | exact ax_newA_self _ _ _ | refine (ax_set_ne _ _ (by omega)).trans ?_ | refine (ax_newA_ne _ _ _ (by omega)).trans ?_) rfl rfl rfl rfl rfl ?_
      refine s_X10_balanceOf m1 hR1 r0 rM s4 ?_
      show WP Γ _ _ _ _ _ _ _
      exact wp_ireturn dX10_balance_22 rfl rfl (k j hj rfl h1 f1 m1)
    · exact absurd rfl hq
theorem s_X10_available (hM : ModC h m a th tl at' bg er ea lr cm) (hR : h.2 a = some (.inl (.int, 5061, .inl R))) (hr : RowR R np qu ra re le ln nb pl tm ne rw bk nh hw nc cw t y) (hI : InvS np nb ne nh nc y t) (hA : Γ.2.1 ≤ m) (ham : ¬ a = m)
    (k1 : inN x np = false → ∀ h', ax_fr m (m + 1) h h' → ModC h' m a (nI 1) tl at' bg er ea lr cm → Q (.inl (some (.int 0))) h')
    (k : ∀ j, j < np → x = nI j → ∀ h', ax_fr m (m + 1) h h' → ModC h' m a 0 tl at' bg er ea lr cm → Q (.inl (some (.int (avl pl nb hw nh (nI j))))) h') : WP Γ MX10_available (3, 67, 0, 0) 0 [some (.ref m), some (.int x)] [] h Q := by
  have hM0 := hM
  unfold ModC at hM
  obtain ⟨s1, s2, s3, s4, s5, s6, s7, s8, tn, s9, s10⟩ := hI
  have hr0 := hr
  obtain ⟨⟨r0, r1, r2, r3, r4, r5, r6⟩, rM, rP, rJ, rH, rC⟩ := hr
  refine wp_aload_n (n := 1) dX10_available_0 rfl rfl ?_
  refine wp_aload_n (n := 2) dX10_available_1 rfl rfl ?_
  refine wp_iload_n (n := 3) dX10_available_2 rfl rfl ?_
  refine wp_callV1 (n := 6) (rm' := (1, 22, 0, 0)) rfl dX10_available_3 rfl mlX10_109 (by repeat first | assumption | exact ax_set_self _ _ _ | exact ax_newA_self _ _ _ | refine (ax_set_ne _ _ (by omega)).trans ?_ | refine (ax_newA_ne _ _ _ (by omega)).trans ?_) rfl rfl rfl rfl rfl ?_
  refine s_X10_isPool hM0 hR r1 s2 ?_
  show WP Γ _ _ _ _ _ _ _
  refine wp_iconst (n := 7) (v := nI 1) dX10_available_6 rfl (by decide) ?_
  refine wp_callV2 (n := 10) (rm' := (0, 0, 0, 0)) rfl dX10_available_7 rfl mlX10_113 (by repeat first | assumption | exact ax_set_self _ _ _ | exact ax_newA_self _ _ _ | refine (ax_set_ne _ _ (by omega)).trans ?_ | refine (ax_newA_ne _ _ _ (by omega)).trans ?_) rfl rfl rfl rfl rfl ?_
  refine s_X10_isThrown hM0 hA (fun h1 f1 m1 => ?_)
  show WP Γ _ _ _ _ _ _ _
  have hR1 := f1.get hR (by omega)
  cases hx : inN x np with
  | false =>
    rw [hx] at m1
    refine wp_if_eq (t := 17) (n := 13) dX10_available_10 (by decide) rfl (fun hq => ?_) (fun hq => ?_)
    · exact absurd hq (by decide)
    · refine wp_iconst (n := 14) (v := 0) dX10_available_13 rfl (by decide) ?_
      refine wp_goto (t := 22) dX10_available_14 (by decide) ?_
      exact wp_ireturn dX10_available_22 rfl rfl (k1 hx h1 f1 m1)
  | true =>
    rw [hx] at m1
    obtain ⟨j, hj, rfl⟩ := inN_get (n := np) (by omega) (of_decide_eq_true hx).1 (of_decide_eq_true hx).2
    have m1' := m1
    unfold ModC at m1'
    refine wp_if_eq (t := 17) (n := 13) dX10_available_10 (by decide) rfl (fun hq => ?_) (fun hq => ?_)
    · refine wp_aload_n (n := 18) dX10_available_17 rfl rfl ?_
      refine wp_iload_n (n := 19) dX10_available_18 rfl rfl ?_
      refine wp_callV1 (n := 22) (rm' := (2, 46, 0, 0)) rfl dX10_available_19 rfl mlX10_92 (by repeat first | assumption | exact ax_set_self _ _ _ | exact ax_newA_self _ _ _ | refine (ax_set_ne _ _ (by omega)).trans ?_ | refine (ax_newA_ne _ _ _ (by omega)).trans ?_) rfl rfl rfl rfl rfl ?_
      refine s_X10_availableOf m1 hR1 hr0 s4 s6 ?_
      show WP Γ _ _ _ _ _ _ _
      exact wp_ireturn dX10_available_22 rfl rfl (k j hj rfl h1 f1 m1)
    · exact absurd rfl hq
theorem s_X10_room (hM : ModC h m a th tl at' bg er ea lr cm) (hR : h.2 a = some (.inl (.int, 5061, .inl R))) (hr : RowR R np qu ra re le ln nb pl tm ne rw bk nh hw nc cw t y) (hI : InvS np nb ne nh nc y t) (hA : Γ.2.1 ≤ m) (ham : ¬ a = m)
    (k1 : inN x np = false → ∀ h', ax_fr m (m + 1) h h' → ModC h' m a (nI 1) tl at' bg er ea lr cm → Q (.inl (some (.int 0))) h')
    (k : ∀ j, j < np → x = nI j → ∀ h', ax_fr m (m + 1) h h' → ModC h' m a 0 tl at' bg er ea lr cm → Q (.inl (some (.int (roo qu pl nb hw nh j)))) h') : WP Γ MX10_room (3, 67, 0, 0) 0 [some (.ref m), some (.int x)] [] h Q := by
  have hM0 := hM
  unfold ModC at hM
  obtain ⟨s1, s2, s3, s4, s5, s6, s7, s8, tn, s9, s10⟩ := hI
  have hr0 := hr
  obtain ⟨⟨r0, r1, r2, r3, r4, r5, r6⟩, rM, rP, rJ, rH, rC⟩ := hr
  refine wp_aload_n (n := 1) dX10_room_0 rfl rfl ?_
  refine wp_aload_n (n := 2) dX10_room_1 rfl rfl ?_
  refine wp_iload_n (n := 3) dX10_room_2 rfl rfl ?_
  refine wp_callV1 (n := 6) (rm' := (1, 22, 0, 0)) rfl dX10_room_3 rfl mlX10_109 (by repeat first | assumption | exact ax_set_self _ _ _ | exact ax_newA_self _ _ _ | refine (ax_set_ne _ _ (by omega)).trans ?_ | refine (ax_newA_ne _ _ _ (by omega)).trans ?_) rfl rfl rfl rfl rfl ?_
  refine s_X10_isPool hM0 hR r1 s2 ?_
  show WP Γ _ _ _ _ _ _ _
  refine wp_iconst (n := 7) (v := nI 1) dX10_room_6 rfl (by decide) ?_
  refine wp_callV2 (n := 10) (rm' := (0, 0, 0, 0)) rfl dX10_room_7 rfl mlX10_113 (by repeat first | assumption | exact ax_set_self _ _ _ | exact ax_newA_self _ _ _ | refine (ax_set_ne _ _ (by omega)).trans ?_ | refine (ax_newA_ne _ _ _ (by omega)).trans ?_) rfl rfl rfl rfl rfl ?_
  refine s_X10_isThrown hM0 hA (fun h1 f1 m1 => ?_)
  show WP Γ _ _ _ _ _ _ _
  have hR1 := f1.get hR (by omega)
  cases hx : inN x np with
  | false =>
    rw [hx] at m1
    refine wp_if_eq (t := 17) (n := 13) dX10_room_10 (by decide) rfl (fun hq => ?_) (fun hq => ?_)
    · exact absurd hq (by decide)
    · refine wp_iconst (n := 14) (v := 0) dX10_room_13 rfl (by decide) ?_
      refine wp_goto (t := 22) dX10_room_14 (by decide) ?_
      exact wp_ireturn dX10_room_22 rfl rfl (k1 hx h1 f1 m1)
  | true =>
    rw [hx] at m1
    obtain ⟨j, hj, rfl⟩ := inN_get (n := np) (by omega) (of_decide_eq_true hx).1 (of_decide_eq_true hx).2
    have m1' := m1
    unfold ModC at m1'
    refine wp_if_eq (t := 17) (n := 13) dX10_room_10 (by decide) rfl (fun hq => ?_) (fun hq => ?_)
    · refine wp_aload_n (n := 18) dX10_room_17 rfl rfl ?_
      refine wp_iload_n (n := 19) dX10_room_18 rfl rfl ?_
      refine wp_callV1 (n := 22) (rm' := (2, 46, 0, 0)) rfl dX10_room_19 rfl mlX10_95 (by repeat first | assumption | exact ax_set_self _ _ _ | exact ax_newA_self _ _ _ | refine (ax_set_ne _ _ (by omega)).trans ?_ | refine (ax_newA_ne _ _ _ (by omega)).trans ?_) rfl rfl rfl rfl rfl ?_
      refine s_X10_roomOf m1 hR1 hr0 s4 s6 s2 hj ?_
      show WP Γ _ _ _ _ _ _ _
      exact wp_ireturn dX10_room_22 rfl rfl (k j hj rfl h1 f1 m1)
    · exact absurd rfl hq
theorem s_X10_reservedFrom (hM : ModC h m a th tl at' bg er ea lr cm) (hR : h.2 a = some (.inl (.int, 5061, .inl R))) (hr : RowR R np qu ra re le ln nb pl tm ne rw bk nh hw nc cw t y) (hI : InvS np nb ne nh nc y t) (hA : Γ.2.1 ≤ m) (ham : ¬ a = m)
    (k1 : inN x np = false → ∀ h', ax_fr m (m + 1) h h' → ModC h' m a (nI 1) tl at' bg er ea lr cm → Q (.inl (some (.int 0))) h')
    (k : ∀ j, j < np → x = nI j → ∀ h', ax_fr m (m + 1) h h' → ModC h' m a 0 tl at' bg er ea lr cm → Q (.inl (some (.int (pSum hw 0 (nI j) nh)))) h') : WP Γ MX10_reservedFrom (2, 46, 0, 0) 0 [some (.ref m), some (.int x)] [] h Q := by
  have hM0 := hM
  unfold ModC at hM
  obtain ⟨s1, s2, s3, s4, s5, s6, s7, s8, tn, s9, s10⟩ := hI
  have hr0 := hr
  obtain ⟨⟨r0, r1, r2, r3, r4, r5, r6⟩, rM, rP, rJ, rH, rC⟩ := hr
  refine wp_aload_n (n := 1) dX10_reservedFrom_0 rfl rfl ?_
  refine wp_aload_n (n := 2) dX10_reservedFrom_1 rfl rfl ?_
  refine wp_iload_n (n := 3) dX10_reservedFrom_2 rfl rfl ?_
  refine wp_callV1 (n := 6) (rm' := (1, 22, 0, 0)) rfl dX10_reservedFrom_3 rfl mlX10_109 (by repeat first | assumption | exact ax_set_self _ _ _ | exact ax_newA_self _ _ _ | refine (ax_set_ne _ _ (by omega)).trans ?_ | refine (ax_newA_ne _ _ _ (by omega)).trans ?_) rfl rfl rfl rfl rfl ?_
  refine s_X10_isPool hM0 hR r1 s2 ?_
  show WP Γ _ _ _ _ _ _ _
  refine wp_iconst (n := 7) (v := nI 1) dX10_reservedFrom_6 rfl (by decide) ?_
  refine wp_callV2 (n := 10) (rm' := (0, 0, 0, 0)) rfl dX10_reservedFrom_7 rfl mlX10_113 (by repeat first | assumption | exact ax_set_self _ _ _ | exact ax_newA_self _ _ _ | refine (ax_set_ne _ _ (by omega)).trans ?_ | refine (ax_newA_ne _ _ _ (by omega)).trans ?_) rfl rfl rfl rfl rfl ?_
  refine s_X10_isThrown hM0 hA (fun h1 f1 m1 => ?_)
  show WP Γ _ _ _ _ _ _ _
  have hR1 := f1.get hR (by omega)
  cases hx : inN x np with
  | false =>
    rw [hx] at m1
    refine wp_if_eq (t := 17) (n := 13) dX10_reservedFrom_10 (by decide) rfl (fun hq => ?_) (fun hq => ?_)
    · exact absurd hq (by decide)
    · refine wp_iconst (n := 14) (v := 0) dX10_reservedFrom_13 rfl (by decide) ?_
      refine wp_goto (t := 23) dX10_reservedFrom_14 (by decide) ?_
      exact wp_ireturn dX10_reservedFrom_23 rfl rfl (k1 hx h1 f1 m1)
  | true =>
    rw [hx] at m1
    obtain ⟨j, hj, rfl⟩ := inN_get (n := np) (by omega) (of_decide_eq_true hx).1 (of_decide_eq_true hx).2
    have m1' := m1
    unfold ModC at m1'
    refine wp_if_eq (t := 17) (n := 13) dX10_reservedFrom_10 (by decide) rfl (fun hq => ?_) (fun hq => ?_)
    · refine wp_aload_n (n := 18) dX10_reservedFrom_17 rfl rfl ?_
      refine wp_iload_n (n := 19) dX10_reservedFrom_18 rfl rfl ?_
      refine wp_iconst (n := 20) (v := 0) dX10_reservedFrom_19 rfl (by decide) ?_
      refine wp_callV2 (n := 23) (rm' := (1, 22, 0, 0)) rfl dX10_reservedFrom_20 rfl mlX10_66 (by repeat first | assumption | exact ax_set_self _ _ _ | exact ax_newA_self _ _ _ | refine (ax_set_ne _ _ (by omega)).trans ?_ | refine (ax_newA_ne _ _ _ (by omega)).trans ?_) rfl rfl rfl rfl rfl ?_
      refine s_X10_reserved (s := 0) m1 hR1 r5 rH s6 (by omega) ?_
      show WP Γ _ _ _ _ _ _ _
      exact wp_ireturn dX10_reservedFrom_23 rfl rfl (k j hj rfl h1 f1 m1)
    · exact absurd rfl hq
end
