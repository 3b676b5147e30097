/-! ===== the reference: reserve ===== -/
section
variable {Γ : GE} {h : AH} {Q : PO} {m a np nb ne nh nc y : Nat} {R : FI} {qu ra le ln pl tm rw hw cw pk : FI} {re : Nat → UInt32} {bk : Nat → Int64} {t x z w v th tl at' bg er ea lr cm : Int32}
theorem s_X10_reserve (hM : ModC h m a th tl at' bg er ea lr cm) (hR : h.2 a = some (.inl (.int, 5061, .inl R))) (hr : RowR R np qu ra re le ln nb pl tm ne rw bk nh hw nc cw t y) (hI : Inv np qu ra re le ln nb pl tm ne rw bk nh hw nc cw t y) (hA : Γ.2.1 ≤ m) (hAa : Γ.2.1 ≤ a) (ham : ¬ a = m) 
    (k1 : (inN x np && inN z np) = false → ∀ h', ax_fr m (m + 1) h h' → ModC h' m a (nI 1) tl at' bg er ea lr cm → Q (.inl (some (.int 0))) h')
    (k2 : (inN x np && inN z np) = true → (decide (¬ x = z) && inI w 1 200 && inI v 1 1000) = false → ∀ h', ax_fr m (m + 1) h h' → ModC h' m a (nI 2) tl at' bg er ea lr cm → Q (.inl (some (.int 0))) h')
    (k0 : ∀ i j u, i < np → j < np → x = nI i → z = nI j → ¬ i = j → 1 ≤ u → u ≤ 200 → w = nI u → inI v 1 1000 = true → ∀ r, r = (if 60 ≤ nh then -2 else obs qu pl nb hw nh (nI i) j (nI u) 0) → r < 0 → ∀ h', ax_fr m (m + 1) h h' → ModC h' m a 0 tl at' bg er ea lr cm → Q (.inl (some (.int r))) h')
    (k : ∀ i j u n, i < np → j < np → x = nI i → z = nI j → ¬ i = j → 1 ≤ u → u ≤ 200 → w = nI u → 1 ≤ n → n ≤ 1000 → v = nI n → nh < 60 → obs qu pl nb hw nh (nI i) j (nI u) 0 = 0 → ∀ h' R', h'.1 = h.1 → (∀ c, ¬ c = m → ¬ c = a → h'.2 c = h.2 c) → ModC h' m a 0 tl at' bg er ea lr cm → h'.2 a = some (.inl (.int, 5061, .inl R')) → RowR R' np qu ra re le ln nb pl tm ne rw bk (nh + 1) (upd5 hw nh (nI i) (nI j) (nI u) (t + nI n) 0) nc cw t y → Q (.inl (some (.int (nI nh)))) h') : WP Γ MX10_reserve (5, 116, 0, 0) 0 [some (.ref m), some (.int x), some (.int z), some (.int w), some (.int v)] [] h Q := by
  have hM0 := hM
  unfold ModC at hM
  have hS := hI.1
  obtain ⟨s1, s2, s3, s4, s5, s6, s7, s8, tn, s9, s10⟩ := hS
  have r1 := hr.1.2.1
  have J2 : ∀ h1, ax_fr m (m + 1) h h1 → ModC h1 m a 0 tl at' bg er ea lr cm → (inN x np && inN z np) = true → ∀ c, c = (decide (¬ x = z) && inI w 1 200 && inI v 1 1000) → WP Γ MX10_reserve (5, 116, 0, 0) 65 [some (.ref m), some (.int x), some (.int z), some (.int w), some (.int v)] [.int (bI c), .ref m] h1 Q := by
    intro h1 f1 m1 hp c hc9
    have m1' := m1
    unfold ModC at m1'
    refine wp_iconst (n := 66) (v := nI 2) dX10_reserve_65 rfl (by decide) ?_
    refine wp_callV2 (n := 69) (rm' := (0, 0, 0, 0)) rfl dX10_reserve_66 rfl mlX10_113 (by repeat first | assumption | exact ax_set_self _ _ _ | exact ax_newA_self _ _ _ | refine (ax_set_ne _ _ (by omega)).trans ?_ | refine (ax_newA_ne _ _ _ (by omega)).trans ?_) rfl rfl rfl rfl rfl ?_
    refine s_X10_isThrown m1 hA (fun h2 f2 m2 => ?_)
    show WP Γ _ _ _ _ _ _ _
    have f12 := f1.tr (lo := m) (hi := m + 1) f2 (by omega) (by omega)
    cases c with
    | false =>
      refine wp_if_eq (t := 74) (n := 72) dX10_reserve_69 (by decide) rfl (fun hq => ?_) (fun hq => ?_)
      · exact absurd hq (by decide)
      · refine wp_iconst (n := 73) (v := 0) dX10_reserve_72 rfl (by decide) ?_
        exact wp_ireturn dX10_reserve_73 rfl rfl (k2 hp hc9.symm h2 f12 m2)
    | true =>
      refine wp_if_eq (t := 74) (n := 72) dX10_reserve_69 (by decide) rfl (fun hq => ?_) (fun hq => ?_)
      · have hc9 := hc9.symm
        rw [Bool.and_eq_true, Bool.and_eq_true] at hc9
        rw [Bool.and_eq_true] at hp
        obtain ⟨⟨g1, g2⟩, g3⟩ := hc9
        obtain ⟨i, i1, rfl⟩ := inN_get (n := np) (by omega) (of_decide_eq_true hp.1).1 (of_decide_eq_true hp.1).2
        obtain ⟨j, j1, rfl⟩ := inN_get (n := np) (by omega) (of_decide_eq_true hp.2).1 (of_decide_eq_true hp.2).2
        obtain ⟨u, u1, u2, rfl⟩ := inI_get (a := 1) (b := 200) (by omega) (by omega) (of_decide_eq_true g2).1 (of_decide_eq_true g2).2
        obtain ⟨n9, n1, n2, rfl⟩ := inI_get (a := 1) (b := 1000) (by omega) (by omega) (of_decide_eq_true g3).1 (of_decide_eq_true g3).2
        have hij : ¬ i = j := fun q => of_decide_eq_true g1 (by rw [q])
        have m2' := m2
        unfold ModC at m2'
        refine wp_aload_n (n := 75) dX10_reserve_74 rfl rfl ?_
        refine wp_iload_n (n := 76) dX10_reserve_75 rfl rfl ?_
        refine wp_iload_n (n := 77) dX10_reserve_76 rfl rfl ?_
        refine wp_iload_n (n := 78) dX10_reserve_77 rfl rfl ?_
        refine wp_iload (n := 80) dX10_reserve_78 rfl rfl ?_
        refine wp_callV4 (n := 83) (rm' := (4, 90, 0, 0)) rfl dX10_reserve_80 rfl mlX10_139 (by repeat first | assumption | exact ax_set_self _ _ _ | exact ax_newA_self _ _ _ | refine (ax_set_ne _ _ (by omega)).trans ?_ | refine (ax_newA_ne _ _ _ (by omega)).trans ?_) rfl rfl rfl rfl rfl ?_
        refine s_X10_reserves m2 (f12.get hR (by omega)) hr hI.1 hAa ham i1 j1 (fun r e1 e2 => ?_) (fun e1 e2 h3 R3 f3 c3 z3 => ?_)
        · show WP Γ _ _ _ _ _ _ _
          exact wp_ireturn dX10_reserve_83 rfl rfl (k0 i j u i1 j1 rfl rfl hij u1 u2 rfl g3 r e1 e2 h2 f12 m2)
        · show WP Γ _ _ _ _ _ _ _
          exact wp_ireturn dX10_reserve_83 rfl rfl (k i j u n9 i1 j1 rfl rfl hij u1 u2 rfl n1 n2 rfl e1 e2 h3 R3 (f3.1.trans f12.1) (fun c c1 c2 => (f3.2 c (by omega)).trans (f12.2 c (by omega))) ((f3.2 m (by omega)).trans m2) c3 z3)
      · exact absurd rfl hq
  have J1 : ∀ c, c = (inN x np && inN z np) → WP Γ MX10_reserve (5, 116, 0, 0) 22 [some (.ref m), some (.int x), some (.int z), some (.int w), some (.int v)] [.int (bI c), .ref m] h Q := by
    intro c hc9
    refine wp_iconst (n := 23) (v := nI 1) dX10_reserve_22 rfl (by decide) ?_
    refine wp_callV2 (n := 26) (rm' := (0, 0, 0, 0)) rfl dX10_reserve_23 rfl mlX10_113 (by repeat first | assumption | exact ax_set_self _ _ _ | exact ax_newA_self _ _ _ | refine (ax_set_ne _ _ (by omega)).trans ?_ | refine (ax_newA_ne _ _ _ (by omega)).trans ?_) rfl rfl rfl rfl rfl ?_
    refine s_X10_isThrown hM0 hA (fun h1 f1 m1 => ?_)
    show WP Γ _ _ _ _ _ _ _
    cases c with
    | false =>
      refine wp_if_eq (t := 31) (n := 29) dX10_reserve_26 (by decide) rfl (fun hq => ?_) (fun hq => ?_)
      · exact absurd hq (by decide)
      · refine wp_iconst (n := 30) (v := 0) dX10_reserve_29 rfl (by decide) ?_
        exact wp_ireturn dX10_reserve_30 rfl rfl (k1 hc9.symm h1 f1 m1)
    | true =>
      have J2 := J2 h1 f1 m1 hc9.symm
      refine wp_if_eq (t := 31) (n := 29) dX10_reserve_26 (by decide) rfl (fun hq => ?_) (fun hq => ?_)
      · refine wp_aload_n (n := 32) dX10_reserve_31 rfl rfl ?_
        refine wp_iload_n (n := 33) dX10_reserve_32 rfl rfl ?_
        refine wp_iload_n (n := 34) dX10_reserve_33 rfl rfl ?_
        refine wp_icmp_eq (t := 64) (n := 37) dX10_reserve_34 (by decide) rfl (fun hx => ?_) (fun hx => ?_)
        · refine wp_iconst (n := 65) (v := 0) dX10_reserve_64 rfl (by decide) ?_
          exact J2 false (by rw [decide_eq_false (fun q => q hx)]; rfl)
        · refine wp_iload_n (n := 38) dX10_reserve_37 rfl rfl ?_
          refine wp_iconst (n := 39) (v := nI 1) dX10_reserve_38 rfl (by decide) ?_
          refine wp_sipush (n := 42) (v := nI 200) dX10_reserve_39 rfl (by decide) ?_
          refine wp_callS3 (n := 45) (rm' := (0, 0, 0, 0)) rfl dX10_reserve_42 rfl mlX10_54 rfl rfl rfl rfl ?_
          refine s_X10_in ?_
          show WP Γ _ _ _ _ _ _ _
          refine wp_if_eq (t := 64) (n := 48) dX10_reserve_45 (by decide) rfl (fun hu => ?_) (fun hu => ?_)
          · refine wp_iconst (n := 65) (v := 0) dX10_reserve_64 rfl (by decide) ?_
            exact J2 false (by rw [show inI w 1 200 = false from bI_eq hu, Bool.and_false, Bool.false_and])
          · have hu : inI w 1 200 = true := bI_ne hu
            refine wp_iload (n := 50) dX10_reserve_48 rfl rfl ?_
            refine wp_iconst (n := 51) (v := nI 1) dX10_reserve_50 rfl (by decide) ?_
            refine wp_sipush (n := 54) (v := nI 1000) dX10_reserve_51 rfl (by decide) ?_
            refine wp_callS3 (n := 57) (rm' := (0, 0, 0, 0)) rfl dX10_reserve_54 rfl mlX10_54 rfl rfl rfl rfl ?_
            refine s_X10_in ?_
            show WP Γ _ _ _ _ _ _ _
            refine wp_if_eq (t := 64) (n := 60) dX10_reserve_57 (by decide) rfl (fun hv => ?_) (fun hv => ?_)
            · refine wp_iconst (n := 65) (v := 0) dX10_reserve_64 rfl (by decide) ?_
              exact J2 false (by rw [show inI v 1 1000 = false from bI_eq hv, Bool.and_false])
            · have hv : inI v 1 1000 = true := bI_ne hv
              refine wp_iconst (n := 61) (v := nI 1) dX10_reserve_60 rfl (by decide) ?_
              refine wp_goto (t := 65) dX10_reserve_61 (by decide) ?_
              exact J2 true (by rw [decide_eq_true hx, hu, hv]; rfl)
      · exact absurd rfl hq
  refine wp_aload_n (n := 1) dX10_reserve_0 rfl rfl ?_
  refine wp_aload_n (n := 2) dX10_reserve_1 rfl rfl ?_
  refine wp_iload_n (n := 3) dX10_reserve_2 rfl rfl ?_
  refine wp_callV1 (n := 6) (rm' := (1, 22, 0, 0)) rfl dX10_reserve_3 rfl mlX10_109 (by repeat first | assumption | exact ax_set_self _ _ _ | exact ax_newA_self _ _ _ | refine (ax_set_ne _ _ (by omega)).trans ?_ | refine (ax_newA_ne _ _ _ (by omega)).trans ?_) rfl rfl rfl rfl rfl ?_
  refine s_X10_isPool hM0 hR r1 s2 ?_
  show WP Γ _ _ _ _ _ _ _
  refine wp_if_eq (t := 21) (n := 9) dX10_reserve_6 (by decide) rfl (fun hc => ?_) (fun hc => ?_)
  · refine wp_iconst (n := 22) (v := 0) dX10_reserve_21 rfl (by decide) ?_
    exact J1 false (by rw [bI_eq hc, Bool.false_and])
  · have hc := bI_ne hc
    refine wp_aload_n (n := 10) dX10_reserve_9 rfl rfl ?_
    refine wp_iload_n (n := 11) dX10_reserve_10 rfl rfl ?_
    refine wp_callV1 (n := 14) (rm' := (1, 22, 0, 0)) rfl dX10_reserve_11 rfl mlX10_109 (by repeat first | assumption | exact ax_set_self _ _ _ | exact ax_newA_self _ _ _ | refine (ax_set_ne _ _ (by omega)).trans ?_ | refine (ax_newA_ne _ _ _ (by omega)).trans ?_) rfl rfl rfl rfl rfl ?_
    refine s_X10_isPool hM0 hR r1 s2 ?_
    show WP Γ _ _ _ _ _ _ _
    refine wp_if_eq (t := 21) (n := 17) dX10_reserve_14 (by decide) rfl (fun hq => ?_) (fun hq => ?_)
    · refine wp_iconst (n := 22) (v := 0) dX10_reserve_21 rfl (by decide) ?_
      exact J1 false (by rw [bI_eq hq, Bool.and_false])
    · refine wp_iconst (n := 18) (v := nI 1) dX10_reserve_17 rfl (by decide) ?_
      refine wp_goto (t := 22) dX10_reserve_18 (by decide) ?_
      exact J1 true (by rw [hc, bI_ne hq]; rfl)
end
