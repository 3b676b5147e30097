/-! ===== the reference: time passes ===== -/
section
variable {Γ : GE} {h : AH} {Q : PO} {m a np nb ne nh nc y : Nat} {R : FI} {qu ra le ln pl tm rw hw cw pk : FI} {re : Nat → UInt32} {RE : Nat → UInt32} {bk : Nat → Int64} {t x z w v th tl at' bg er ea lr cm : Int32}

theorem s_X10_passes {u tn : Nat} (hM : ModC h m a th tl at' bg er ea lr cm) (hR : h.2 a = some (.inl (.int, 5061, .inl R))) (hr : RowR R np qu ra re le ln nb pl tm ne rw bk nh hw nc cw t y) (hI : Inv np qu ra re le ln nb pl tm ne rw bk nh hw nc cw t y) (hA : Γ.2.1 ≤ m) (hAa : Γ.2.1 ≤ a) (ham : ¬ a = m) (ham5 : ¬ a = m + 5) (hE : h.2 (m + 5) = some (.inl (.float, 8, .inr (.inr (.inl RE))))) (hre : ∀ j, j < np → RE j = re j) (hu1 : 1 ≤ u) (hu : u ≤ 1000) (ht : t = nI tn) (htn : tn ≤ 1000000)
    (k0 : 1000000 < tn + u → Q (.inl (some (.int (-2)))) h)
    (k : tn + u ≤ 1000000 → ∀ h' R' RE', ax_f2 a (m + 5) h h' → h'.2 a = some (.inl (.int, 5061, .inl R')) → h'.2 (m + 5) = some (.inl (.float, 8, .inr (.inr (.inl RE')))) → (∀ j, j < np → RE' j = rntA ra re pl nb (nI u) j) → (∀ hw', (∀ r j, j < 5 → hw' (r * 5 + j) = if j = 4 ∧ r < nh ∧ dueB hw (nI (tn + u)) r = true then nI 3 else hw (r * 5 + j)) → RowR R' np qu ra re le ln nb pl tm ne rw bk nh hw' nc cw (nI (tn + u)) y) → Q (.inl (some (.int (nI (cntB (dueB hw (nI (tn + u))) nh))))) h') : WP Γ MX10_passes (2, 45, 0, 0) 0 [some (.ref m), some (.int (nI u)), none, none] [] h Q := by
  subst ht
  have hM0 := hM
  unfold ModC at hM
  have hI0 := hI
  have hr0 := hr
  obtain ⟨⟨s1, s2, s3, s4, s5, s6, s7, s8, _, _, _⟩, IM, IP, IJ, IR, IC⟩ := hI
  obtain ⟨⟨r0, r1, r2, r3, r4, r5, r6⟩, rM, rP, rJ, rH, rC⟩ := hr
  refine wp_aload_n (n := 1) dX10_passes_0 rfl rfl ?_
  refine wp_getf (n := 4) dX10_passes_1 rfl flX10_9 (by repeat first | assumption | exact ax_set_self _ _ _ | exact ax_newA_self _ _ _ | refine (ax_set_ne _ _ (by omega)).trans ?_ | refine (ax_newA_ne _ _ _ (by omega)).trans ?_) (by rfl) ?_
  refine wp_iconst (n := 5) (v := nI 2) dX10_passes_4 rfl (by decide) ?_
  refine wp_iald (n := 6) _ dX10_passes_5 rfl (by repeat first | assumption | exact ax_set_self _ _ _ | exact ax_newA_self _ _ _ | refine (ax_set_ne _ _ (by omega)).trans ?_ | refine (ax_newA_ne _ _ _ (by omega)).trans ?_) rfl (by omega) (by decide) ?_
  rw [r2]
  refine wp_iload_n (n := 7) dX10_passes_6 rfl rfl ?_
  refine wp_iadd (n := 8) dX10_passes_7 rfl ?_
  rw [nI_add]
  refine wp_ldc (n := 10) dX10_passes_8 rfl kcX10_146 ?_
  refine wp_icmp_le (t := 16) (n := 13) dX10_passes_10 (by decide) rfl (fun hc => ?_) (fun hc => ?_)
  · have hc : nI (tn + u) ≤ nI 1000000 := hc
    have hle : tn + u ≤ 1000000 := (nI_le9 (by omega) (by omega)).mp hc
    refine wp_iconst (n := 17) (v := 0) dX10_passes_16 rfl (by decide) ?_
    refine wp_istore_n (n := 18) dX10_passes_17 rfl rfl rfl rfl ?_
    have L : ∀ j, j ≤ np → ∀ h1 RE1, ax_fr (m + 5) (m + 6) h h1 → h1.2 (m + 5) = some (.inl (.float, 8, .inr (.inr (.inl RE1)))) → (∀ i, i < np → RE1 i = if i < j then rntA ra re pl nb (nI u) i else re i) → WP Γ MX10_passes (2, 45, 0, 0) 18 [some (.ref m), some (.int (nI u)), some (.int (nI j)), none] [] h1 Q := by
      refine ax_up np (fun j hj ih => ?_)
      intro h1 RE1 f1 hE1 hz
      have m1 := hM0.fr f1 (by omega)
      have m1' := m1
      unfold ModC at m1'
      have hR1 := f1.get hR (by omega)
      refine wp_iload_n (n := 19) dX10_passes_18 rfl rfl ?_
      refine wp_aload_n (n := 20) dX10_passes_19 rfl rfl ?_
      refine wp_getf (n := 23) dX10_passes_20 rfl flX10_9 (by repeat first | assumption | exact ax_set_self _ _ _ | exact ax_newA_self _ _ _ | refine (ax_set_ne _ _ (by omega)).trans ?_ | refine (ax_newA_ne _ _ _ (by omega)).trans ?_) (by rfl) ?_
      refine wp_iconst (n := 24) (v := nI 1) dX10_passes_23 rfl (by decide) ?_
      refine wp_iald (n := 25) _ dX10_passes_24 rfl (by repeat first | assumption | exact ax_set_self _ _ _ | exact ax_newA_self _ _ _ | refine (ax_set_ne _ _ (by omega)).trans ?_ | refine (ax_newA_ne _ _ _ (by omega)).trans ?_) rfl (by omega) (by decide) ?_
      rw [r1]
      refine wp_icmp_ge (t := 46) (n := 28) dX10_passes_25 (by decide) rfl (fun hq => ?_) (fun hq => ?_)
      · rw [nI_le9 (by omega) (by omega)] at hq
        obtain rfl : j = np := by omega
        refine wp_aload_n (n := 47) dX10_passes_46 rfl rfl ?_
        refine wp_getf (n := 50) dX10_passes_47 rfl flX10_9 (by repeat first | assumption | exact ax_set_self _ _ _ | exact ax_newA_self _ _ _ | refine (ax_set_ne _ _ (by omega)).trans ?_ | refine (ax_newA_ne _ _ _ (by omega)).trans ?_) (by rfl) ?_
        refine wp_iconst (n := 51) (v := nI 2) dX10_passes_50 rfl (by decide) ?_
        refine wp_dup2 (n := 52) dX10_passes_51 rfl rfl rfl ?_
        refine wp_iald (n := 53) _ dX10_passes_52 rfl (by repeat first | assumption | exact ax_set_self _ _ _ | exact ax_newA_self _ _ _ | refine (ax_set_ne _ _ (by omega)).trans ?_ | refine (ax_newA_ne _ _ _ (by omega)).trans ?_) rfl (by omega) (by decide) ?_
        rw [r2]
        refine wp_iload_n (n := 54) dX10_passes_53 rfl rfl ?_
        refine wp_iadd (n := 55) dX10_passes_54 rfl ?_
        rw [nI_add]
        refine wp_iast (n := 56) _ dX10_passes_55 rfl (by repeat first | assumption | exact ax_set_self _ _ _ | exact ax_newA_self _ _ _ | refine (ax_set_ne _ _ (by omega)).trans ?_ | refine (ax_newA_ne _ _ _ (by omega)).trans ?_) (by omega) rfl (by omega) (by decide) ?_
        refine wp_iconst (n := 57) (v := 0) dX10_passes_56 rfl (by decide) ?_
        refine wp_istore_n (n := 58) dX10_passes_57 rfl rfl rfl rfl ?_
        refine wp_iconst (n := 59) (v := 0) dX10_passes_58 rfl (by decide) ?_
        refine wp_istore_n (n := 60) dX10_passes_59 rfl rfl rfl rfl ?_
        have L2 : ∀ d, d ≤ nh → ∀ h2 R2, ax_fr a (a + 1) h1 h2 → h2.2 a = some (.inl (.int, 5061, .inl R2)) → R2 2 = nI (tn + u) → (∀ v, ¬ v = 2 → (v < 4671 ∨ 4971 ≤ v) → R2 v = R v) → (∀ r q, r < 60 → q < 5 → R2 (4671 + 5 * r + q) = if q = 4 ∧ r < d ∧ dueB hw (nI (tn + u)) r = true then nI 3 else R (4671 + 5 * r + q)) → WP Γ MX10_passes (2, 45, 0, 0) 60 [some (.ref m), some (.int (nI u)), some (.int (nI (cntB (dueB hw (nI (tn + u))) d))), some (.int (nI d))] [] h2 Q := by
          refine ax_up nh (fun d hd ih2 => ?_)
          intro h2 R2 f2 hR2 x2 xo xh
          have m2 := m1.fr f2 (by omega)
          have m2' := m2
          unfold ModC at m2'
          have x5 : R2 5 = nI nh := (xo 5 (by omega) (by omega)).trans r5
          refine wp_iload_n (n := 61) dX10_passes_60 rfl rfl ?_
          refine wp_aload_n (n := 62) dX10_passes_61 rfl rfl ?_
          refine wp_getf (n := 65) dX10_passes_62 rfl flX10_9 (by repeat first | assumption | exact ax_set_self _ _ _ | exact ax_newA_self _ _ _ | refine (ax_set_ne _ _ (by omega)).trans ?_ | refine (ax_newA_ne _ _ _ (by omega)).trans ?_) (by rfl) ?_
          refine wp_iconst (n := 66) (v := nI 5) dX10_passes_65 rfl (by decide) ?_
          refine wp_iald (n := 67) _ dX10_passes_66 rfl (by repeat first | assumption | exact ax_set_self _ _ _ | exact ax_newA_self _ _ _ | refine (ax_set_ne _ _ (by omega)).trans ?_ | refine (ax_newA_ne _ _ _ (by omega)).trans ?_) rfl (by omega) (by decide) ?_
          rw [x5]
          refine wp_icmp_ge (t := 110) (n := 70) dX10_passes_67 (by decide) rfl (fun hs => ?_) (fun hs => ?_)
          · rw [nI_le9 (by omega) (by omega)] at hs
            obtain rfl : d = nh := by omega
            refine wp_iload_n (n := 111) dX10_passes_110 rfl rfl ?_
            refine wp_ireturn dX10_passes_111 rfl rfl (k hle h2 R2 RE1 ⟨f2.1.trans f1.1, fun c c1 c2 => (f2.2 c (by omega)).trans (f1.2 c (by omega))⟩ hR2 (f2.get hE1 (by omega)) (fun j hj => (hz j hj).trans (if_pos hj)) (fun hw' hw9 => ?_))
            refine ⟨⟨(xo 0 (by omega) (by omega)).trans r0, (xo 1 (by omega) (by omega)).trans r1, x2, (xo 3 (by omega) (by omega)).trans r3, (xo 4 (by omega) (by omega)).trans r4, x5, (xo 6 (by omega) (by omega)).trans r6⟩, fun d hd => ⟨(xo _ (by omega) (by omega)).trans (rM d hd).1, (xo _ (by omega) (by omega)).trans (rM d hd).2⟩, fun j hj => ⟨(xo _ (by omega) (by omega)).trans (rP j hj).1, (xo _ (by omega) (by omega)).trans (rP j hj).2.1, fun i hi => (xo _ (by omega) (by omega)).trans ((rP j hj).2.2 i hi)⟩, fun e he => ⟨fun q hq => (xo _ (by omega) (by omega)).trans ((rJ e he).1 q hq), fun d hd => by rw [xo _ (by omega) (by omega)]; exact (rJ e he).2 d hd⟩, fun r hr q hq => ?_, fun c hc => ⟨fun j hj => (xo _ (by omega) (by omega)).trans ((rC c hc).1 j hj), (xo _ (by omega) (by omega)).trans (rC c hc).2⟩⟩
            rw [xh r q (by omega) hq, hw9 r q hq, rH r hr q hq]
          · rw [nI_le9 (by omega) (by omega)] at hs
            have hlt : d < nh := by omega
            have ih2 := ih2 hlt
            have x4 : R2 (4671 + 5 * d + 4) = hw (d * 5 + 4) := by
              rw [xh d 4 (by omega) (by omega), if_neg (fun q => by omega)]; exact rH d hlt 4 (by omega)
            have x3 : R2 (4671 + 5 * d + 3) = hw (d * 5 + 3) := by
              rw [xh d 3 (by omega) (by omega), if_neg (fun q => by omega)]; exact rH d hlt 3 (by omega)
            have no : dueB hw (nI (tn + u)) d = false → WP Γ MX10_passes (2, 45, 0, 0) 104 [some (.ref m), some (.int (nI u)), some (.int (nI (cntB (dueB hw (nI (tn + u))) d))), some (.int (nI d))] [] h2 Q := by
              intro q9
              have ih2 := ih2 h2 R2 f2 hR2 x2 xo (fun r q hr hq => by
                rw [xh r q hr hq]
                by_cases e : r = d
                · subst e; rw [if_neg (fun z => by omega), if_neg (fun z => by rw [q9] at z; exact absurd z.2.2 (by decide))]
                · have : (q = 4 ∧ r < d ∧ dueB hw (nI (tn + u)) r = true) ↔ (q = 4 ∧ r < d + 1 ∧ dueB hw (nI (tn + u)) r = true) := ⟨fun z => ⟨z.1, by omega, z.2.2⟩, fun z => ⟨z.1, by omega, z.2.2⟩⟩
                  simp only [this])
              rw [show cntB (dueB hw (nI (tn + u))) (d + 1) = cntB (dueB hw (nI (tn + u))) d by
                show _ + (if dueB hw (nI (tn + u)) d = true then 1 else 0) = _
                rw [q9]; rfl] at ih2
              refine wp_iinc (n := 107) dX10_passes_104 rfl rfl (nI_inc d) rfl rfl rfl ?_
              refine wp_goto (t := 60) dX10_passes_107 (by decide) ?_
              exact ih2
            refine wp_aload_n (n := 71) dX10_passes_70 rfl rfl ?_
            refine wp_iload_n (n := 72) dX10_passes_71 rfl rfl ?_
            refine wp_iconst (n := 73) (v := nI 4) dX10_passes_72 rfl (by decide) ?_
            refine wp_callV2 (n := 76) (rm' := (0, 0, 0, 0)) rfl dX10_passes_73 rfl mlX10_58 (by repeat first | assumption | exact ax_set_self _ _ _ | exact ax_newA_self _ _ _ | refine (ax_set_ne _ _ (by omega)).trans ?_ | refine (ax_newA_ne _ _ _ (by omega)).trans ?_) rfl rfl rfl rfl rfl ?_
            refine s_X10_hold m2 hR2 (by omega) (by omega) ?_
            show WP Γ _ _ _ _ _ _ _
            rw [x4]
            refine wp_if_ne (t := 104) (n := 79) dX10_passes_76 (by decide) rfl (fun hv => ?_) (fun hv => ?_)
            · exact no (by unfold dueB; rw [show pend hw d = false from decide_eq_false hv, Bool.false_and])
            · refine wp_aload_n (n := 80) dX10_passes_79 rfl rfl ?_
              refine wp_iload_n (n := 81) dX10_passes_80 rfl rfl ?_
              refine wp_iconst (n := 82) (v := nI 3) dX10_passes_81 rfl (by decide) ?_
              refine wp_callV2 (n := 85) (rm' := (0, 0, 0, 0)) rfl dX10_passes_82 rfl mlX10_58 (by repeat first | assumption | exact ax_set_self _ _ _ | exact ax_newA_self _ _ _ | refine (ax_set_ne _ _ (by omega)).trans ?_ | refine (ax_newA_ne _ _ _ (by omega)).trans ?_) rfl rfl rfl rfl rfl ?_
              refine s_X10_hold m2 hR2 (by omega) (by omega) ?_
              show WP Γ _ _ _ _ _ _ _
              rw [x3]
              refine wp_aload_n (n := 86) dX10_passes_85 rfl rfl ?_
              refine wp_getf (n := 89) dX10_passes_86 rfl flX10_9 (by repeat first | assumption | exact ax_set_self _ _ _ | exact ax_newA_self _ _ _ | refine (ax_set_ne _ _ (by omega)).trans ?_ | refine (ax_newA_ne _ _ _ (by omega)).trans ?_) (by rfl) ?_
              refine wp_iconst (n := 90) (v := nI 2) dX10_passes_89 rfl (by decide) ?_
              refine wp_iald (n := 91) _ dX10_passes_90 rfl (by repeat first | assumption | exact ax_set_self _ _ _ | exact ax_newA_self _ _ _ | refine (ax_set_ne _ _ (by omega)).trans ?_ | refine (ax_newA_ne _ _ _ (by omega)).trans ?_) rfl (by omega) (by decide) ?_
              rw [x2]
              refine wp_icmp_gt (t := 104) (n := 94) dX10_passes_91 (by decide) rfl (fun hy => ?_) (fun hy => ?_)
              · exact no (by unfold dueB; rw [decide_eq_false (fun q => q hy), Bool.and_false])
              · have q9 : dueB hw (nI (tn + u)) d = true := by unfold dueB; rw [show pend hw d = true from decide_eq_true hv, decide_eq_true hy]; rfl
                refine wp_aload_n (n := 95) dX10_passes_94 rfl rfl ?_
                refine wp_iload_n (n := 96) dX10_passes_95 rfl rfl ?_
                refine wp_iconst (n := 97) (v := nI 4) dX10_passes_96 rfl (by decide) ?_
                refine wp_iconst (n := 98) (v := nI 3) dX10_passes_97 rfl (by decide) ?_
                refine wp_callV3 (n := 101) (rm' := (0, 0, 0, 0)) rfl dX10_passes_98 rfl mlX10_136 (by repeat first | assumption | exact ax_set_self _ _ _ | exact ax_newA_self _ _ _ | refine (ax_set_ne _ _ (by omega)).trans ?_ | refine (ax_newA_ne _ _ _ (by omega)).trans ?_) rfl rfl rfl rfl rfl ?_
                refine s_X10_setsHold m2 hR2 hAa (by omega) (by omega) (fun h3 f3 c3 => ?_)
                show WP Γ _ _ _ _ _ _ _
                have e9 : ∀ v, ¬ v = 4671 + 5 * d + 4 → upd R2 (4671 + 5 * d + 4) (nI 3) v = R2 v := fun v hv => if_neg hv
                have ih2 := ih2 h3 _ (f2.tr (lo := a) (hi := a + 1) f3 (by omega) (by omega)) c3 ((e9 2 (by omega)).trans x2) (fun v h1 h2 => (e9 v (by omega)).trans (xo v h1 h2)) (fun r q hr hq => by
                  by_cases e : r = d ∧ q = 4
                  · obtain ⟨rfl, rfl⟩ := e
                    rw [show upd R2 (4671 + 5 * r + 4) (nI 3) (4671 + 5 * r + 4) = nI 3 from if_pos rfl, if_pos ⟨rfl, by omega, q9⟩]
                  · rw [e9 _ (by omega), xh r q hr hq]
                    have : (q = 4 ∧ r < d ∧ dueB hw (nI (tn + u)) r = true) ↔ (q = 4 ∧ r < d + 1 ∧ dueB hw (nI (tn + u)) r = true) := ⟨fun z => ⟨z.1, by omega, z.2.2⟩, fun z => ⟨z.1, by omega, z.2.2⟩⟩
                    simp only [this])
                rw [show cntB (dueB hw (nI (tn + u))) (d + 1) = cntB (dueB hw (nI (tn + u))) d + 1 by
                  show _ + (if dueB hw (nI (tn + u)) d = true then 1 else 0) = _
                  rw [q9]; rfl] at ih2
                refine wp_iinc (n := 104) dX10_passes_101 rfl rfl (nI_inc _) rfl rfl rfl ?_
                refine wp_iinc (n := 107) dX10_passes_104 rfl rfl (nI_inc d) rfl rfl rfl ?_
                refine wp_goto (t := 60) dX10_passes_107 (by decide) ?_
                exact ih2
        have e9 : ∀ v, ¬ v = 2 → upd R 2 (nI (tn + u)) v = R v := fun v hv => if_neg hv
        exact L2 0 (Nat.zero_le _) _ _ (ax_fr.set (by omega)) (ax_set_self _ _ _) (if_pos rfl) (fun v h1 h2 => e9 v h1) (fun r q hr hq => by rw [if_neg (fun z => by omega)]; exact e9 _ (by omega))
      · rw [nI_le9 (by omega) (by omega)] at hq
        have hlt : j < np := by omega
        refine wp_aload_n (n := 29) dX10_passes_28 rfl rfl ?_
        refine wp_getf (n := 32) dX10_passes_29 rfl flX10_22 (by repeat first | assumption | exact ax_set_self _ _ _ | exact ax_newA_self _ _ _ | refine (ax_set_ne _ _ (by omega)).trans ?_ | refine (ax_newA_ne _ _ _ (by omega)).trans ?_) (by rfl) ?_
        refine wp_iload_n (n := 33) dX10_passes_32 rfl rfl ?_
        refine wp_aload_n (n := 34) dX10_passes_33 rfl rfl ?_
        refine wp_iload_n (n := 35) dX10_passes_34 rfl rfl ?_
        refine wp_iload_n (n := 36) dX10_passes_35 rfl rfl ?_
        refine wp_callV2 (n := 39) (rm' := (1, 23, 0, 0)) rfl dX10_passes_36 rfl mlX10_147 (by repeat first | assumption | exact ax_set_self _ _ _ | exact ax_newA_self _ _ _ | refine (ax_set_ne _ _ (by omega)).trans ?_ | refine (ax_newA_ne _ _ _ (by omega)).trans ?_) rfl rfl rfl rfl rfl ?_
        refine s_X10_rentBehind m1 hR1 hr0 s4 s2 hE1 ((hz j hlt).trans (if_neg (by omega))) hlt hu (IP j hlt).1 (IP j hlt).2.1 (fun pf => ?_)
        show WP Γ _ _ _ _ _ _ _
        refine wp_fast (n := 40) (j) dX10_passes_39 rfl (by repeat first | assumption | exact ax_set_self _ _ _ | exact ax_newA_self _ _ _ | refine (ax_set_ne _ _ (by omega)).trans ?_ | refine (ax_newA_ne _ _ _ (by omega)).trans ?_) (by omega) (by simp only [nI_zero, nI_mul, nI_add]) (by omega) (by omega) ?_
        refine wp_iinc (n := 43) dX10_passes_40 rfl rfl (nI_inc j) rfl rfl rfl ?_
        refine wp_goto (t := 18) dX10_passes_43 (by decide) ?_
        refine ih hlt _ _ (f1.put (by omega)) (ax_set_self _ _ _) (fun i hi => ?_)
        by_cases e : i = j
        · subst e
          rw [if_pos (by omega)]
          exact if_pos rfl
        · rw [show vf_upd RE1 j (rntA ra re pl nb (nI u) j) i = RE1 i from if_neg e, hz i hi]
          by_cases e2 : i < j
          · rw [if_pos e2, if_pos (by omega)]
          · rw [if_neg e2, if_neg (by omega)]
    exact L 0 (Nat.zero_le _) h RE ax_fr.rf hE (fun i hi => by rw [if_neg (Nat.not_lt_zero _)]; exact hre i hi)
  · have hc : ¬ nI (tn + u) ≤ nI 1000000 := hc
    have hgt : 1000000 < tn + u := by
      by_cases q : tn + u ≤ 1000000
      · exact absurd ((nI_le9 (by omega) (by omega)).mpr q) hc
      · omega
    refine wp_bipush (n := 15) (v := (-2)) dX10_passes_13 rfl (by decide) ?_
    exact wp_ireturn dX10_passes_15 rfl rfl (k0 hgt)
theorem s_X10_advance (hM : ModC h m a th tl at' bg er ea lr cm) (hR : h.2 a = some (.inl (.int, 5061, .inl R))) (hr : RowR R np qu ra re le ln nb pl tm ne rw bk nh hw nc cw t y) (hI : Inv np qu ra re le ln nb pl tm ne rw bk nh hw nc cw t y) (hA : Γ.2.1 ≤ m) (ham : ¬ a = m) (hAa : Γ.2.1 ≤ a) (ham5 : ¬ a = m + 5) (hE : h.2 (m + 5) = some (.inl (.float, 8, .inr (.inr (.inl RE))))) (hre : ∀ j, j < np → RE j = re j)
    (k1 : inI x 1 1000 = false → ∀ h', ax_fr m (m + 1) h h' → ModC h' m a (nI 1) tl at' bg er ea lr cm → Q (.inl (some (.int 0))) h')
    (k0 : ∀ tn u, 1 ≤ u → u ≤ 1000 → x = nI u → t = nI tn → 1000000 < tn + u → ∀ h', ax_fr m (m + 1) h h' → ModC h' m a (0) tl at' bg er ea lr cm → Q (.inl (some (.int (-2)))) h')
    (k : ∀ tn u, 1 ≤ u → u ≤ 1000 → x = nI u → t = nI tn → tn + u ≤ 1000000 → ∀ h' R' RE', h'.1 = h.1 → (∀ c, ¬ c = m → ¬ c = a → ¬ c = m + 5 → h'.2 c = h.2 c) → ModC h' m a 0 tl at' bg er ea lr cm → h'.2 a = some (.inl (.int, 5061, .inl R')) → h'.2 (m + 5) = some (.inl (.float, 8, .inr (.inr (.inl RE')))) → (∀ j, j < np → RE' j = rntA ra re pl nb (nI u) j) → (∀ hw', (∀ r j, j < 5 → hw' (r * 5 + j) = if j = 4 ∧ r < nh ∧ dueB hw (nI (tn + u)) r = true then nI 3 else hw (r * 5 + j)) → RowR R' np qu ra re le ln nb pl tm ne rw bk nh hw' nc cw (nI (tn + u)) y) → Q (.inl (some (.int (nI (cntB (dueB hw (nI (tn + u))) nh))))) h') : WP Γ MX10_advance (3, 68, 0, 0) 0 [some (.ref m), some (.int x)] [] h Q := by
  have hM0 := hM
  unfold ModC at hM
  have hI0 := hI
  have hr0 := hr
  obtain ⟨⟨s1, s2, s3, s4, s5, s6, s7, s8, tn, s9, s10⟩, IM, IP, IJ, IR, IC⟩ := hI
  obtain ⟨⟨r0, r1, r2, r3, r4, r5, r6⟩, rM, rP, rJ, rH, rC⟩ := hr
  refine wp_aload_n (n := 1) dX10_advance_0 rfl rfl ?_
  refine wp_iload_n (n := 2) dX10_advance_1 rfl rfl ?_
  refine wp_iconst (n := 3) (v := nI 1) dX10_advance_2 rfl (by decide) ?_
  refine wp_sipush (n := 6) (v := nI 1000) dX10_advance_3 rfl (by decide) ?_
  refine wp_callS3 (n := 9) (rm' := (0, 0, 0, 0)) rfl dX10_advance_6 rfl mlX10_54 rfl rfl rfl rfl ?_
  refine s_X10_inJ (p := 1) (q := 1000) rfl rfl ?_
  show WP Γ _ _ _ _ _ _ _
  refine wp_iconst (n := 10) (v := nI 1) dX10_advance_9 rfl (by decide) ?_
  refine wp_callV2 (n := 13) (rm' := (0, 0, 0, 0)) rfl dX10_advance_10 rfl mlX10_113 (by repeat first | assumption | exact ax_set_self _ _ _ | exact ax_newA_self _ _ _ | refine (ax_set_ne _ _ (by omega)).trans ?_ | refine (ax_newA_ne _ _ _ (by omega)).trans ?_) rfl rfl rfl rfl rfl ?_
  refine s_X10_isThrown hM0 hA (fun hB f1 mB => ?_)
  show WP Γ _ _ _ _ _ _ _
  have fB := f1
  have hRB := fB.get hR (by omega)
  cases hx1 : inI x 1 1000 with
  | false =>
    rw [hx1] at mB
    refine wp_if_eq (t := 20) (n := 16) dX10_advance_13 (by decide) rfl (fun hq => ?_) (fun hq => ?_)
    · exact absurd hq (by decide)
    · refine wp_iconst (n := 17) (v := 0) dX10_advance_16 rfl (by decide) ?_
      refine wp_goto (t := 25) dX10_advance_17 (by decide) ?_
      exact wp_ireturn dX10_advance_25 rfl rfl (k1 hx1 hB fB mB)
  | true =>
    rw [hx1] at mB
    have mB' := mB
    unfold ModC at mB'
    refine wp_if_eq (t := 20) (n := 16) dX10_advance_13 (by decide) rfl (fun hq => ?_) (fun hq => ?_)
    · skip
      obtain ⟨u, u1, u2, rfl⟩ := inI_get (a := 1) (b := 1000) (by omega) (by omega) (of_decide_eq_true hx1).1 (of_decide_eq_true hx1).2
      have hEB := fB.get hE (by omega)
      refine wp_aload_n (n := 21) dX10_advance_20 rfl rfl ?_
      refine wp_iload_n (n := 22) dX10_advance_21 rfl rfl ?_
      refine wp_callV1 (n := 25) (rm' := (2, 45, 0, 0)) rfl dX10_advance_22 rfl mlX10_151 (by repeat first | assumption | exact ax_set_self _ _ _ | exact ax_newA_self _ _ _ | refine (ax_set_ne _ _ (by omega)).trans ?_ | refine (ax_newA_ne _ _ _ (by omega)).trans ?_) rfl rfl rfl rfl rfl ?_
      refine s_X10_passes mB hRB hr0 hI0 hA hAa ham ham5 hEB hre u1 u2 s10 s9 (fun e1 => ?_) (fun e1 h3 R3 RE3 f3 c3 d3 z3 z4 => ?_)
      · show WP Γ _ _ _ _ _ _ _
        exact wp_ireturn dX10_advance_25 rfl rfl (k0 tn u u1 u2 rfl s10 e1 hB fB mB)
      · show WP Γ _ _ _ _ _ _ _
        exact wp_ireturn dX10_advance_25 rfl rfl (k tn u u1 u2 rfl s10 e1 h3 R3 RE3 (f3.1.trans fB.1) (fun c c1 c2 c9 => (f3.2 c c2 c9).trans (fB.2 c (by omega))) ((f3.2 m (by omega) (by omega)).trans mB) c3 d3 z3 z4)
    · exact absurd rfl hq
end
