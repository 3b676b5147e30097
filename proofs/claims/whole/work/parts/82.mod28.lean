/-! ===== the reference: checkpoint ===== -/
section
variable {Γ : GE} {h : AH} {Q : PO} {m a np nb ne nh nc y : Nat} {R : FI} {qu ra le ln pl tm rw hw cw pk : FI} {re : Nat → UInt32} {bk : Nat → Int64} {t x z w v th tl at' bg er ea lr cm : Int32}

theorem s_X10_checkpoint (hM : ModC h m a th tl at' bg er ea lr cm) (hR : h.2 a = some (.inl (.int, 5061, .inl R))) (hr : RowR R np qu ra re le ln nb pl tm ne rw bk nh hw nc cw t y) (hI : Inv np qu ra re le ln nb pl tm ne rw bk nh hw nc cw t y) (hA : Γ.2.1 ≤ m) (ham : ¬ a = m) (hAa : Γ.2.1 ≤ a)
    (k0 : 10 ≤ nc → ∀ h', ax_fr m (m + 1) h h' → ModC h' m a (0) tl at' bg er ea lr cm → Q (.inl (some (.int (-2)))) h')
    (k : nc < 10 → ∀ h' R', h'.1 = h.1 → (∀ c, ¬ c = m → ¬ c = a → h'.2 c = h.2 c) → ModC h' m a 0 tl at' bg er ea lr cm → h'.2 a = some (.inl (.int, 5061, .inl R')) → (∀ cw', (∀ i, i < nc * 9 → cw' i = cw i) → (∀ j, j < np → cw' (nc * 9 + j) = nI (cnt pl (nI j) nb)) → cw' (nc * 9 + 8) = nI ne → RowR R' np qu ra re le ln nb pl tm ne rw bk nh hw (nc + 1) cw' t y) → Q (.inl (some (.int (nI nc)))) h') : WP Γ MX10_checkpoint (1, 23, 0, 0) 0 [some (.ref m), none, none] [] h Q := by
  have hM0 := hM
  unfold ModC at hM
  have hI0 := hI
  have hr0 := hr
  obtain ⟨⟨s1, s2, s3, s4, s5, s6, s7, s8, tn, s9, s10⟩, IM, IP, IJ, IR, IC⟩ := hI
  obtain ⟨⟨r0, r1, r2, r3, r4, r5, r6⟩, rM, rP, rJ, rH, rC⟩ := hr
  refine wp_aload_n (n := 1) dX10_checkpoint_0 rfl rfl ?_
  refine wp_iconst (n := 2) (v := 0) dX10_checkpoint_1 rfl (by decide) ?_
  refine wp_putf (n := 5) dX10_checkpoint_2 rfl flX10_50 (by repeat first | assumption | exact ax_set_self _ _ _ | exact ax_newA_self _ _ _ | refine (ax_set_ne _ _ (by omega)).trans ?_ | refine (ax_newA_ne _ _ _ (by omega)).trans ?_) (by omega) (by rfl) rfl rfl ?_
  have f1 : ax_fr m (m + 1) h (ax_set h m (.inr (10, [.ref a, .ref (m + 2), .ref (m + 3), .ref (m + 4), .ref (m + 5), .ref (m + 6), .ref (m + 7), .ref (m + 8), .int 0, .ref (m + 9), .ref (m + 10), .int tl, .int at', .int bg, .int er, .int ea, .int lr, .ref (m + 11), .int cm]))) := ax_fr.set (by omega)
  have m1 := ModC.set h m a 0 tl at' bg er ea lr cm
  have m1' := m1
  unfold ModC at m1'
  have hR1 := f1.get hR (by omega)
  generalize ax_set h m (.inr (10, [.ref a, .ref (m + 2), .ref (m + 3), .ref (m + 4), .ref (m + 5), .ref (m + 6), .ref (m + 7), .ref (m + 8), .int 0, .ref (m + 9), .ref (m + 10), .int tl, .int at', .int bg, .int er, .int ea, .int lr, .ref (m + 11), .int cm])) = h1 at *
  refine wp_aload_n (n := 6) dX10_checkpoint_5 rfl rfl ?_
  refine wp_getf (n := 9) dX10_checkpoint_6 rfl flX10_9 (by repeat first | assumption | exact ax_set_self _ _ _ | exact ax_newA_self _ _ _ | refine (ax_set_ne _ _ (by omega)).trans ?_ | refine (ax_newA_ne _ _ _ (by omega)).trans ?_) (by rfl) ?_
  refine wp_bipush (n := 11) (v := nI 6) dX10_checkpoint_9 rfl (by decide) ?_
  refine wp_iald (n := 12) _ dX10_checkpoint_11 rfl (by repeat first | assumption | exact ax_set_self _ _ _ | exact ax_newA_self _ _ _ | refine (ax_set_ne _ _ (by omega)).trans ?_ | refine (ax_newA_ne _ _ _ (by omega)).trans ?_) rfl (by omega) (by decide) ?_
  rw [r6]
  refine wp_bipush (n := 14) (v := nI 10) dX10_checkpoint_12 rfl (by decide) ?_
  refine wp_icmp_ne (t := 20) (n := 17) dX10_checkpoint_14 (by decide) rfl (fun hc => ?_) (fun hc => ?_)
  · have hn : nc < 10 := by
      by_cases q : nc = 10
      · exact absurd (by rw [q]) hc
      · omega
    refine wp_sipush (n := 23) (v := nI 4971) dX10_checkpoint_20 rfl (by decide) ?_
    refine wp_bipush (n := 25) (v := nI 9) dX10_checkpoint_23 rfl (by decide) ?_
    refine wp_aload_n (n := 26) dX10_checkpoint_25 rfl rfl ?_
    refine wp_getf (n := 29) dX10_checkpoint_26 rfl flX10_9 (by repeat first | assumption | exact ax_set_self _ _ _ | exact ax_newA_self _ _ _ | refine (ax_set_ne _ _ (by omega)).trans ?_ | refine (ax_newA_ne _ _ _ (by omega)).trans ?_) (by rfl) ?_
    refine wp_bipush (n := 31) (v := nI 6) dX10_checkpoint_29 rfl (by decide) ?_
    refine wp_iald (n := 32) _ dX10_checkpoint_31 rfl (by repeat first | assumption | exact ax_set_self _ _ _ | exact ax_newA_self _ _ _ | refine (ax_set_ne _ _ (by omega)).trans ?_ | refine (ax_newA_ne _ _ _ (by omega)).trans ?_) rfl (by omega) (by decide) ?_
    rw [r6]
    refine wp_imul (n := 33) dX10_checkpoint_32 rfl ?_
    refine wp_iadd (n := 34) dX10_checkpoint_33 rfl ?_
    rw [nI_mul, nI_add]
    refine wp_istore_n (n := 35) dX10_checkpoint_34 rfl rfl rfl rfl ?_
    refine wp_iconst (n := 36) (v := 0) dX10_checkpoint_35 rfl (by decide) ?_
    refine wp_istore_n (n := 37) dX10_checkpoint_36 rfl rfl rfl rfl ?_
    have L : ∀ j, j ≤ 8 → ∀ h2 R2, ax_fr a (a + 1) h1 h2 → h2.2 a = some (.inl (.int, 5061, .inl R2)) → (∀ u, u < 4971 + 9 * nc → R2 u = R u) → (∀ i, i < j → R2 (4971 + 9 * nc + i) = nI (cnt pl (nI i) nb)) → WP Γ MX10_checkpoint (1, 23, 0, 0) 37 [some (.ref m), some (.int (nI (4971 + 9 * nc))), some (.int (nI j))] [] h2 Q := by
      refine ax_up 8 (fun j hj ih => ?_)
      intro h2 R2 f2 hR2 xo xj
      have m2 := m1.fr f2 (by omega)
      have m2' := m2
      unfold ModC at m2'
      have x0 : R2 0 = nI nb := (xo 0 (by omega)).trans r0
      have x6 : R2 6 = nI nc := (xo 6 (by omega)).trans r6
      have x4 : R2 4 = nI ne := (xo 4 (by omega)).trans r4
      have xM : RowM R2 nb pl tm := fun d hd => ⟨(xo _ (by omega)).trans (rM d hd).1, (xo _ (by omega)).trans (rM d hd).2⟩
      refine wp_iload_n (n := 38) dX10_checkpoint_37 rfl rfl ?_
      refine wp_bipush (n := 40) (v := nI 8) dX10_checkpoint_38 rfl (by decide) ?_
      refine wp_icmp_ge (t := 62) (n := 43) dX10_checkpoint_40 (by decide) rfl (fun hq => ?_) (fun hq => ?_)
      · rw [nI_le9 (by omega) (by omega)] at hq
        obtain rfl : j = 8 := by omega
        refine wp_aload_n (n := 63) dX10_checkpoint_62 rfl rfl ?_
        refine wp_getf (n := 66) dX10_checkpoint_63 rfl flX10_9 (by repeat first | assumption | exact ax_set_self _ _ _ | exact ax_newA_self _ _ _ | refine (ax_set_ne _ _ (by omega)).trans ?_ | refine (ax_newA_ne _ _ _ (by omega)).trans ?_) (by rfl) ?_
        refine wp_iload_n (n := 67) dX10_checkpoint_66 rfl rfl ?_
        refine wp_bipush (n := 69) (v := nI 8) dX10_checkpoint_67 rfl (by decide) ?_
        refine wp_iadd (n := 70) dX10_checkpoint_69 rfl ?_
        refine wp_aload_n (n := 71) dX10_checkpoint_70 rfl rfl ?_
        refine wp_getf (n := 74) dX10_checkpoint_71 rfl flX10_9 (by repeat first | assumption | exact ax_set_self _ _ _ | exact ax_newA_self _ _ _ | refine (ax_set_ne _ _ (by omega)).trans ?_ | refine (ax_newA_ne _ _ _ (by omega)).trans ?_) (by rfl) ?_
        refine wp_iconst (n := 75) (v := nI 4) dX10_checkpoint_74 rfl (by decide) ?_
        refine wp_iald (n := 76) _ dX10_checkpoint_75 rfl (by repeat first | assumption | exact ax_set_self _ _ _ | exact ax_newA_self _ _ _ | refine (ax_set_ne _ _ (by omega)).trans ?_ | refine (ax_newA_ne _ _ _ (by omega)).trans ?_) rfl (by omega) (by decide) ?_
        rw [x4]
        refine wp_iast (n := 77) (4971 + 9 * nc + 8) dX10_checkpoint_76 rfl (by repeat first | assumption | exact ax_set_self _ _ _ | exact ax_newA_self _ _ _ | refine (ax_set_ne _ _ (by omega)).trans ?_ | refine (ax_newA_ne _ _ _ (by omega)).trans ?_) (by omega) (by simp only [nI_zero, nI_mul, nI_add]) (by omega) (by omega) ?_
        refine wp_aload_n (n := 78) dX10_checkpoint_77 rfl rfl ?_
        refine wp_getf (n := 81) dX10_checkpoint_78 rfl flX10_9 (by repeat first | assumption | exact ax_set_self _ _ _ | exact ax_newA_self _ _ _ | refine (ax_set_ne _ _ (by omega)).trans ?_ | refine (ax_newA_ne _ _ _ (by omega)).trans ?_) (by rfl) ?_
        refine wp_bipush (n := 83) (v := nI 6) dX10_checkpoint_81 rfl (by decide) ?_
        refine wp_dup2 (n := 84) dX10_checkpoint_83 rfl rfl rfl ?_
        refine wp_iald (n := 85) _ dX10_checkpoint_84 rfl (by repeat first | assumption | exact ax_set_self _ _ _ | exact ax_newA_self _ _ _ | refine (ax_set_ne _ _ (by omega)).trans ?_ | refine (ax_newA_ne _ _ _ (by omega)).trans ?_) rfl (by omega) (by decide) ?_
        rw [show upd R2 (4971 + 9 * nc + 8) (nI ne) 6 = nI nc by rw [show upd R2 (4971 + 9 * nc + 8) (nI ne) 6 = R2 6 from if_neg (by omega)]; exact x6]
        refine wp_iconst (n := 86) (v := nI 1) dX10_checkpoint_85 rfl (by decide) ?_
        refine wp_iadd (n := 87) dX10_checkpoint_86 rfl ?_
        rw [nI_add]
        refine wp_iast (n := 88) _ dX10_checkpoint_87 rfl (by repeat first | assumption | exact ax_set_self _ _ _ | exact ax_newA_self _ _ _ | refine (ax_set_ne _ _ (by omega)).trans ?_ | refine (ax_newA_ne _ _ _ (by omega)).trans ?_) (by omega) rfl (by omega) (by decide) ?_
        refine wp_aload_n (n := 89) dX10_checkpoint_88 rfl rfl ?_
        refine wp_getf (n := 92) dX10_checkpoint_89 rfl flX10_9 (by repeat first | assumption | exact ax_set_self _ _ _ | exact ax_newA_self _ _ _ | refine (ax_set_ne _ _ (by omega)).trans ?_ | refine (ax_newA_ne _ _ _ (by omega)).trans ?_) (by rfl) ?_
        refine wp_bipush (n := 94) (v := nI 6) dX10_checkpoint_92 rfl (by decide) ?_
        refine wp_iald (n := 95) _ dX10_checkpoint_94 rfl (by repeat first | assumption | exact ax_set_self _ _ _ | exact ax_newA_self _ _ _ | refine (ax_set_ne _ _ (by omega)).trans ?_ | refine (ax_newA_ne _ _ _ (by omega)).trans ?_) rfl (by omega) (by decide) ?_
        rw [show upd (upd R2 (4971 + 9 * nc + 8) (nI ne)) 6 (nI (nc + 1)) 6 = nI (nc + 1) from if_pos rfl]
        refine wp_iconst (n := 96) (v := nI 1) dX10_checkpoint_95 rfl (by decide) ?_
        refine wp_isub (n := 97) dX10_checkpoint_96 rfl ?_
        rw [nI_sub (by omega), show nc + 1 - 1 = nc by omega]
        have e9 : ∀ u, ¬ u = 6 → ¬ u = 4971 + 9 * nc + 8 → upd (upd R2 (4971 + 9 * nc + 8) (nI ne)) 6 (nI (nc + 1)) u = R2 u := fun u h1 h2 => by
          simp only [upd]; rw [if_neg h1, if_neg h2]
        refine wp_ireturn dX10_checkpoint_97 rfl rfl (k hn _ _ (f2.1.trans f1.1) (fun c c1 c2 => (ax_set_ne _ _ c2).trans ((ax_set_ne _ _ c2).trans ((f2.2 c (by omega)).trans (f1.2 c (by omega))))) ((ax_set_ne _ _ (by omega)).trans ((ax_set_ne _ _ (by omega)).trans m2)) (ax_set_self _ _ _) (fun cw' w1 w2 w3 => ?_))
        have eo : ∀ u, ¬ u = 6 → u < 4971 + 9 * nc → upd (upd R2 (4971 + 9 * nc + 8) (nI ne)) 6 (nI (nc + 1)) u = R u := fun u h1 h2 => (e9 u h1 (by omega)).trans (xo u h2)
        refine ⟨⟨(eo 0 (by omega) (by omega)).trans r0, (eo 1 (by omega) (by omega)).trans r1, (eo 2 (by omega) (by omega)).trans r2, (eo 3 (by omega) (by omega)).trans r3, (eo 4 (by omega) (by omega)).trans r4, (eo 5 (by omega) (by omega)).trans r5, if_pos rfl⟩, fun d hd => ⟨(eo _ (by omega) (by omega)).trans (rM d hd).1, (eo _ (by omega) (by omega)).trans (rM d hd).2⟩, fun j hj => ⟨(eo _ (by omega) (by omega)).trans (rP j hj).1, (eo _ (by omega) (by omega)).trans (rP j hj).2.1, fun i hi => (eo _ (by omega) (by omega)).trans ((rP j hj).2.2 i hi)⟩, fun e he => ⟨fun q hq => (eo _ (by omega) (by omega)).trans ((rJ e he).1 q hq), fun d hd => by rw [eo _ (by omega) (by omega)]; exact (rJ e he).2 d hd⟩, fun r hr q hq => (eo _ (by omega) (by omega)).trans (rH r hr q hq), fun c hc => ?_⟩
        by_cases e : c = nc
        · subst e
          refine ⟨fun j hj => ?_, ?_⟩
          · rw [e9 _ (by omega) (by omega), xj j (by omega), w2 j hj]
          · rw [w3, show upd (upd R2 (4971 + 9 * c + 8) (nI ne)) 6 (nI (c + 1)) (4971 + 9 * c + 8) = upd R2 (4971 + 9 * c + 8) (nI ne) (4971 + 9 * c + 8) from if_neg (by omega)]
            exact if_pos rfl
        · refine ⟨fun j hj => ?_, ?_⟩
          · rw [eo _ (by omega) (by omega), w1 _ (by omega)]; exact (rC c (by omega)).1 j hj
          · rw [eo _ (by omega) (by omega), w1 _ (by omega)]; exact (rC c (by omega)).2
      · rw [nI_le9 (by omega) (by omega)] at hq
        refine wp_aload_n (n := 44) dX10_checkpoint_43 rfl rfl ?_
        refine wp_getf (n := 47) dX10_checkpoint_44 rfl flX10_9 (by repeat first | assumption | exact ax_set_self _ _ _ | exact ax_newA_self _ _ _ | refine (ax_set_ne _ _ (by omega)).trans ?_ | refine (ax_newA_ne _ _ _ (by omega)).trans ?_) (by rfl) ?_
        refine wp_iload_n (n := 48) dX10_checkpoint_47 rfl rfl ?_
        refine wp_iload_n (n := 49) dX10_checkpoint_48 rfl rfl ?_
        refine wp_iadd (n := 50) dX10_checkpoint_49 rfl ?_
        refine wp_aload_n (n := 51) dX10_checkpoint_50 rfl rfl ?_
        refine wp_iload_n (n := 52) dX10_checkpoint_51 rfl rfl ?_
        refine wp_callV1 (n := 55) (rm' := (0, 0, 0, 0)) rfl dX10_checkpoint_52 rfl mlX10_62 (by repeat first | assumption | exact ax_set_self _ _ _ | exact ax_newA_self _ _ _ | refine (ax_set_ne _ _ (by omega)).trans ?_ | refine (ax_newA_ne _ _ _ (by omega)).trans ?_) rfl rfl rfl rfl rfl ?_
        refine s_X10_balanceOf m2 hR2 x0 xM s4 ?_
        show WP Γ _ _ _ _ _ _ _
        refine wp_iast (n := 56) (4971 + 9 * nc + j) dX10_checkpoint_55 rfl (by repeat first | assumption | exact ax_set_self _ _ _ | exact ax_newA_self _ _ _ | refine (ax_set_ne _ _ (by omega)).trans ?_ | refine (ax_newA_ne _ _ _ (by omega)).trans ?_) (by omega) (by simp only [nI_zero, nI_mul, nI_add]) (by omega) (by omega) ?_
        refine wp_iinc (n := 59) dX10_checkpoint_56 rfl rfl (nI_inc j) rfl rfl rfl ?_
        refine wp_goto (t := 37) dX10_checkpoint_59 (by decide) ?_
        have e9 : ∀ u, ¬ u = 4971 + 9 * nc + j → upd R2 (4971 + 9 * nc + j) (nI (cnt pl (nI j) nb)) u = R2 u := fun u hu => if_neg hu
        refine ih (by omega) _ _ (f2.put (by omega)) (ax_set_self _ _ _) (fun u hu => (e9 u (by omega)).trans (xo u hu)) (fun i hi => ?_)
        by_cases e : i = j
        · subst e; exact if_pos rfl
        · rw [e9 _ (by omega)]; exact xj i (by omega)
    exact L 0 (Nat.zero_le _) h1 R ax_fr.rf hR1 (fun u _ => rfl) (fun i hi => absurd hi (Nat.not_lt_zero _))
  · have hn : nc = 10 := (nI_eq9 (by omega) (by omega)).mp hc
    refine wp_bipush (n := 19) (v := (-2)) dX10_checkpoint_17 rfl (by decide) ?_
    exact wp_ireturn dX10_checkpoint_19 rfl rfl (k0 (by omega) h1 f1 m1)

end
