/-! ===== the reference: reservations ===== -/
section
variable {Γ : GE} {h : AH} {Q : PO} {m a np nb ne nh nc y : Nat} {R : FI} {qu ra le ln pl tm rw hw cw pk : FI} {re : Nat → UInt32} {bk : Nat → Int64} {t x z w v th tl at' bg er ea lr cm : Int32}
theorem RowR.hold {R' : FI} {i j c d : Int32} (h : RowR R np qu ra re le ln nb pl tm ne rw bk nh hw nc cw t y) (hI : InvS np nb ne nh nc y t) (hn : nh < 60) (h5 : R' 5 = nI (nh + 1)) (e0 : R' (4671 + 5 * nh + 0) = i) (e1 : R' (4671 + 5 * nh + 1) = j) (e2 : R' (4671 + 5 * nh + 2) = c) (e3 : R' (4671 + 5 * nh + 3) = d) (e4 : R' (4671 + 5 * nh + 4) = 0) (eo : ∀ u, ¬ u = 5 → (u < 4671 + 5 * nh ∨ 4671 + 5 * nh + 5 ≤ u) → R' u = R u) : RowR R' np qu ra re le ln nb pl tm ne rw bk (nh + 1) (upd5 hw nh i j c d 0) nc cw t y := by
  obtain ⟨i1, i2, i3, i4, i5, i6, i7, i8, i9⟩ := hI
  obtain ⟨⟨r0, r1, r2, r3, r4, r5, r6⟩, rM, rP, rJ, rH, rC⟩ := h
  obtain ⟨u0, u1, u2, u3, u4⟩ := upd5_at hw nh i j c d 0
  refine ⟨⟨(eo 0 (by omega) (by omega)).trans r0, (eo 1 (by omega) (by omega)).trans r1, (eo 2 (by omega) (by omega)).trans r2, (eo 3 (by omega) (by omega)).trans r3, (eo 4 (by omega) (by omega)).trans r4, h5, (eo 6 (by omega) (by omega)).trans r6⟩, fun d hd => ⟨(eo _ (by omega) (by omega)).trans (rM d hd).1, (eo _ (by omega) (by omega)).trans (rM d hd).2⟩, fun j hj => ⟨(eo _ (by omega) (by omega)).trans (rP j hj).1, (eo _ (by omega) (by omega)).trans (rP j hj).2.1, fun i hi => (eo _ (by omega) (by omega)).trans ((rP j hj).2.2 i hi)⟩, fun e he => ⟨fun q hq => (eo _ (by omega) (by omega)).trans ((rJ e he).1 q hq), fun d hd => by rw [eo _ (by omega) (by omega)]; exact (rJ e he).2 d hd⟩, fun r hr q hq => ?_, fun c hc => ⟨fun j hj => (eo _ (by omega) (by omega)).trans ((rC c hc).1 j hj), (eo _ (by omega) (by omega)).trans (rC c hc).2⟩⟩
  by_cases e9 : r = nh
  · subst e9
    match q, hq with
    | 0, _ => rw [u0]; exact e0
    | 1, _ => rw [u1]; exact e1
    | 2, _ => rw [u2]; exact e2
    | 3, _ => rw [u3]; exact e3
    | 4, _ => rw [u4]; exact e4
  · rw [upd5_lt _ _ _ _ _ _ (by omega), eo _ (by omega) (by omega)]
    exact rH r (by omega) q hq
theorem s_X10_reserves {i j u : Nat} {d : Int32} (hM : ModC h m a th tl at' bg er ea lr cm) (hR : h.2 a = some (.inl (.int, 5061, .inl R))) (hr : RowR R np qu ra re le ln nb pl tm ne rw bk nh hw nc cw t y) (hI : InvS np nb ne nh nc y t) (hAa : Γ.2.1 ≤ a) (ham : ¬ a = m) (hi : i < np) (hj : j < np)
    (k0 : ∀ r, r = (if 60 ≤ nh then -2 else obs qu pl nb hw nh (nI i) j (nI u) 0) → r < 0 → Q (.inl (some (.int r))) h)
    (k1 : nh < 60 → obs qu pl nb hw nh (nI i) j (nI u) 0 = 0 → ∀ h' R', ax_fr a (a + 1) h h' → h'.2 a = some (.inl (.int, 5061, .inl R')) → RowR R' np qu ra re le ln nb pl tm ne rw bk (nh + 1) (upd5 hw nh (nI i) (nI j) (nI u) (t + d) 0) nc cw t y → Q (.inl (some (.int (nI nh)))) h') : WP Γ MX10_reserves (4, 90, 0, 0) 0 [some (.ref m), some (.int (nI i)), some (.int (nI j)), some (.int (nI u)), some (.int d), none, none] [] h Q := by
  have hM0 := hM
  unfold ModC at hM
  have hr0 := hr
  have hS := hI
  obtain ⟨s1, s2, s3, s4, s5, s6, s7, s8, tn, s9, s10⟩ := hI
  obtain ⟨⟨r0, r1, r2, r3, r4, r5, r6⟩, rM, rP, rJ, rH, rC⟩ := hr
  refine wp_aload_n (n := 1) dX10_reserves_0 rfl rfl ?_
  refine wp_getf (n := 4) dX10_reserves_1 rfl flX10_9 (by repeat first | assumption | exact ax_set_self _ _ _ | exact ax_newA_self _ _ _ | refine (ax_set_ne _ _ (by omega)).trans ?_ | refine (ax_newA_ne _ _ _ (by omega)).trans ?_) (by rfl) ?_
  refine wp_iconst (n := 5) (v := nI 5) dX10_reserves_4 rfl (by decide) ?_
  refine wp_iald (n := 6) _ dX10_reserves_5 rfl (by repeat first | assumption | exact ax_set_self _ _ _ | exact ax_newA_self _ _ _ | refine (ax_set_ne _ _ (by omega)).trans ?_ | refine (ax_newA_ne _ _ _ (by omega)).trans ?_) rfl (by omega) (by decide) ?_
  refine wp_bipush (n := 8) (v := nI 60) dX10_reserves_6 rfl (by decide) ?_
  rw [r5]
  refine wp_icmp_ne (t := 14) (n := 11) dX10_reserves_8 (by decide) rfl (fun hc => ?_) (fun hc => ?_)
  · have hne : nh < 60 := by
      by_cases q : nh = 60
      · exact absurd (by rw [q]) hc
      · omega
    rw [if_neg (show ¬ 60 ≤ nh by omega)] at k0
    refine wp_aload_n (n := 15) dX10_reserves_14 rfl rfl ?_
    refine wp_iload_n (n := 16) dX10_reserves_15 rfl rfl ?_
    refine wp_iload_n (n := 17) dX10_reserves_16 rfl rfl ?_
    refine wp_iload_n (n := 18) dX10_reserves_17 rfl rfl ?_
    refine wp_callV3 (n := 21) (rm' := (3, 67, 0, 0)) rfl dX10_reserves_18 rfl mlX10_98 (by repeat first | assumption | exact ax_set_self _ _ _ | exact ax_newA_self _ _ _ | refine (ax_set_ne _ _ (by omega)).trans ?_ | refine (ax_newA_ne _ _ _ (by omega)).trans ?_) rfl rfl rfl rfl rfl ?_
    refine s_X10_refusal hM0 hR hr0 s4 s6 s2 hj ?_
    show WP Γ _ _ _ _ _ _ _
    refine wp_istore (n := 23) dX10_reserves_21 rfl rfl rfl rfl ?_
    refine wp_iload (n := 25) dX10_reserves_23 rfl rfl ?_
    refine wp_if_eq (t := 31) (n := 28) dX10_reserves_25 (by decide) rfl (fun hq => ?_) (fun hq => ?_)
    · refine wp_aload_n (n := 32) dX10_reserves_31 rfl rfl ?_
      refine wp_getf (n := 35) dX10_reserves_32 rfl flX10_9 (by repeat first | assumption | exact ax_set_self _ _ _ | exact ax_newA_self _ _ _ | refine (ax_set_ne _ _ (by omega)).trans ?_ | refine (ax_newA_ne _ _ _ (by omega)).trans ?_) (by rfl) ?_
      refine wp_iconst (n := 36) (v := nI 5) dX10_reserves_35 rfl (by decide) ?_
      refine wp_iald (n := 37) _ dX10_reserves_36 rfl (by repeat first | assumption | exact ax_set_self _ _ _ | exact ax_newA_self _ _ _ | refine (ax_set_ne _ _ (by omega)).trans ?_ | refine (ax_newA_ne _ _ _ (by omega)).trans ?_) rfl (by omega) (by decide) ?_
      rw [r5]
      refine wp_istore (n := 39) dX10_reserves_37 rfl rfl rfl rfl ?_
      refine wp_aload_n (n := 40) dX10_reserves_39 rfl rfl ?_
      refine wp_iload (n := 42) dX10_reserves_40 rfl rfl ?_
      refine wp_iconst (n := 43) (v := 0) dX10_reserves_42 rfl (by decide) ?_
      refine wp_iload_n (n := 44) dX10_reserves_43 rfl rfl ?_
      refine wp_callV3 (n := 47) (rm' := (0, 0, 0, 0)) rfl dX10_reserves_44 rfl mlX10_136 (by repeat first | assumption | exact ax_set_self _ _ _ | exact ax_newA_self _ _ _ | refine (ax_set_ne _ _ (by omega)).trans ?_ | refine (ax_newA_ne _ _ _ (by omega)).trans ?_) rfl rfl rfl rfl rfl ?_
      refine s_X10_setsHold (q := 0) hM0 hR hAa hne (by omega) (fun h1 f1 c1 => ?_)
      show WP Γ _ _ _ _ _ _ _
      have m1 := hM0.fr f1 (by omega)
      have m1' := f1.get hM (by omega)
      refine wp_aload_n (n := 48) dX10_reserves_47 rfl rfl ?_
      refine wp_iload (n := 50) dX10_reserves_48 rfl rfl ?_
      refine wp_iconst (n := 51) (v := nI 1) dX10_reserves_50 rfl (by decide) ?_
      refine wp_iload_n (n := 52) dX10_reserves_51 rfl rfl ?_
      refine wp_callV3 (n := 55) (rm' := (0, 0, 0, 0)) rfl dX10_reserves_52 rfl mlX10_136 (by repeat first | assumption | exact ax_set_self _ _ _ | exact ax_newA_self _ _ _ | refine (ax_set_ne _ _ (by omega)).trans ?_ | refine (ax_newA_ne _ _ _ (by omega)).trans ?_) rfl rfl rfl rfl rfl ?_
      refine s_X10_setsHold m1 c1 hAa hne (by omega) (fun h2 f2 c2 => ?_)
      show WP Γ _ _ _ _ _ _ _
      have m2 := m1.fr f2 (by omega)
      have m2' := f2.get m1' (by omega)
      refine wp_aload_n (n := 56) dX10_reserves_55 rfl rfl ?_
      refine wp_iload (n := 58) dX10_reserves_56 rfl rfl ?_
      refine wp_iconst (n := 59) (v := nI 2) dX10_reserves_58 rfl (by decide) ?_
      refine wp_iload_n (n := 60) dX10_reserves_59 rfl rfl ?_
      refine wp_callV3 (n := 63) (rm' := (0, 0, 0, 0)) rfl dX10_reserves_60 rfl mlX10_136 (by repeat first | assumption | exact ax_set_self _ _ _ | exact ax_newA_self _ _ _ | refine (ax_set_ne _ _ (by omega)).trans ?_ | refine (ax_newA_ne _ _ _ (by omega)).trans ?_) rfl rfl rfl rfl rfl ?_
      refine s_X10_setsHold m2 c2 hAa hne (by omega) (fun h3 f3 c3 => ?_)
      show WP Γ _ _ _ _ _ _ _
      have m3 := m2.fr f3 (by omega)
      have m3' := f3.get m2' (by omega)
      refine wp_aload_n (n := 64) dX10_reserves_63 rfl rfl ?_
      refine wp_iload (n := 66) dX10_reserves_64 rfl rfl ?_
      refine wp_iconst (n := 67) (v := nI 3) dX10_reserves_66 rfl (by decide) ?_
      refine wp_aload_n (n := 68) dX10_reserves_67 rfl rfl ?_
      refine wp_getf (n := 71) dX10_reserves_68 rfl flX10_9 (by repeat first | assumption | exact ax_set_self _ _ _ | exact ax_newA_self _ _ _ | refine (ax_set_ne _ _ (by omega)).trans ?_ | refine (ax_newA_ne _ _ _ (by omega)).trans ?_) (by rfl) ?_
      refine wp_iconst (n := 72) (v := nI 2) dX10_reserves_71 rfl (by decide) ?_
      refine wp_iald (n := 73) _ dX10_reserves_72 rfl (by repeat first | assumption | exact ax_set_self _ _ _ | exact ax_newA_self _ _ _ | refine (ax_set_ne _ _ (by omega)).trans ?_ | refine (ax_newA_ne _ _ _ (by omega)).trans ?_) rfl (by omega) (by decide) ?_
      rw [show upd (upd (upd R (4671 + 5 * nh + 0) (nI i)) (4671 + 5 * nh + 1) (nI j)) (4671 + 5 * nh + 2) (nI u) 2 = t by
        simp only [upd]; rw [if_neg (by omega), if_neg (by omega), if_neg (by omega)]; exact r2]
      refine wp_iload (n := 75) dX10_reserves_73 rfl rfl ?_
      refine wp_iadd (n := 76) dX10_reserves_75 rfl ?_
      refine wp_callV3 (n := 79) (rm' := (0, 0, 0, 0)) rfl dX10_reserves_76 rfl mlX10_136 (by repeat first | assumption | exact ax_set_self _ _ _ | exact ax_newA_self _ _ _ | refine (ax_set_ne _ _ (by omega)).trans ?_ | refine (ax_newA_ne _ _ _ (by omega)).trans ?_) rfl rfl rfl rfl rfl ?_
      refine s_X10_setsHold m3 c3 hAa hne (by omega) (fun h4 f4 c4 => ?_)
      show WP Γ _ _ _ _ _ _ _
      have m4 := m3.fr f4 (by omega)
      have m4' := f4.get m3' (by omega)
      refine wp_aload_n (n := 80) dX10_reserves_79 rfl rfl ?_
      refine wp_iload (n := 82) dX10_reserves_80 rfl rfl ?_
      refine wp_iconst (n := 83) (v := nI 4) dX10_reserves_82 rfl (by decide) ?_
      refine wp_iconst (n := 84) (v := 0) dX10_reserves_83 rfl (by decide) ?_
      refine wp_callV3 (n := 87) (rm' := (0, 0, 0, 0)) rfl dX10_reserves_84 rfl mlX10_136 (by repeat first | assumption | exact ax_set_self _ _ _ | exact ax_newA_self _ _ _ | refine (ax_set_ne _ _ (by omega)).trans ?_ | refine (ax_newA_ne _ _ _ (by omega)).trans ?_) rfl rfl rfl rfl rfl ?_
      refine s_X10_setsHold m4 c4 hAa hne (by omega) (fun h5 f5 c5 => ?_)
      show WP Γ _ _ _ _ _ _ _
      have m5' := f5.get m4' (by omega)
      have fA := (((f1.tr (lo := a) (hi := a + 1) f2 (by omega) (by omega)).tr (lo := a) (hi := a + 1) f3 (by omega) (by omega)).tr (lo := a) (hi := a + 1) f4 (by omega) (by omega)).tr (lo := a) (hi := a + 1) f5 (by omega) (by omega)
      have e9 : ∀ q, ¬ q = 4671 + 5 * nh + 0 → ¬ q = 4671 + 5 * nh + 1 → ¬ q = 4671 + 5 * nh + 2 → ¬ q = 4671 + 5 * nh + 3 → ¬ q = 4671 + 5 * nh + 4 → upd (upd (upd (upd (upd R (4671 + 5 * nh + 0) (nI i)) (4671 + 5 * nh + 1) (nI j)) (4671 + 5 * nh + 2) (nI u)) (4671 + 5 * nh + 3) (t + d)) (4671 + 5 * nh + 4) 0 q = R q := fun q a b c d e => by
        simp only [upd]; rw [if_neg e, if_neg d, if_neg c, if_neg b, if_neg a]
      have v0 : upd (upd (upd (upd (upd R (4671 + 5 * nh + 0) (nI i)) (4671 + 5 * nh + 1) (nI j)) (4671 + 5 * nh + 2) (nI u)) (4671 + 5 * nh + 3) (t + d)) (4671 + 5 * nh + 4) 0 (4671 + 5 * nh + 0) = nI i := by simp [upd]
      have v1 : upd (upd (upd (upd (upd R (4671 + 5 * nh + 0) (nI i)) (4671 + 5 * nh + 1) (nI j)) (4671 + 5 * nh + 2) (nI u)) (4671 + 5 * nh + 3) (t + d)) (4671 + 5 * nh + 4) 0 (4671 + 5 * nh + 1) = nI j := by simp [upd]
      have v2 : upd (upd (upd (upd (upd R (4671 + 5 * nh + 0) (nI i)) (4671 + 5 * nh + 1) (nI j)) (4671 + 5 * nh + 2) (nI u)) (4671 + 5 * nh + 3) (t + d)) (4671 + 5 * nh + 4) 0 (4671 + 5 * nh + 2) = nI u := by simp [upd]
      have v3 : upd (upd (upd (upd (upd R (4671 + 5 * nh + 0) (nI i)) (4671 + 5 * nh + 1) (nI j)) (4671 + 5 * nh + 2) (nI u)) (4671 + 5 * nh + 3) (t + d)) (4671 + 5 * nh + 4) 0 (4671 + 5 * nh + 3) = t + d := by simp [upd]
      have v4 : upd (upd (upd (upd (upd R (4671 + 5 * nh + 0) (nI i)) (4671 + 5 * nh + 1) (nI j)) (4671 + 5 * nh + 2) (nI u)) (4671 + 5 * nh + 3) (t + d)) (4671 + 5 * nh + 4) 0 (4671 + 5 * nh + 4) = 0 := by simp [upd]
      generalize upd (upd (upd (upd (upd R (4671 + 5 * nh + 0) (nI i)) (4671 + 5 * nh + 1) (nI j)) (4671 + 5 * nh + 2) (nI u)) (4671 + 5 * nh + 3) (t + d)) (4671 + 5 * nh + 4) 0 = R5 at *
      have r55 : R5 5 = nI nh := (e9 5 (by omega) (by omega) (by omega) (by omega) (by omega)).trans r5
      refine wp_aload_n (n := 88) dX10_reserves_87 rfl rfl ?_
      refine wp_getf (n := 91) dX10_reserves_88 rfl flX10_9 (by repeat first | assumption | exact ax_set_self _ _ _ | exact ax_newA_self _ _ _ | refine (ax_set_ne _ _ (by omega)).trans ?_ | refine (ax_newA_ne _ _ _ (by omega)).trans ?_) (by rfl) ?_
      refine wp_iconst (n := 92) (v := nI 5) dX10_reserves_91 rfl (by decide) ?_
      refine wp_dup2 (n := 93) dX10_reserves_92 rfl rfl rfl ?_
      refine wp_iald (n := 94) _ dX10_reserves_93 rfl (by repeat first | assumption | exact ax_set_self _ _ _ | exact ax_newA_self _ _ _ | refine (ax_set_ne _ _ (by omega)).trans ?_ | refine (ax_newA_ne _ _ _ (by omega)).trans ?_) rfl (by omega) (by decide) ?_
      rw [r55]
      refine wp_iconst (n := 95) (v := nI 1) dX10_reserves_94 rfl (by decide) ?_
      refine wp_iadd (n := 96) dX10_reserves_95 rfl ?_
      rw [nI_add]
      refine wp_iast (n := 97) _ dX10_reserves_96 rfl (by repeat first | assumption | exact ax_set_self _ _ _ | exact ax_newA_self _ _ _ | refine (ax_set_ne _ _ (by omega)).trans ?_ | refine (ax_newA_ne _ _ _ (by omega)).trans ?_) (by omega) rfl (by omega) (by decide) ?_
      refine wp_iload (n := 99) dX10_reserves_97 rfl rfl ?_
      have o : ∀ q, ¬ q = 5 → upd R5 5 (nI (nh + 1)) q = R5 q := fun q hq => if_neg hq
      exact wp_ireturn dX10_reserves_99 rfl rfl (k1 hne hq _ _ (fA.put (by omega)) (ax_set_self _ _ _) (hr0.hold hS hne (by simp [upd]) ((o _ (by omega)).trans v0) ((o _ (by omega)).trans v1) ((o _ (by omega)).trans v2) ((o _ (by omega)).trans v3) ((o _ (by omega)).trans v4) (fun q h1 h2 => (o q h1).trans (e9 q (by omega) (by omega) (by omega) (by omega) (by omega)))))
    · rcases obs_cases qu pl nb hw nh (nI i) j (nI u) 0 with q | q
      · refine wp_iload (n := 30) dX10_reserves_28 rfl rfl ?_
        exact wp_ireturn dX10_reserves_30 rfl rfl (k0 _ rfl q.1)
      · exact absurd q hq
  · have hne : nh = 60 := (nI_eq9 (by omega) (by omega)).mp hc
    rw [if_pos (show 60 ≤ nh by omega)] at k0
    refine wp_bipush (n := 13) (v := (-2)) dX10_reserves_11 rfl (by decide) ?_
    exact wp_ireturn dX10_reserves_13 rfl rfl (k0 _ rfl (by decide))
end
