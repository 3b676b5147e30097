/-! ===== the reference: carrying out one ===== -/

/-- carrying out touches the row, the rents, and what is picked -/
def frC (m a : Nat) (h h' : AH) : Prop := h'.1 = h.1 ∧ ∀ c, ¬ c = a → ¬ c = m + 5 → ¬ c = m + 9 → h'.2 c = h.2 c
theorem frC.rf {m a : Nat} {h : AH} : frC m a h h := ⟨rfl, fun _ _ _ _ => rfl⟩
theorem frC.tr {m a : Nat} {h h1 h2 : AH} (x : frC m a h h1) (y : frC m a h1 h2) : frC m a h h2 := ⟨y.1.trans x.1, fun c c1 c2 c3 => (y.2 c c1 c2 c3).trans (x.2 c c1 c2 c3)⟩
theorem frC.of {m a lo hi : Nat} {h h1 : AH} (x : ax_fr lo hi h h1) (q : (lo = a ∨ lo = m + 5 ∨ lo = m + 9) ∧ hi = lo + 1) : frC m a h h1 := ⟨x.1, fun c c1 c2 c3 => x.2 c (by omega)⟩
section
variable {Γ : GE} {h : AH} {Q : PO} {m a len b n np nb ne nh nc y : Nat} {bs B R CM rs qu ra le ln pl tm rw hw cw pk : FI} {RE re : Nat → UInt32} {bk : Nat → Int64} {t x z w v th bg er ea lr cm : Int32}
variable {o : Option KL} {l9 f9 g9 : Int32} {u i j : Nat}
theorem CmdR0 (h : CmdR 0 (nI u) (nI i) (nI j) l9 (mkK np qu ra re le ln nb pl tm ne rw bk nh hw nc cw t y) o) (hn : np ≤ 8) (hu : u ≤ 200) (hi : i < np) (hj : j < np) : ((if 300 ≤ ne then -2 else obs qu pl nb hw nh (nI i) j (nI u) 0) < 0 ∧ o = none) ∨ ∃ K', MovOk np qu ra re le ln nb pl tm ne rw bk nh hw nc cw t y (nI i) j u l9 K' ∧ o = some K' := by
  rcases h with ⟨_, u2, i2, j2, e1, b1, e2, e3, b2, b3, z⟩ | ⟨z, _⟩ | ⟨z, _⟩ | ⟨z, _⟩
  · obtain rfl : u = u2 := (nI_eq9 (by omega) (by omega)).mp e1
    obtain rfl : i = i2 := (nI_eq9 (by omega) (by omega)).mp e2
    obtain rfl : j = j2 := (nI_eq9 (by omega) (by omega)).mp e3
    exact z
  · omega
  · omega
  · omega
theorem CmdR1 (h : CmdR 1 (nI u) (nI i) (nI j) l9 (mkK np qu ra re le ln nb pl tm ne rw bk nh hw nc cw t y) o) (hn : np ≤ 8) (hu : u ≤ 200) (hi : i < np) (hj : j < np) : ((if 60 ≤ nh then -2 else obs qu pl nb hw nh (nI i) j (nI u) 0) < 0 ∧ o = none) ∨ ∃ K', HldOk np qu ra re le ln nb pl tm ne rw bk nh hw nc cw t y (nI i) j (nI u) l9 K' ∧ o = some K' := by
  rcases h with ⟨z, _⟩ | ⟨_, u2, i2, j2, e1, b0, b1, e2, e3, b2, b3, z⟩ | ⟨z, _⟩ | ⟨z, _⟩
  · omega
  · obtain rfl : u = u2 := (nI_eq9 (by omega) (by omega)).mp e1
    obtain rfl : i = i2 := (nI_eq9 (by omega) (by omega)).mp e2
    obtain rfl : j = j2 := (nI_eq9 (by omega) (by omega)).mp e3
    exact z
  · omega
  · omega
theorem CmdR2 {tn : Nat} (h : CmdR 2 (nI u) f9 g9 l9 (mkK np qu ra re le ln nb pl tm ne rw bk nh hw nc cw t y) o) (hu : u ≤ 1000) (ht : t = nI tn) (htn : tn ≤ 1000000) : (1000000 < tn + u ∧ o = none) ∨ ∃ K', PasOk np qu ra re le ln nb pl tm ne rw bk nh hw nc cw t y u K' ∧ o = some K' := by
  rcases h with ⟨z, _⟩ | ⟨z, _⟩ | ⟨_, u2, t2, e1, b0, b1, e2, b2, z⟩ | ⟨z, _⟩
  · omega
  · omega
  · obtain rfl : u = u2 := (nI_eq9 (by omega) (by omega)).mp e1
    obtain rfl : tn = t2 := (nI_eq9 (by omega) (by omega)).mp (ht.symm.trans e2)
    exact z
  · omega
theorem CmdR3 (h : CmdR 3 (nI u) f9 g9 l9 (mkK np qu ra re le ln nb pl tm ne rw bk nh hw nc cw t y) o) (hu : u ≤ 299) : (¬ u < ne ∧ o = none) ∨ ∃ j, u < ne ∧ rw (u * 7 + 0) = nI j ∧ j < np ∧ ((∃ r, RevF qu pl nb ne rw bk nh hw u j r ∧ o = none) ∨ ∃ K', RevOk np qu ra re le ln nb pl tm ne rw bk nh hw nc cw t y u j K' ∧ o = some K') := by
  rcases h with ⟨z, _⟩ | ⟨z, _⟩ | ⟨z, _⟩ | ⟨_, u2, e1, b1, z⟩
  · omega
  · omega
  · omega
  · obtain rfl : u = u2 := (nI_eq9 (by omega) (by omega)).mp e1
    exact z
theorem CmdR.c3 {c : Nat} {v f g l : Int32} {K : KL} {o : Option KL} (h : CmdR c v f g l K o) : c ≤ 3 := by
  obtain ⟨⟨np, qu, ra, re, le, ln⟩, ⟨nb, pl, tm⟩, ⟨ne, rw, bk⟩, ⟨nh, hw⟩, ⟨nc, cw⟩, t, y⟩ := K
  rcases h with ⟨z, _⟩ | ⟨z, _⟩ | ⟨z, _⟩ | ⟨z, _⟩ <;> omega
theorem revF_ok {e j2 : Nat} {r : Int32} {K' : KL} (h1 : RevF qu pl nb ne rw bk nh hw e j r) (h2 : RevOk np qu ra re le ln nb pl tm ne rw bk nh hw nc cw t y e j2 K') (hj : j = j2) : False := by
  subst hj
  obtain ⟨a1, a2, a3, a4, a5, _⟩ := h2
  rcases h1 with ⟨b1, _⟩ | ⟨_, b2, _⟩ | ⟨_, _, _, b4, _⟩ | ⟨_, _, _, _, b5, b6, _⟩
  · omega
  · exact b2 ⟨a2, a3⟩
  · exact b4 a4
  · rw [b5] at b6; exact b6 a5
end

section
variable {Γ : GE} {h : AH} {Q : PO} {m a len b n np nb ne nh nc y : Nat} {bs B R CM rs qu ra le ln pl tm rw hw cw pk : FI} {RE re : Nat → UInt32} {bk : Nat → Int64} {t x z w v th bg er ea lr cm : Int32}

theorem s_X10_isDone {tl at' : Int32} {i c : Nat} {v f g l : Int32} (hM : ModC h m a th tl at' bg er ea lr cm) (hA : Γ.2.1 ≤ m) (ha : a = m + 1) (hR : h.2 a = some (.inl (.int, 5061, .inl R))) (hK : h.2 (m + 11) = some (.inl (.int, 1250, .inl CM))) (hP : h.2 (m + 9) = some (.inl (.boolean, 200, .inl pk))) (hE : h.2 (m + 5) = some (.inl (.float, 8, .inr (.inr (.inl RE))))) (hr : RowR R np qu ra re le ln nb pl tm ne rw bk nh hw nc cw t y) (hI : Inv np qu ra re le ln nb pl tm ne rw bk nh hw nc cw t y) (hre : ∀ j, j < np → RE j = re j) (hi : i < 250) (hV : VC np c v f g l) (e0 : CM (5 * i + 0) = nI c) (e1 : CM (5 * i + 1) = v) (e2 : c ≤ 1 → CM (5 * i + 2) = f ∧ CM (5 * i + 3) = g ∧ CM (5 * i + 4) = l)
    (k0 : ∀ h' R' RE' pk', (∀ K', ¬ CmdR c v f g l (mkK np qu ra re le ln nb pl tm ne rw bk nh hw nc cw t y) (some K')) → frC m a h h' → h'.2 a = some (.inl (.int, 5061, .inl R')) → h'.2 (m + 5) = some (.inl (.float, 8, .inr (.inr (.inl RE')))) → h'.2 (m + 9) = some (.inl (.boolean, 200, .inl pk')) → Q (.inl (some (.int 0))) h')
    (k1 : ∀ h' R' RE' pk', ¬ CmdR c v f g l (mkK np qu ra re le ln nb pl tm ne rw bk nh hw nc cw t y) none → frC m a h h' → h'.2 a = some (.inl (.int, 5061, .inl R')) → h'.2 (m + 5) = some (.inl (.float, 8, .inr (.inr (.inl RE')))) → h'.2 (m + 9) = some (.inl (.boolean, 200, .inl pk')) → (∀ K', CmdR c v f g l (mkK np qu ra re le ln nb pl tm ne rw bk nh hw nc cw t y) (some K') → RowK R' K' ∧ InvK K' ∧ ∀ j, j < K'.1.1 → RE' j = K'.1.2.2.2.1 j) → Q (.inl (some (.int (nI 1)))) h') : WP Γ MX10_isDone (5, 116, 0, 0) 0 [some (.ref m), some (.int (nI i)), none, none, none, none, none] [] h Q := by
  have hM0 := hM
  unfold ModC at hM
  have hI0 := hI
  obtain ⟨⟨s1, s2, s3, s4, s5, s6, s7, s8, tn, s9, s10⟩, IM, IP, IJ, IR, IC⟩ := hI
  have r4 := hr.1.2.2.2.2.1
  refine wp_iconst (n := 1) (v := nI 5) dX10_isDone_0 rfl (by decide) ?_
  refine wp_iload_n (n := 2) dX10_isDone_1 rfl rfl ?_
  refine wp_imul (n := 3) dX10_isDone_2 rfl ?_
  rw [nI_mul]
  refine wp_istore_n (n := 4) dX10_isDone_3 rfl rfl rfl rfl ?_
  refine wp_aload_n (n := 5) dX10_isDone_4 rfl rfl ?_
  refine wp_getf (n := 8) dX10_isDone_5 rfl flX10_43 (by repeat first | assumption | exact ax_set_self _ _ _ | exact ax_newA_self _ _ _ | refine (ax_set_ne _ _ (by omega)).trans ?_ | refine (ax_newA_ne _ _ _ (by omega)).trans ?_) (by rfl) ?_
  refine wp_iload_n (n := 9) dX10_isDone_8 rfl rfl ?_
  refine wp_iconst (n := 10) (v := nI 1) dX10_isDone_9 rfl (by decide) ?_
  refine wp_iadd (n := 11) dX10_isDone_10 rfl ?_
  refine wp_iald (n := 12) (5 * i + 1) dX10_isDone_11 rfl hK (by rw [nI_add]) (by omega) (by omega) ?_
  refine wp_istore_n (n := 13) dX10_isDone_12 rfl rfl rfl rfl ?_
  refine wp_aload_n (n := 14) dX10_isDone_13 rfl rfl ?_
  refine wp_getf (n := 17) dX10_isDone_14 rfl flX10_43 (by repeat first | assumption | exact ax_set_self _ _ _ | exact ax_newA_self _ _ _ | refine (ax_set_ne _ _ (by omega)).trans ?_ | refine (ax_newA_ne _ _ _ (by omega)).trans ?_) (by rfl) ?_
  refine wp_iload_n (n := 18) dX10_isDone_17 rfl rfl ?_
  refine wp_iconst (n := 19) (v := nI 2) dX10_isDone_18 rfl (by decide) ?_
  refine wp_iadd (n := 20) dX10_isDone_19 rfl ?_
  refine wp_iald (n := 21) (5 * i + 2) dX10_isDone_20 rfl hK (by rw [nI_add]) (by omega) (by omega) ?_
  refine wp_istore (n := 23) dX10_isDone_21 rfl rfl rfl rfl ?_
  refine wp_aload_n (n := 24) dX10_isDone_23 rfl rfl ?_
  refine wp_getf (n := 27) dX10_isDone_24 rfl flX10_43 (by repeat first | assumption | exact ax_set_self _ _ _ | exact ax_newA_self _ _ _ | refine (ax_set_ne _ _ (by omega)).trans ?_ | refine (ax_newA_ne _ _ _ (by omega)).trans ?_) (by rfl) ?_
  refine wp_iload_n (n := 28) dX10_isDone_27 rfl rfl ?_
  refine wp_iconst (n := 29) (v := nI 3) dX10_isDone_28 rfl (by decide) ?_
  refine wp_iadd (n := 30) dX10_isDone_29 rfl ?_
  refine wp_iald (n := 31) (5 * i + 3) dX10_isDone_30 rfl hK (by rw [nI_add]) (by omega) (by omega) ?_
  refine wp_istore (n := 33) dX10_isDone_31 rfl rfl rfl rfl ?_
  refine wp_aload_n (n := 34) dX10_isDone_33 rfl rfl ?_
  refine wp_getf (n := 37) dX10_isDone_34 rfl flX10_43 (by repeat first | assumption | exact ax_set_self _ _ _ | exact ax_newA_self _ _ _ | refine (ax_set_ne _ _ (by omega)).trans ?_ | refine (ax_newA_ne _ _ _ (by omega)).trans ?_) (by rfl) ?_
  refine wp_iload_n (n := 38) dX10_isDone_37 rfl rfl ?_
  refine wp_iconst (n := 39) (v := nI 4) dX10_isDone_38 rfl (by decide) ?_
  refine wp_iadd (n := 40) dX10_isDone_39 rfl ?_
  refine wp_iald (n := 41) (5 * i + 4) dX10_isDone_40 rfl hK (by rw [nI_add]) (by omega) (by omega) ?_
  refine wp_istore (n := 43) dX10_isDone_41 rfl rfl rfl rfl ?_
  refine wp_aload_n (n := 44) dX10_isDone_43 rfl rfl ?_
  refine wp_getf (n := 47) dX10_isDone_44 rfl flX10_43 (by repeat first | assumption | exact ax_set_self _ _ _ | exact ax_newA_self _ _ _ | refine (ax_set_ne _ _ (by omega)).trans ?_ | refine (ax_newA_ne _ _ _ (by omega)).trans ?_) (by rfl) ?_
  refine wp_iload_n (n := 48) dX10_isDone_47 rfl rfl ?_
  refine wp_iald (n := 49) (5 * i + 0) dX10_isDone_48 rfl hK rfl (by omega) (by omega) ?_
  rw [e0, e1]
  rcases hV with ⟨rfl, u, i1, j1, rfl, u1, u2, rfl, rfl, b1, b2, b3⟩ | ⟨rfl, u, i1, j1, l1, rfl, u1, u2, rfl, rfl, b1, b2, rfl, b3, b4⟩ | ⟨rfl, u, rfl, u1, u2⟩ | ⟨rfl, u, rfl, u2⟩
  · obtain ⟨y1, y2, y3⟩ := e2 (by omega)
    rw [y1, y2, y3]
    refine wp_tableIn (t := 76) (off := 27) dX10_isDone_49 (by decide) (by decide) (by decide) (by decide) ?_
    refine wp_aload_n (n := 77) dX10_isDone_76 rfl rfl ?_
    refine wp_iload (n := 79) dX10_isDone_77 rfl rfl ?_
    refine wp_iload (n := 81) dX10_isDone_79 rfl rfl ?_
    refine wp_iload_n (n := 82) dX10_isDone_81 rfl rfl ?_
    refine wp_iload (n := 84) dX10_isDone_82 rfl rfl ?_
    refine wp_callV4 (n := 87) (rm' := (4, 90, 0, 0)) rfl dX10_isDone_84 rfl mlX10_117 (by repeat first | assumption | exact ax_set_self _ _ _ | exact ax_newA_self _ _ _ | refine (ax_set_ne _ _ (by omega)).trans ?_ | refine (ax_newA_ne _ _ _ (by omega)).trans ?_) rfl rfl rfl rfl rfl ?_
    refine s_X10_transfers hM0 hR hP hr hI0 hA (by omega) (by omega) (by omega) b1 b2 u1 u2 (fun r q1 q2 => ?_) (fun q1 q2 h2 R2 pk2 f2 c2 p2 z2 => ?_)
    · show WP Γ _ _ _ _ _ _ _
      refine wp_if_lt (t := 94) (n := 90) dX10_isDone_87 (by decide) rfl (fun hc => ?_) (fun hc => ?_)
      · refine wp_iconst (n := 95) (v := 0) dX10_isDone_94 rfl (by decide) ?_
        refine wp_ireturn dX10_isDone_95 rfl rfl (k0 h R RE pk (fun K' hC => ?_) frC.rf hR hE hP)
        rcases CmdR0 hC s2 u2 b1 b2 with ⟨_, z⟩ | ⟨K2, mo, _⟩
        · cases z
        · rw [if_neg (by have := mo.1; omega), mo.2.1] at q1
          rw [q1] at q2
          exact absurd q2 (by decide)
      · exact absurd q2 hc
    · show WP Γ _ _ _ _ _ _ _
      refine wp_if_lt (t := 94) (n := 90) dX10_isDone_87 (by decide) rfl (fun hc => ?_) (fun hc => ?_)
      · exact absurd hc (nI_nn (by omega))
      · refine wp_iconst (n := 91) (v := nI 1) dX10_isDone_90 rfl (by decide) ?_
        refine wp_goto (t := 95) dX10_isDone_91 (by decide) ?_
        refine wp_ireturn dX10_isDone_95 rfl rfl (k1 h2 R2 RE pk2 (fun hC => ?_) ⟨f2.1, fun c c1 _ c3 => f2.2 c c1 c3⟩ c2 ((f2.2 _ (by omega) (by omega)).trans hE) p2 (fun K' hC => ?_))
        · rcases CmdR0 hC s2 u2 b1 b2 with ⟨z, _⟩ | ⟨K2, mo, z⟩
          · rw [if_neg (by omega), q2] at z; exact absurd z (by decide)
          · cases z
        · rcases CmdR0 hC s2 u2 b1 b2 with ⟨_, z⟩ | ⟨K2, mo, z⟩
          · cases z
          · cases z
            refine ⟨z2 K' mo, hI0.mov b1 b2 u2 mo, ?_⟩
            obtain ⟨_, _, bk', pk', _, _, rfl⟩ := mo
            exact hre
  · obtain ⟨y1, y2, y3⟩ := e2 (by omega)
    rw [y1, y2, y3]
    refine wp_tableIn (t := 96) (off := 47) dX10_isDone_49 (by decide) (by decide) (by decide) (by decide) ?_
    refine wp_aload_n (n := 97) dX10_isDone_96 rfl rfl ?_
    refine wp_iload (n := 99) dX10_isDone_97 rfl rfl ?_
    refine wp_iload (n := 101) dX10_isDone_99 rfl rfl ?_
    refine wp_iload_n (n := 102) dX10_isDone_101 rfl rfl ?_
    refine wp_iload (n := 104) dX10_isDone_102 rfl rfl ?_
    refine wp_callV4 (n := 107) (rm' := (4, 90, 0, 0)) rfl dX10_isDone_104 rfl mlX10_139 (by repeat first | assumption | exact ax_set_self _ _ _ | exact ax_newA_self _ _ _ | refine (ax_set_ne _ _ (by omega)).trans ?_ | refine (ax_newA_ne _ _ _ (by omega)).trans ?_) rfl rfl rfl rfl rfl ?_
    refine s_X10_reserves hM0 hR hr hI0.1 (by omega) (by omega) b1 b2 (fun r q1 q2 => ?_) (fun q1 q2 h2 R2 f2 c2 z2 => ?_)
    · show WP Γ _ _ _ _ _ _ _
      refine wp_if_lt (t := 114) (n := 110) dX10_isDone_107 (by decide) rfl (fun hc => ?_) (fun hc => ?_)
      · refine wp_iconst (n := 115) (v := 0) dX10_isDone_114 rfl (by decide) ?_
        refine wp_ireturn dX10_isDone_115 rfl rfl (k0 h R RE pk (fun K' hC => ?_) frC.rf hR hE hP)
        rcases CmdR1 hC s2 u2 b1 b2 with ⟨_, z⟩ | ⟨K2, mo, _⟩
        · cases z
        · rw [if_neg (by have := mo.1; omega), mo.2.1] at q1
          rw [q1] at q2
          exact absurd q2 (by decide)
      · exact absurd q2 hc
    · show WP Γ _ _ _ _ _ _ _
      refine wp_if_lt (t := 114) (n := 110) dX10_isDone_107 (by decide) rfl (fun hc => ?_) (fun hc => ?_)
      · exact absurd hc (nI_nn (by omega))
      · refine wp_iconst (n := 111) (v := nI 1) dX10_isDone_110 rfl (by decide) ?_
        refine wp_goto (t := 115) dX10_isDone_111 (by decide) ?_
        refine wp_ireturn dX10_isDone_115 rfl rfl (k1 h2 R2 RE pk (fun hC => ?_) (frC.of f2 (by omega)) c2 (f2.get hE (by omega)) (f2.get hP (by omega)) (fun K' hC => ?_))
        · rcases CmdR1 hC s2 u2 b1 b2 with ⟨z, _⟩ | ⟨K2, mo, z⟩
          · rw [if_neg (by omega), q2] at z; exact absurd z (by decide)
          · cases z
        · rcases CmdR1 hC s2 u2 b1 b2 with ⟨_, z⟩ | ⟨K2, mo, z⟩
          · cases z
          · cases z
            have hi9 := hI0.hld b1 b2 u1 u2 mo
            obtain ⟨_, _, rfl⟩ := mo
            exact ⟨z2, hi9, hre⟩
  · refine wp_tableIn (t := 116) (off := 67) dX10_isDone_49 (by decide) (by decide) (by decide) (by decide) ?_
    refine wp_aload_n (n := 117) dX10_isDone_116 rfl rfl ?_
    refine wp_iload_n (n := 118) dX10_isDone_117 rfl rfl ?_
    refine wp_callV1 (n := 121) (rm' := (2, 45, 0, 0)) rfl dX10_isDone_118 rfl mlX10_151 (by repeat first | assumption | exact ax_set_self _ _ _ | exact ax_newA_self _ _ _ | refine (ax_set_ne _ _ (by omega)).trans ?_ | refine (ax_newA_ne _ _ _ (by omega)).trans ?_) rfl rfl rfl rfl rfl ?_
    refine s_X10_passes hM0 hR hr hI0 hA (by omega) (by omega) (by omega) hE hre u1 u2 s10 s9 (fun q1 => ?_) (fun q1 h2 R2 RE2 f2 c2 d2 z2 z3 => ?_)
    · show WP Γ _ _ _ _ _ _ _
      refine wp_if_lt (t := 128) (n := 124) dX10_isDone_121 (by decide) rfl (fun hc => ?_) (fun hc => ?_)
      · refine wp_iconst (n := 129) (v := 0) dX10_isDone_128 rfl (by decide) ?_
        refine wp_ireturn dX10_isDone_129 rfl rfl (k0 h R RE pk (fun K' hC => ?_) frC.rf hR hE hP)
        rcases CmdR2 hC u2 s10 s9 with ⟨_, z⟩ | ⟨K2, mo, _⟩
        · cases z
        · obtain ⟨t2, x1, x2, _⟩ := mo
          have : tn = t2 := (nI_eq9 (by omega) (by omega)).mp (s10.symm.trans x1)
          omega
      · exact absurd (show (-2 : Int32) < 0 by decide) hc
    · show WP Γ _ _ _ _ _ _ _
      have cb := cntB_le (dueB hw (nI (tn + u))) nh
      refine wp_if_lt (t := 128) (n := 124) dX10_isDone_121 (by decide) rfl (fun hc => ?_) (fun hc => ?_)
      · exact absurd hc (nI_nn (by omega))
      · refine wp_iconst (n := 125) (v := nI 1) dX10_isDone_124 rfl (by decide) ?_
        refine wp_goto (t := 129) dX10_isDone_125 (by decide) ?_
        refine wp_ireturn dX10_isDone_129 rfl rfl (k1 h2 R2 RE2 pk (fun hC => ?_) ⟨f2.1, fun c c1 c2 _ => f2.2 c c1 c2⟩ c2 d2 ((f2.2 _ (by omega) (by omega)).trans hP) (fun K' hC => ?_))
        · rcases CmdR2 hC u2 s10 s9 with ⟨z, _⟩ | ⟨K2, mo, z⟩
          · omega
          · cases z
        · rcases CmdR2 hC u2 s10 s9 with ⟨_, z⟩ | ⟨K2, mo, z⟩
          · cases z
          · cases z
            have hi9 := hI0.pas mo
            obtain ⟨t2, x1, x2, re', hw', x3, x4, x5, rfl⟩ := mo
            obtain rfl : tn = t2 := (nI_eq9 (by omega) (by omega)).mp (s10.symm.trans x1)
            refine ⟨z3 hw' x5, hi9, fun j hj => ?_⟩
            have hj : j < np := hj
            exact (z2 j hj).trans ((x3 j).trans (if_pos hj)).symm
  · refine wp_tableOut (t := 130) dX10_isDone_49 (by decide) (by decide) ?_
    refine wp_aload_n (n := 131) dX10_isDone_130 rfl rfl ?_
    refine wp_iload_n (n := 132) dX10_isDone_131 rfl rfl ?_
    refine wp_callV1 (n := 135) (rm' := (1, 22, 0, 0)) rfl dX10_isDone_132 rfl mlX10_130 (by repeat first | assumption | exact ax_set_self _ _ _ | exact ax_newA_self _ _ _ | refine (ax_set_ne _ _ (by omega)).trans ?_ | refine (ax_newA_ne _ _ _ (by omega)).trans ?_) rfl rfl rfl rfl rfl ?_
    refine s_X10_isEntry hM0 hR r4 s5 ?_
    show WP Γ _ _ _ _ _ _ _
    by_cases hu : u < ne
    · rw [inN_of hu (by omega)]
      obtain ⟨⟨j, j1, j2⟩, _⟩ := IJ.1 u hu
      refine wp_if_eq (t := 150) (n := 138) dX10_isDone_135 (by decide) rfl (fun hc => ?_) (fun hc => ?_)
      · exact absurd hc (by decide)
      · refine wp_aload_n (n := 139) dX10_isDone_138 rfl rfl ?_
        refine wp_iload_n (n := 140) dX10_isDone_139 rfl rfl ?_
        refine wp_callV1 (n := 143) (rm' := (4, 90, 0, 0)) rfl dX10_isDone_140 rfl mlX10_133 (by repeat first | assumption | exact ax_set_self _ _ _ | exact ax_newA_self _ _ _ | refine (ax_set_ne _ _ (by omega)).trans ?_ | refine (ax_newA_ne _ _ _ (by omega)).trans ?_) rfl rfl rfl rfl rfl ?_
        refine s_X10_reverses hM0 hR hP hr hI0 hA (by omega) (by omega) (by omega) hu j2 j1 (fun r h2 pk2 c2 f2 p2 => ?_) (fun h2 R2 pk2 f2 c2 p2 a1 a2 a3 a4 a5 z2 => ?_)
        · show WP Γ _ _ _ _ _ _ _
          refine wp_if_lt (t := 150) (n := 146) dX10_isDone_143 (by decide) rfl (fun hq => ?_) (fun hq => ?_)
          · refine wp_iconst (n := 151) (v := 0) dX10_isDone_150 rfl (by decide) ?_
            refine wp_ireturn dX10_isDone_151 rfl rfl (k0 h2 R RE pk2 (fun K' hC => ?_) (frC.of f2 (by omega)) (f2.get hR (by omega)) (f2.get hE (by omega)) p2)
            rcases CmdR3 hC u2 with ⟨z, _⟩ | ⟨j9, _, x2, x3, ⟨r9, _, z⟩ | ⟨K2, mo, z⟩⟩
            · exact z hu
            · cases z
            · exact revF_ok c2 mo ((nI_eq9 (by omega) (by omega)).mp (j2.symm.trans x2))
          · exact absurd c2.neg hq
        · show WP Γ _ _ _ _ _ _ _
          refine wp_if_lt (t := 150) (n := 146) dX10_isDone_143 (by decide) rfl (fun hq => ?_) (fun hq => ?_)
          · exact absurd hq (nI_nn (by omega))
          · refine wp_iconst (n := 147) (v := nI 1) dX10_isDone_146 rfl (by decide) ?_
            refine wp_goto (t := 151) dX10_isDone_147 (by decide) ?_
            refine wp_ireturn dX10_isDone_151 rfl rfl (k1 h2 R2 RE pk2 (fun hC => ?_) ⟨f2.1, fun c c1 _ c3 => f2.2 c c1 c3⟩ c2 ((f2.2 _ (by omega) (by omega)).trans hE) p2 (fun K' hC => ?_))
            · rcases CmdR3 hC u2 with ⟨z, _⟩ | ⟨j9, _, x2, x3, ⟨r9, rf, z⟩ | ⟨K2, mo, z⟩⟩
              · exact z hu
              · obtain rfl : j = j9 := (nI_eq9 (by omega) (by omega)).mp (j2.symm.trans x2)
                rcases rf with ⟨w1, _⟩ | ⟨_, w2, _⟩ | ⟨_, _, _, w4, _⟩ | ⟨_, _, _, _, w5, w6, _⟩
                · omega
                · exact w2 ⟨a2, a3⟩
                · exact w4 a4
                · rw [w5] at w6; exact w6 a5
              · cases z
            · rcases CmdR3 hC u2 with ⟨z, _⟩ | ⟨j9, _, x2, x3, ⟨r9, rf, z⟩ | ⟨K2, mo, z⟩⟩
              · exact absurd hu z
              · cases z
              · cases z
                obtain rfl : j = j9 := (nI_eq9 (by omega) (by omega)).mp (j2.symm.trans x2)
                have hi9 := hI0.rev hu j2 j1 mo
                have hr9 := z2 K' mo
                obtain ⟨_, _, _, _, _, bk', pk', _, _, rfl⟩ := mo
                exact ⟨hr9, hi9, hre⟩
    · rw [show inN (nI u) ne = false from decide_eq_false (fun z => hu ((nI_lt9 (by omega) (by omega)).mp z.2))]
      refine wp_if_eq (t := 150) (n := 138) dX10_isDone_135 (by decide) rfl (fun hc => ?_) (fun hc => ?_)
      · refine wp_iconst (n := 151) (v := 0) dX10_isDone_150 rfl (by decide) ?_
        refine wp_ireturn dX10_isDone_151 rfl rfl (k0 h R RE pk (fun K' hC => ?_) frC.rf hR hE hP)
        rcases CmdR3 hC u2 with ⟨_, z⟩ | ⟨j9, z, _⟩
        · cases z
        · exact hu z
      · exact absurd rfl hc

end
