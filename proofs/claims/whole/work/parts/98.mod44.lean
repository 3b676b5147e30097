/-! ===== the reference: carrying out ===== -/
section
variable {Γ : GE} {h : AH} {Q : PO} {m a len b n np nb ne nh nc y : Nat} {bs B R CM rs qu ra le ln pl tm rw hw cw pk : FI} {RE re : Nat → UInt32} {bk : Nat → Int64} {t x z w v th bg er ea lr cm : Int32}

theorem s_X10_carriesOut {tl at' : Int32} {K0 : KL} {out : Nat ⊕ KL} {AS : FI} {AE9 : Nat → UInt32} (hM : ModC h m a th tl at' bg er ea lr (nI n)) (hA : Γ.2.1 ≤ m) (ha : a = m + 1) (hR : h.2 a = some (.inl (.int, 5061, .inl R))) (hK : h.2 (m + 11) = some (.inl (.int, 1250, .inl CM))) (hP : h.2 (m + 9) = some (.inl (.boolean, 200, .inl pk))) (hE : h.2 (m + 5) = some (.inl (.float, 8, .inr (.inr (.inl RE))))) (hS : h.2 (m + 3) = some (.inl (.int, 5061, .inl AS))) (hT : h.2 (m + 6) = some (.inl (.float, 8, .inr (.inr (.inl AE9))))) (hr : RowK R K0) (hI : InvK K0) (hre : ∀ j, j < K0.1.1 → RE j = K0.1.2.2.2.1 j) (hn : n ≤ 250) (hV : VR K0.1.1 rs n) (hC : ComR rs CM n) (hO : CarR rs n 0 K0 out)
    (kF : ∀ k h' R' RE', out = .inl k → h'.1 = h.1 → (∀ c, ¬ c = a → ¬ c = m + 3 → ¬ c = m + 5 → ¬ c = m + 6 → ¬ c = m + 9 → h'.2 c = h.2 c) → h'.2 a = some (.inl (.int, 5061, .inl R')) → (∀ u, u < 5061 → R' u = R u) → h'.2 (m + 5) = some (.inl (.float, 8, .inr (.inr (.inl RE')))) → (∀ q, q < 8 → RE' q = RE q) → (∃ AS', h'.2 (m + 3) = some (.inl (.int, 5061, .inl AS'))) → (∃ AE', h'.2 (m + 6) = some (.inl (.float, 8, .inr (.inr (.inl AE'))))) → (∃ pk', h'.2 (m + 9) = some (.inl (.boolean, 200, .inl pk'))) → Q (.inl (some (.int (-1000 - nI k)))) h')
    (kO : ∀ K h' R' RE', out = .inr K → InvK K → h'.1 = h.1 → (∀ c, ¬ c = a → ¬ c = m + 3 → ¬ c = m + 5 → ¬ c = m + 6 → ¬ c = m + 9 → h'.2 c = h.2 c) → h'.2 a = some (.inl (.int, 5061, .inl R')) → RowK R' K → h'.2 (m + 5) = some (.inl (.float, 8, .inr (.inr (.inl RE')))) → (∀ j, j < K.1.1 → RE' j = K.1.2.2.2.1 j) → (∃ AS', h'.2 (m + 3) = some (.inl (.int, 5061, .inl AS'))) → (∃ AE', h'.2 (m + 6) = some (.inl (.float, 8, .inr (.inr (.inl AE'))))) → (∃ pk', h'.2 (m + 9) = some (.inl (.boolean, 200, .inl pk'))) → Q (.inl (some (.int (nI n)))) h') : WP Γ MX10_carriesOut (6, 142, 0, 0) 0 [some (.ref m), none] [] h Q := by
  subst ha
  have hM0 := hM
  unfold ModC at hM
  refine wp_aload_n (n := 1) dX10_carriesOut_0 rfl rfl ?_
  refine wp_getf (n := 4) dX10_carriesOut_1 rfl flX10_9 (by repeat first | assumption | exact ax_set_self _ _ _ | exact ax_newA_self _ _ _ | refine (ax_set_ne _ _ (by omega)).trans ?_ | refine (ax_newA_ne _ _ _ (by omega)).trans ?_) (by rfl) ?_
  refine wp_iconst (n := 5) (v := 0) dX10_carriesOut_4 rfl (by decide) ?_
  refine wp_aload_n (n := 6) dX10_carriesOut_5 rfl rfl ?_
  refine wp_getf (n := 9) dX10_carriesOut_6 rfl flX10_16 (by repeat first | assumption | exact ax_set_self _ _ _ | exact ax_newA_self _ _ _ | refine (ax_set_ne _ _ (by omega)).trans ?_ | refine (ax_newA_ne _ _ _ (by omega)).trans ?_) (by rfl) ?_
  refine wp_iconst (n := 10) (v := 0) dX10_carriesOut_9 rfl (by decide) ?_
  refine wp_callS4 (n := 13) (rm' := (0, 0, 0, 0)) rfl dX10_carriesOut_10 rfl mlX10_252 rfl rfl rfl rfl ?_
  refine s_X10_copies (i := 0) (j := 0) hR hS (by omega) (by omega) (by omega) (by omega) (by omega) (by omega) (fun h1 A1 f1 c1 z1 o1 => ?_)
  show WP Γ _ _ _ _ _ _ _
  have m1 := hM0.fr f1 (by omega)
  have m1' := m1
  unfold ModC at m1'
  refine wp_aload_n (n := 14) dX10_carriesOut_13 rfl rfl ?_
  refine wp_getf (n := 17) dX10_carriesOut_14 rfl flX10_22 (by repeat first | assumption | exact ax_set_self _ _ _ | exact ax_newA_self _ _ _ | refine (ax_set_ne _ _ (by omega)).trans ?_ | refine (ax_newA_ne _ _ _ (by omega)).trans ?_) (by rfl) ?_
  refine wp_iconst (n := 18) (v := 0) dX10_carriesOut_17 rfl (by decide) ?_
  refine wp_aload_n (n := 19) dX10_carriesOut_18 rfl rfl ?_
  refine wp_getf (n := 22) dX10_carriesOut_19 rfl flX10_26 (by repeat first | assumption | exact ax_set_self _ _ _ | exact ax_newA_self _ _ _ | refine (ax_set_ne _ _ (by omega)).trans ?_ | refine (ax_newA_ne _ _ _ (by omega)).trans ?_) (by rfl) ?_
  refine wp_iconst (n := 23) (v := 0) dX10_carriesOut_22 rfl (by decide) ?_
  refine wp_callS4 (n := 26) (rm' := (0, 0, 0, 0)) rfl dX10_carriesOut_23 rfl mlX10_268 rfl rfl rfl rfl ?_
  refine s_X10_copiesRents (i := 0) (j := 0) (f1.get hE (by omega)) (f1.get hT (by omega)) (by omega) (by omega) (by omega) (by omega) (by omega) (by omega) (fun h2 A2 f2 c2 z2 o2 => ?_)
  show WP Γ _ _ _ _ _ _ _
  have m2 := m1.fr f2 (by omega)
  have ea1 : ∀ u, u < 5061 → A1 u = R u := fun u hu => by have := z1 u hu; rw [show 5061 * 0 + u = u by omega] at this; exact this
  have ea2 : ∀ u, u < 8 → A2 u = RE u := fun u hu => by have := z2 u hu; rw [show 8 * 0 + u = u by omega] at this; exact this
  have K2 := f2.get (f1.get hK (by omega)) (by omega)
  have S2 := f2.get c1 (by omega)
  have E2 := f2.get (f1.get hE (by omega)) (by omega)
  have P2 := f2.get (f1.get hP (by omega)) (by omega)
  have R2 := f2.get (f1.get hR (by omega)) (by omega)
  have eo2 : ∀ c, ¬ c = m + 3 → ¬ c = m + 6 → h2.2 c = h.2 c := fun c n1 n2 => (f2.2 c (by omega)).trans (f1.2 c (by omega))
  have z2' : h2.1 = h.1 := f2.1.trans f1.1
  refine wp_iconst (n := 27) (v := 0) dX10_carriesOut_26 rfl (by decide) ?_
  refine wp_istore_n (n := 28) dX10_carriesOut_27 rfl rfl rfl rfl ?_
  have L : ∀ g k K h3 R3 RE3 pk3, k + g = n → CarR rs g k K out → InvK K → K.1.1 = K0.1.1 → RowK R3 K → (∀ j, j < K.1.1 → RE3 j = K.1.2.2.2.1 j) → frC m (m + 1) h2 h3 → h3.2 (m + 1) = some (.inl (.int, 5061, .inl R3)) → h3.2 (m + 5) = some (.inl (.float, 8, .inr (.inr (.inl RE3)))) → h3.2 (m + 9) = some (.inl (.boolean, 200, .inl pk3)) → WP Γ MX10_carriesOut (6, 142, 0, 0) 28 [some (.ref m), some (.int (nI k))] [] h3 Q := by
    intro g
    induction g with
    | zero =>
      intro k K h3 R3 RE3 pk3 hk hO2 hI hnp hr hre f3 r3 e3 p3
      have m3 : ModC h3 m (m + 1) th tl at' bg er ea lr (nI n) := (f3.2 m (by omega) (by omega) (by omega)).trans m2
      have m3' := m3
      unfold ModC at m3'
      obtain rfl : k = n := by omega
      refine wp_iload_n (n := 29) dX10_carriesOut_28 rfl rfl ?_
      refine wp_aload_n (n := 30) dX10_carriesOut_29 rfl rfl ?_
      refine wp_getf (n := 33) dX10_carriesOut_30 rfl flX10_255 (by repeat first | assumption | exact ax_set_self _ _ _ | exact ax_newA_self _ _ _ | refine (ax_set_ne _ _ (by omega)).trans ?_ | refine (ax_newA_ne _ _ _ (by omega)).trans ?_) (by rfl) ?_
      refine wp_icmp_ge (t := 82) (n := 36) dX10_carriesOut_33 (by decide) rfl (fun hc => ?_) (fun hc => ?_)
      · refine wp_aload_n (n := 83) dX10_carriesOut_82 rfl rfl ?_
        refine wp_getf (n := 86) dX10_carriesOut_83 rfl flX10_255 (by repeat first | assumption | exact ax_set_self _ _ _ | exact ax_newA_self _ _ _ | refine (ax_set_ne _ _ (by omega)).trans ?_ | refine (ax_newA_ne _ _ _ (by omega)).trans ?_) (by rfl) ?_
        exact wp_ireturn dX10_carriesOut_86 rfl rfl (kO K h3 R3 RE3 hO2 hI (f3.1.trans z2') (fun c n1 n2 n3 n4 n5 => (f3.2 c n1 n3 n5).trans (eo2 c n2 n4)) r3 hr e3 hre ⟨_, (f3.2 _ (by omega) (by omega) (by omega)).trans S2⟩ ⟨_, (f3.2 _ (by omega) (by omega) (by omega)).trans c2⟩ ⟨_, p3⟩)
      · exact absurd (Int32.le_refl _) hc
    | succ g ih =>
      intro k K h3 R3 RE3 pk3 hk hO hI hnp hr hre f3 r3 e3 p3
      have m3 : ModC h3 m (m + 1) th tl at' bg er ea lr (nI n) := (f3.2 m (by omega) (by omega) (by omega)).trans m2
      have m3' := m3
      unfold ModC at m3'
      have K3 := (f3.2 (m + 11) (by omega) (by omega) (by omega)).trans K2
      obtain ⟨c, q1, q2⟩ := hO
      obtain ⟨c1, v1, v2⟩ := hV k (by omega)
      obtain ⟨cc, w0, w1, w2, w3, w4⟩ := hC k (by omega)
      have hc13 : c1 ≤ 3 := by rcases v2 with z | z | z | z <;> omega
      obtain rfl : c1 = cc := (nI_eq9 (by omega) (by omega)).mp (v1.symm.trans w0)
      have hcc : c = c1 := by
        have hc3 : c ≤ 3 := by
          rcases q2 with ⟨q2, _⟩ | ⟨K', q2, _⟩
          · exact q2.c3
          · exact q2.c3
        exact (nI_eq9 (by omega) (by omega)).mp (q1.symm.trans v1)
      subst hcc
      rw [← hnp] at v2
      obtain ⟨⟨np, qu, ra, re, le, ln⟩, ⟨nb, pl, tm⟩, ⟨ne, rw, bk⟩, ⟨nh, hw⟩, ⟨nc, cw⟩, t, y⟩ := K
      refine wp_iload_n (n := 29) dX10_carriesOut_28 rfl rfl ?_
      refine wp_aload_n (n := 30) dX10_carriesOut_29 rfl rfl ?_
      refine wp_getf (n := 33) dX10_carriesOut_30 rfl flX10_255 (by repeat first | assumption | exact ax_set_self _ _ _ | exact ax_newA_self _ _ _ | refine (ax_set_ne _ _ (by omega)).trans ?_ | refine (ax_newA_ne _ _ _ (by omega)).trans ?_) (by rfl) ?_
      refine wp_icmp_ge (t := 82) (n := 36) dX10_carriesOut_33 (by decide) rfl (fun hc => ?_) (fun hc => ?_)
      · exact absurd ((nI_le9 (by omega) (by omega)).mp hc) (by omega)
      · refine wp_aload_n (n := 37) dX10_carriesOut_36 rfl rfl ?_
        refine wp_iload_n (n := 38) dX10_carriesOut_37 rfl rfl ?_
        refine wp_callV1 (n := 41) (rm' := (5, 116, 0, 0)) rfl dX10_carriesOut_38 rfl mlX10_272 (by repeat first | assumption | exact ax_set_self _ _ _ | exact ax_newA_self _ _ _ | refine (ax_set_ne _ _ (by omega)).trans ?_ | refine (ax_newA_ne _ _ _ (by omega)).trans ?_) rfl rfl rfl rfl rfl ?_
        refine s_X10_isDone m3 hA rfl r3 K3 p3 e3 hr hI hre (by omega) v2 w2 w3 w4 (fun h4 R4 RE4 pk4 n4 f4 r4 e4 p4 => ?_) (fun h4 R4 RE4 pk4 n4 f4 r4 e4 p4 z4 => ?_)
        · show WP Γ _ _ _ _ _ _ _
          have hout : out = .inl k := by
            rcases q2 with ⟨_, z⟩ | ⟨K', z, _⟩
            · exact z
            · exact absurd z (n4 K')
          have f34 := f3.tr f4
          have m4 : ModC h4 m (m + 1) th tl at' bg er ea lr (nI n) := (f4.2 m (by omega) (by omega) (by omega)).trans m3
          have m4' := m4
          unfold ModC at m4'
          have S4 := (f34.2 (m + 3) (by omega) (by omega) (by omega)).trans S2
          have T4 := (f34.2 (m + 6) (by omega) (by omega) (by omega)).trans c2
          refine wp_if_ne (t := 76) (n := 44) dX10_carriesOut_41 (by decide) rfl (fun hq => ?_) (fun hq => ?_)
          · exact absurd rfl hq
          · refine wp_aload_n (n := 45) dX10_carriesOut_44 rfl rfl ?_
            refine wp_getf (n := 48) dX10_carriesOut_45 rfl flX10_16 (by repeat first | assumption | exact ax_set_self _ _ _ | exact ax_newA_self _ _ _ | refine (ax_set_ne _ _ (by omega)).trans ?_ | refine (ax_newA_ne _ _ _ (by omega)).trans ?_) (by rfl) ?_
            refine wp_iconst (n := 49) (v := 0) dX10_carriesOut_48 rfl (by decide) ?_
            refine wp_aload_n (n := 50) dX10_carriesOut_49 rfl rfl ?_
            refine wp_getf (n := 53) dX10_carriesOut_50 rfl flX10_9 (by repeat first | assumption | exact ax_set_self _ _ _ | exact ax_newA_self _ _ _ | refine (ax_set_ne _ _ (by omega)).trans ?_ | refine (ax_newA_ne _ _ _ (by omega)).trans ?_) (by rfl) ?_
            refine wp_iconst (n := 54) (v := 0) dX10_carriesOut_53 rfl (by decide) ?_
            refine wp_callS4 (n := 57) (rm' := (0, 0, 0, 0)) rfl dX10_carriesOut_54 rfl mlX10_252 rfl rfl rfl rfl ?_
            refine s_X10_copies (i := 0) (j := 0) S4 r4 (by omega) (by omega) (by omega) (by omega) (by omega) (by omega) (fun h5 R5 f5 c5 z5 o5 => ?_)
            show WP Γ _ _ _ _ _ _ _
            have m5 := m4.fr f5 (by omega)
            have m5' := m5
            unfold ModC at m5'
            refine wp_aload_n (n := 58) dX10_carriesOut_57 rfl rfl ?_
            refine wp_getf (n := 61) dX10_carriesOut_58 rfl flX10_26 (by repeat first | assumption | exact ax_set_self _ _ _ | exact ax_newA_self _ _ _ | refine (ax_set_ne _ _ (by omega)).trans ?_ | refine (ax_newA_ne _ _ _ (by omega)).trans ?_) (by rfl) ?_
            refine wp_iconst (n := 62) (v := 0) dX10_carriesOut_61 rfl (by decide) ?_
            refine wp_aload_n (n := 63) dX10_carriesOut_62 rfl rfl ?_
            refine wp_getf (n := 66) dX10_carriesOut_63 rfl flX10_22 (by repeat first | assumption | exact ax_set_self _ _ _ | exact ax_newA_self _ _ _ | refine (ax_set_ne _ _ (by omega)).trans ?_ | refine (ax_newA_ne _ _ _ (by omega)).trans ?_) (by rfl) ?_
            refine wp_iconst (n := 67) (v := 0) dX10_carriesOut_66 rfl (by decide) ?_
            refine wp_callS4 (n := 70) (rm' := (0, 0, 0, 0)) rfl dX10_carriesOut_67 rfl mlX10_268 rfl rfl rfl rfl ?_
            refine s_X10_copiesRents (i := 0) (j := 0) (f5.get T4 (by omega)) (f5.get e4 (by omega)) (by omega) (by omega) (by omega) (by omega) (by omega) (by omega) (fun h6 E6 f6 c6 z6 o6 => ?_)
            show WP Γ _ _ _ _ _ _ _
            have x5 : ∀ u, u < 5061 → R5 u = R u := fun u hu => by have := z5 u hu; rw [show 5061 * 0 + u = u by omega] at this; exact this.trans (ea1 u hu)
            have x6 : ∀ u, u < 8 → E6 u = RE u := fun u hu => by have := z6 u hu; rw [show 8 * 0 + u = u by omega] at this; exact this.trans (ea2 u hu)
            refine wp_sipush (n := 73) (v := (-1000)) dX10_carriesOut_70 rfl (by decide) ?_
            refine wp_iload_n (n := 74) dX10_carriesOut_73 rfl rfl ?_
            refine wp_isub (n := 75) dX10_carriesOut_74 rfl ?_
            exact wp_ireturn dX10_carriesOut_75 rfl rfl (kF k h6 R5 E6 hout (f6.1.trans (f5.1.trans (f34.1.trans z2'))) (fun c n1 n2 n3 n4 n5 => (f6.2 c (by omega)).trans ((f5.2 c (by omega)).trans ((f34.2 c n1 n3 n5).trans (eo2 c n2 n4)))) (f6.get c5 (by omega)) x5 c6 x6 ⟨_, f6.get (f5.get S4 (by omega)) (by omega)⟩ ⟨_, f6.get (f5.get T4 (by omega)) (by omega)⟩ ⟨_, f6.get (f5.get p4 (by omega)) (by omega)⟩)
        · show WP Γ _ _ _ _ _ _ _
          rcases q2 with ⟨z, _⟩ | ⟨K', q3, q4⟩
          · exact absurd z n4
          · obtain ⟨x1, x2, x3⟩ := z4 K' q3
            refine wp_if_ne (t := 76) (n := 44) dX10_carriesOut_41 (by decide) rfl (fun hq => ?_) (fun hq => ?_)
            · refine wp_iinc (n := 79) dX10_carriesOut_76 rfl rfl (nI_inc k) rfl rfl rfl ?_
              refine wp_goto (t := 28) dX10_carriesOut_79 (by decide) ?_
              exact ih (k + 1) K' h4 R4 RE4 pk4 (by omega) q4 x2 (q3.np.trans hnp) x1 x3 (f3.tr f4) r4 e4 p4
            · exact absurd hq (by decide)
  exact L n 0 K0 h2 R RE pk (by omega) hO hI rfl hr hre frC.rf R2 E2 P2

end
