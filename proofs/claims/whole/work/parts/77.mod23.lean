/-! ===== the reference: bestSwap ===== -/
section
variable {Γ : GE} {h : AH} {Q : PO} {m a np nb ne nh nc y : Nat} {R : FI} {qu ra le ln pl tm rw hw cw pk : FI} {re : Nat → UInt32} {bk : Nat → Int64} {t x z w v th tl at' bg er ea lr cm : Int32}
theorem s_X10_bestSwap (hM : ModC h m a th tl at' bg er ea lr cm) (hR : h.2 a = some (.inl (.int, 5061, .inl R))) (hr : RowR R np qu ra re le ln nb pl tm ne rw bk nh hw nc cw t y) (hI : Inv np qu ra re le ln nb pl tm ne rw bk nh hw nc cw t y) (hA : Γ.2.1 ≤ m) (ham : ¬ a = m) (hAa : Γ.2.1 ≤ a)
    (k1 : inN x np = false → ∀ h', ax_fr m (m + 1) h h' → ModC h' m a (nI 1) tl at' bg er ea lr cm → Q (.inl (some (.int 0))) h')
    (k : ∀ j, j < np → x = nI j → ∀ h' R', h'.1 = h.1 → (∀ c, ¬ c = m → ¬ c = a → h'.2 c = h.2 c) → ModC h' m a 0 tl at' bg er ea lr cm → h'.2 a = some (.inl (.int, 5061, .inl R')) → (∀ u, R' u = R u) → Q (.inl (some (.int (boutS (joinL pl nb (nI j)) pl nb (nI j) nb).1))) h') : WP Γ MX10_bestSwap (2, 84, 0, 0) 0 [some (.ref m), some (.int x), none, none, none, none, none] [] h Q := by
  have hM0 := hM
  unfold ModC at hM
  have hI0 := hI
  have hr0 := hr
  obtain ⟨⟨s1, s2, s3, s4, s5, s6, s7, s8, tn, s9, s10⟩, IM, IP, IJ, IR, IC⟩ := hI
  obtain ⟨⟨r0, r1, r2, r3, r4, r5, r6⟩, rM, rP, rJ, rH, rC⟩ := hr
  refine wp_aload_n (n := 1) dX10_bestSwap_0 rfl rfl ?_
  refine wp_aload_n (n := 2) dX10_bestSwap_1 rfl rfl ?_
  refine wp_iload_n (n := 3) dX10_bestSwap_2 rfl rfl ?_
  refine wp_callV1 (n := 6) (rm' := (1, 22, 0, 0)) rfl dX10_bestSwap_3 rfl mlX10_109 (by repeat first | assumption | exact ax_set_self _ _ _ | exact ax_newA_self _ _ _ | refine (ax_set_ne _ _ (by omega)).trans ?_ | refine (ax_newA_ne _ _ _ (by omega)).trans ?_) rfl rfl rfl rfl rfl ?_
  refine s_X10_isPool hM0 hR r1 s2 ?_
  show WP Γ _ _ _ _ _ _ _
  refine wp_iconst (n := 7) (v := nI 1) dX10_bestSwap_6 rfl (by decide) ?_
  refine wp_callV2 (n := 10) (rm' := (0, 0, 0, 0)) rfl dX10_bestSwap_7 rfl mlX10_113 (by repeat first | assumption | exact ax_set_self _ _ _ | exact ax_newA_self _ _ _ | refine (ax_set_ne _ _ (by omega)).trans ?_ | refine (ax_newA_ne _ _ _ (by omega)).trans ?_) rfl rfl rfl rfl rfl ?_
  refine s_X10_isThrown hM0 hA (fun hB f1 mB => ?_)
  show WP Γ _ _ _ _ _ _ _
  have fB := f1
  have hRB := fB.get hR (by omega)
  cases hx1 : inN x np with
  | false =>
    rw [hx1] at mB
    refine wp_if_eq (t := 15) (n := 13) dX10_bestSwap_10 (by decide) rfl (fun hq => ?_) (fun hq => ?_)
    · exact absurd hq (by decide)
    · refine wp_iconst (n := 14) (v := 0) dX10_bestSwap_13 rfl (by decide) ?_
      exact wp_ireturn dX10_bestSwap_14 rfl rfl (k1 hx1 hB fB mB)
  | true =>
    rw [hx1] at mB
    have mB' := mB
    unfold ModC at mB'
    refine wp_if_eq (t := 15) (n := 13) dX10_bestSwap_10 (by decide) rfl (fun hq => ?_) (fun hq => ?_)
    · skip
      obtain ⟨j, j1, rfl⟩ := inN_get (n := np) (by omega) (of_decide_eq_true hx1).1 (of_decide_eq_true hx1).2
      have kk := k j j1 rfl
      refine wp_iconst (n := 16) (v := (-1)) dX10_bestSwap_15 rfl (by decide) ?_
      refine wp_istore_n (n := 17) dX10_bestSwap_16 rfl rfl rfl rfl ?_
      refine wp_aload_n (n := 18) dX10_bestSwap_17 rfl rfl ?_
      refine wp_iload_n (n := 19) dX10_bestSwap_18 rfl rfl ?_
      refine wp_callV1 (n := 22) (rm' := (1, 60, 0, 0)) rfl dX10_bestSwap_19 rfl mlX10_290 (by repeat first | assumption | exact ax_set_self _ _ _ | exact ax_newA_self _ _ _ | refine (ax_set_ne _ _ (by omega)).trans ?_ | refine (ax_newA_ne _ _ _ (by omega)).trans ?_) rfl rfl rfl rfl rfl ?_
      refine s_X10_longestOf mB hRB r0 rM s4 ?_
      show WP Γ _ _ _ _ _ _ _
      refine wp_istore_n (n := 23) dX10_bestSwap_22 rfl rfl rfl rfl ?_
      refine wp_iconst (n := 24) (v := 0) dX10_bestSwap_23 rfl (by decide) ?_
      refine wp_istore (n := 26) dX10_bestSwap_24 rfl rfl rfl rfl ?_
      have val : ∀ b o s, b < nb → o < nb → pl b = nI j → ¬ pl o = nI j → longR pl (nI j) nb ≤ s → ((s < longR (xchF pl b o) (nI j) nb ↔ s < joinL pl nb (nI j) b o) ∧ (s < joinL pl nb (nI j) b o → longR (xchF pl b o) (nI j) nb = joinL pl nb (nI j) b o)) := by
        intro b o s hb ho h1 h2 h3
        have g1 := join_lo (n := nb) h1 h2 ho
        have g2 := join_hi (n := nb) h1 h2 ho
        exact ⟨by omega, by omega⟩
      have L : ∀ b, b ≤ nb → ∀ q5 q6 h1 R1, h1.1 = h.1 → (∀ c, ¬ c = m → ¬ c = a → h1.2 c = h.2 c) → ModC h1 m a 0 tl at' bg er ea lr cm → h1.2 a = some (.inl (.int, 5061, .inl R1)) → (∀ u, R1 u = R u) → WP Γ MX10_bestSwap (2, 84, 0, 0) 26 [some (.ref m), some (.int (nI j)), some (.int (boutS (joinL pl nb (nI j)) pl nb (nI j) b).1), some (.int (nI (boutS (joinL pl nb (nI j)) pl nb (nI j) b).2)), some (.int (nI b)), q5, q6] [] h1 Q := by
        refine ax_up nb (fun b hb ih => ?_)
        intro q5 q6 h1 R1 a1 a2 a3 a4 a5
        refine wp_lo (lo' := [some (.ref m), some (.int (nI j)), some (.int (boutS (joinL pl nb (nI j)) pl nb (nI j) b).1), some (.int (nI (boutS (joinL pl nb (nI j)) pl nb (nI j) b).2)), some (.int (nI b)), none, none]) (fun k v hk => ?_) ?_
        · match k, hk with
          | 0, hk => exact hk
          | 1, hk => exact hk
          | 2, hk => exact hk
          | 3, hk => exact hk
          | 4, hk => exact hk
          | 5, hk => exact absurd hk (by simp [ax_gl])
          | 6, hk => exact absurd hk (by simp [ax_gl])
          | k + 7, hk => exact absurd hk (by simp [ax_gl])
        have a3' := a3
        unfold ModC at a3'
        have x0 : R1 0 = nI nb := (a5 0).trans r0
        refine wp_iload (n := 28) dX10_bestSwap_26 rfl rfl ?_
        refine wp_aload_n (n := 29) dX10_bestSwap_28 rfl rfl ?_
        refine wp_getf (n := 32) dX10_bestSwap_29 rfl flX10_9 (by repeat first | assumption | exact ax_set_self _ _ _ | exact ax_newA_self _ _ _ | refine (ax_set_ne _ _ (by omega)).trans ?_ | refine (ax_newA_ne _ _ _ (by omega)).trans ?_) (by rfl) ?_
        refine wp_iconst (n := 33) (v := 0) dX10_bestSwap_32 rfl (by decide) ?_
        refine wp_iald (n := 34) 0 dX10_bestSwap_33 rfl a4 rfl (by omega) (by omega) ?_
        rw [x0]
        refine wp_icmp_ge (t := 132) (n := 37) dX10_bestSwap_34 (by decide) rfl (fun hc => ?_) (fun hc => ?_)
        · rw [nI_le9 (by omega) (by omega)] at hc
          obtain rfl : b = nb := by omega
          refine wp_iload_n (n := 133) dX10_bestSwap_132 rfl rfl ?_
          exact wp_ireturn dX10_bestSwap_133 rfl rfl (kk h1 R1 a1 a2 a3 a4 a5)
        · rw [nI_le9 (by omega) (by omega)] at hc
          have hlt : b < nb := by omega
          have ih := ih hlt
          have xM : ∀ h2 R2, ModC h2 m a 0 tl at' bg er ea lr cm → h2.2 a = some (.inl (.int, 5061, .inl R2)) → (∀ u, R2 u = R u) → RowM R2 nb pl tm := fun h2 R2 _ _ e d hd => ⟨(e _).trans (rM d hd).1, (e _).trans (rM d hd).2⟩
          by_cases hbx : pl b = nI j
          · have ih : ∀ q5 q6 h1 R1, h1.1 = h.1 → (∀ c, ¬ c = m → ¬ c = a → h1.2 c = h.2 c) → ModC h1 m a 0 tl at' bg er ea lr cm → h1.2 a = some (.inl (.int, 5061, .inl R1)) → (∀ u, R1 u = R u) → WP Γ MX10_bestSwap (2, 84, 0, 0) 26 [some (.ref m), some (.int (nI j)), some (.int (binS (joinL pl nb (nI j)) pl (nI j) b (boutS (joinL pl nb (nI j)) pl nb (nI j) b) nb).1), some (.int (nI (binS (joinL pl nb (nI j)) pl (nI j) b (boutS (joinL pl nb (nI j)) pl nb (nI j) b) nb).2)), some (.int (nI (b + 1))), q5, q6] [] h1 Q := by
              have e : boutS (joinL pl nb (nI j)) pl nb (nI j) (b + 1) = binS (joinL pl nb (nI j)) pl (nI j) b (boutS (joinL pl nb (nI j)) pl nb (nI j) b) nb := if_pos hbx
              rw [e] at ih
              exact ih
            have ge := boutS_ge (val := joinL pl nb (nI j)) (pl := pl) (n := nb) (x := nI j) b
            have le9 := boutS_le (pl := pl) (n := nb) (x := nI j) b hb
            generalize boutS (joinL pl nb (nI j)) pl nb (nI j) b = s at *
            have I : ∀ o, o ≤ nb → ∀ q6 h1 R1, h1.1 = h.1 → (∀ c, ¬ c = m → ¬ c = a → h1.2 c = h.2 c) → ModC h1 m a 0 tl at' bg er ea lr cm → h1.2 a = some (.inl (.int, 5061, .inl R1)) → (∀ u, R1 u = R u) → WP Γ MX10_bestSwap (2, 84, 0, 0) 40 [some (.ref m), some (.int (nI j)), some (.int (binS (joinL pl nb (nI j)) pl (nI j) b s o).1), some (.int (nI (binS (joinL pl nb (nI j)) pl (nI j) b s o).2)), some (.int (nI b)), some (.int (nI o)), q6] [] h1 Q := by
              refine ax_up nb (fun o ho ih2 => ?_)
              intro q6 h1 R1 a1 a2 a3 a4 a5
              refine wp_lo (lo' := [some (.ref m), some (.int (nI j)), some (.int (binS (joinL pl nb (nI j)) pl (nI j) b s o).1), some (.int (nI (binS (joinL pl nb (nI j)) pl (nI j) b s o).2)), some (.int (nI b)), some (.int (nI o)), none]) (fun k v hk => ?_) ?_
              · match k, hk with
                | 0, hk => exact hk
                | 1, hk => exact hk
                | 2, hk => exact hk
                | 3, hk => exact hk
                | 4, hk => exact hk
                | 5, hk => exact hk
                | 6, hk => exact absurd hk (by simp [ax_gl])
                | k + 7, hk => exact absurd hk (by simp [ax_gl])
              have a3' := a3
              unfold ModC at a3'
              have x0 : R1 0 = nI nb := (a5 0).trans r0
              have x1 := xM h1 R1 a3 a4 a5
              refine wp_aload_n (n := 41) dX10_bestSwap_40 rfl rfl ?_
              refine wp_iload (n := 43) dX10_bestSwap_41 rfl rfl ?_
              refine wp_iload_n (n := 44) dX10_bestSwap_43 rfl rfl ?_
              refine wp_callV2 (n := 47) (rm' := (0, 0, 0, 0)) rfl dX10_bestSwap_44 rfl mlX10_72 (by repeat first | assumption | exact ax_set_self _ _ _ | exact ax_newA_self _ _ _ | refine (ax_set_ne _ _ (by omega)).trans ?_ | refine (ax_newA_ne _ _ _ (by omega)).trans ?_) rfl rfl rfl rfl rfl ?_
              refine s_X10_isIn a3 a4 x0 x1 s4 (by omega) ?_
              show WP Γ _ _ _ _ _ _ _
              rw [decide_eq_true ⟨hlt, hbx⟩]
              refine wp_if_eq (t := 126) (n := 50) dX10_bestSwap_47 (by decide) rfl (fun hq => ?_) (fun hq => ?_)
              · exact absurd hq (by decide)
              · refine wp_iload (n := 52) dX10_bestSwap_50 rfl rfl ?_
                refine wp_aload_n (n := 53) dX10_bestSwap_52 rfl rfl ?_
                refine wp_getf (n := 56) dX10_bestSwap_53 rfl flX10_9 (by repeat first | assumption | exact ax_set_self _ _ _ | exact ax_newA_self _ _ _ | refine (ax_set_ne _ _ (by omega)).trans ?_ | refine (ax_newA_ne _ _ _ (by omega)).trans ?_) (by rfl) ?_
                refine wp_iconst (n := 57) (v := 0) dX10_bestSwap_56 rfl (by decide) ?_
                refine wp_iald (n := 58) 0 dX10_bestSwap_57 rfl a4 rfl (by omega) (by omega) ?_
                rw [x0]
                refine wp_icmp_ge (t := 126) (n := 61) dX10_bestSwap_58 (by decide) rfl (fun hu => ?_) (fun hu => ?_)
                · rw [nI_le9 (by omega) (by omega)] at hu
                  obtain rfl : o = nb := by omega
                  refine wp_iinc (n := 129) dX10_bestSwap_126 rfl rfl (nI_inc b) rfl rfl rfl ?_
                  refine wp_goto (t := 26) dX10_bestSwap_129 (by decide) ?_
                  exact ih _ _ h1 R1 a1 a2 a3 a4 a5
                · rw [nI_le9 (by omega) (by omega)] at hu
                  have hlo : o < nb := by omega
                  have ih2 := ih2 hlo
                  refine wp_aload_n (n := 62) dX10_bestSwap_61 rfl rfl ?_
                  refine wp_iload (n := 64) dX10_bestSwap_62 rfl rfl ?_
                  refine wp_iload_n (n := 65) dX10_bestSwap_64 rfl rfl ?_
                  refine wp_callV2 (n := 68) (rm' := (0, 0, 0, 0)) rfl dX10_bestSwap_65 rfl mlX10_72 (by repeat first | assumption | exact ax_set_self _ _ _ | exact ax_newA_self _ _ _ | refine (ax_set_ne _ _ (by omega)).trans ?_ | refine (ax_newA_ne _ _ _ (by omega)).trans ?_) rfl rfl rfl rfl rfl ?_
                  refine s_X10_isIn a3 a4 x0 x1 s4 (by omega) ?_
                  show WP Γ _ _ _ _ _ _ _
                  by_cases hox : pl o = nI j
                  · have e : binS (joinL pl nb (nI j)) pl (nI j) b s (o + 1) = binS (joinL pl nb (nI j)) pl (nI j) b s o := if_neg (fun q => q.1 hox)
                    rw [e] at ih2
                    rw [decide_eq_true ⟨hlo, hox⟩]
                    refine wp_if_eq (t := 74) (n := 71) dX10_bestSwap_68 (by decide) rfl (fun hv => ?_) (fun hv => ?_)
                    · exact absurd hv (by decide)
                    · refine wp_goto (t := 120) dX10_bestSwap_71 (by decide) ?_
                      refine wp_iinc (n := 123) dX10_bestSwap_120 rfl rfl (nI_inc o) rfl rfl rfl ?_
                      refine wp_goto (t := 40) dX10_bestSwap_123 (by decide) ?_
                      exact ih2 _ h1 R1 a1 a2 a3 a4 a5
                  · rw [decide_eq_false (fun q => hox q.2)]
                    have hge2 := Nat.le_trans ge (binS_ge (val := joinL pl nb (nI j)) (pl := pl) (x := nI j) (o := b) (s := s) o)
                    have hle2 := binS_le (pl := pl) (n := nb) (x := nI j) (o := b) (s := s) le9 o ho
                    obtain ⟨v1, v2⟩ := val b o _ hlt hlo hbx hox hge2
                    have hll := longR_le (xchF pl b o) (nI j) nb
                    refine wp_if_eq (t := 74) (n := 71) dX10_bestSwap_68 (by decide) rfl (fun hv => ?_) (fun hv => ?_)
                    · refine wp_aload_n (n := 75) dX10_bestSwap_74 rfl rfl ?_
                      refine wp_bipush (n := 77) (v := nI 7) dX10_bestSwap_75 rfl (by decide) ?_
                      refine wp_iload (n := 79) dX10_bestSwap_77 rfl rfl ?_
                      refine wp_iload (n := 81) dX10_bestSwap_79 rfl rfl ?_
                      refine wp_callV3 (n := 84) (rm' := (0, 0, 0, 0)) rfl dX10_bestSwap_81 rfl mlX10_293 (by repeat first | assumption | exact ax_set_self _ _ _ | exact ax_newA_self _ _ _ | refine (ax_set_ne _ _ (by omega)).trans ?_ | refine (ax_newA_ne _ _ _ (by omega)).trans ?_) rfl rfl rfl rfl rfl ?_
                      refine s_X10_exchanges (o := 7) a3 a4 hAa ham (by omega) (by omega) (by omega) (fun h3 f3 c3 => ?_)
                      show WP Γ _ _ _ _ _ _ _
                      have m3 := a3.fr f3 (by omega)
                      have m3' := m3
                      unfold ModC at m3'
                      have hbo : ¬ b = o := fun q => hox (q ▸ hbx)
                      have y0 : xchF R1 (7 + b) (7 + o) 0 = nI nb := by rw [xch_o (by omega) (by omega)]; exact x0
                      have y1 : RowM (xchF R1 (7 + b) (7 + o)) nb (xchF pl b o) tm := by
                        intro d hd
                        refine ⟨?_, by rw [xch_o (by omega) (by omega)]; exact (x1 d hd).2⟩
                        by_cases q1 : d = o
                        · subst q1; rw [xch_2, xch_2]; exact (x1 b hlt).1
                        · by_cases q2 : d = b
                          · subst q2; rw [xch_1 (by omega), xch_1 hbo]; exact (x1 o hlo).1
                          · rw [xch_o (by omega) (by omega), xch_o q2 q1]; exact (x1 d hd).1
                      refine wp_aload_n (n := 85) dX10_bestSwap_84 rfl rfl ?_
                      refine wp_iload_n (n := 86) dX10_bestSwap_85 rfl rfl ?_
                      refine wp_callV1 (n := 89) (rm' := (1, 60, 0, 0)) rfl dX10_bestSwap_86 rfl mlX10_290 (by repeat first | assumption | exact ax_set_self _ _ _ | exact ax_newA_self _ _ _ | refine (ax_set_ne _ _ (by omega)).trans ?_ | refine (ax_newA_ne _ _ _ (by omega)).trans ?_) rfl rfl rfl rfl rfl ?_
                      refine s_X10_longestOf m3 c3 y0 y1 s4 ?_
                      show WP Γ _ _ _ _ _ _ _
                      refine wp_istore (n := 91) dX10_bestSwap_89 rfl rfl rfl rfl ?_
                      refine wp_aload_n (n := 92) dX10_bestSwap_91 rfl rfl ?_
                      refine wp_bipush (n := 94) (v := nI 7) dX10_bestSwap_92 rfl (by decide) ?_
                      refine wp_iload (n := 96) dX10_bestSwap_94 rfl rfl ?_
                      refine wp_iload (n := 98) dX10_bestSwap_96 rfl rfl ?_
                      refine wp_callV3 (n := 101) (rm' := (0, 0, 0, 0)) rfl dX10_bestSwap_98 rfl mlX10_293 (by repeat first | assumption | exact ax_set_self _ _ _ | exact ax_newA_self _ _ _ | refine (ax_set_ne _ _ (by omega)).trans ?_ | refine (ax_newA_ne _ _ _ (by omega)).trans ?_) rfl rfl rfl rfl rfl ?_
                      refine s_X10_exchanges (o := 7) m3 c3 hAa ham (by omega) (by omega) (by omega) (fun h4 f4 c4 => ?_)
                      show WP Γ _ _ _ _ _ _ _
                      have m4 := m3.fr f4 (by omega)
                      have b5 : ∀ u, xchF (xchF R1 (7 + b) (7 + o)) (7 + b) (7 + o) u = R u := by
                        intro u
                        rw [← a5 u]
                        by_cases q1 : u = 7 + o
                        · rw [q1, xch_2, xch_1 (by omega)]
                        · by_cases q2 : u = 7 + b
                          · rw [q2, xch_1 (by omega), xch_2]
                          · rw [xch_o q2 q1, xch_o q2 q1]
                      have b1 : h4.1 = h.1 := f4.1.trans (f3.1.trans a1)
                      have b2 : ∀ c, ¬ c = m → ¬ c = a → h4.2 c = h.2 c := fun c c1 c2 => (f4.2 c (by omega)).trans ((f3.2 c (by omega)).trans (a2 c c1 c2))
                      refine wp_iload (n := 103) dX10_bestSwap_101 rfl rfl ?_
                      refine wp_iload_n (n := 104) dX10_bestSwap_103 rfl rfl ?_
                      by_cases hj9 : (binS (joinL pl nb (nI j)) pl (nI j) b s o).2 < joinL pl nb (nI j) b o
                      · have e : binS (joinL pl nb (nI j)) pl (nI j) b s (o + 1) = (nI (1000 * b + o), joinL pl nb (nI j) b o) := if_pos ⟨hox, hj9⟩
                        rw [e] at ih2
                        rw [v2 hj9]
                        have hjl := v2 hj9
                        refine wp_icmp_le (t := 120) (n := 107) dX10_bestSwap_104 (by decide) rfl (fun hw9 => ?_) (fun hw9 => ?_)
                        · exact absurd ((nI_le9 (by omega) (by omega)).mp hw9) (by omega)
                        · refine wp_sipush (n := 110) (v := nI 1000) dX10_bestSwap_107 rfl (by decide) ?_
                          refine wp_iload (n := 112) dX10_bestSwap_110 rfl rfl ?_
                          refine wp_imul (n := 113) dX10_bestSwap_112 rfl ?_
                          rw [nI_mul]
                          refine wp_iload (n := 115) dX10_bestSwap_113 rfl rfl ?_
                          refine wp_iadd (n := 116) dX10_bestSwap_115 rfl ?_
                          rw [nI_add]
                          refine wp_istore_n (n := 117) dX10_bestSwap_116 rfl rfl rfl rfl ?_
                          refine wp_iload (n := 119) dX10_bestSwap_117 rfl rfl ?_
                          refine wp_istore_n (n := 120) dX10_bestSwap_119 rfl rfl rfl rfl ?_
                          refine wp_iinc (n := 123) dX10_bestSwap_120 rfl rfl (nI_inc o) rfl rfl rfl ?_
                          refine wp_goto (t := 40) dX10_bestSwap_123 (by decide) ?_
                          exact ih2 _ h4 _ b1 b2 m4 c4 b5
                      · have e : binS (joinL pl nb (nI j)) pl (nI j) b s (o + 1) = binS (joinL pl nb (nI j)) pl (nI j) b s o := if_neg (fun q => hj9 q.2)
                        rw [e] at ih2
                        have hn9 : ¬ (binS (joinL pl nb (nI j)) pl (nI j) b s o).2 < longR (xchF pl b o) (nI j) nb := fun q => hj9 (v1.mp q)
                        refine wp_icmp_le (t := 120) (n := 107) dX10_bestSwap_104 (by decide) rfl (fun hw9 => ?_) (fun hw9 => ?_)
                        · refine wp_iinc (n := 123) dX10_bestSwap_120 rfl rfl (nI_inc o) rfl rfl rfl ?_
                          refine wp_goto (t := 40) dX10_bestSwap_123 (by decide) ?_
                          exact ih2 _ h4 _ b1 b2 m4 c4 b5
                        · exact absurd ((nI_le9 (by omega) (by omega)).mpr (by omega)) hw9
                    · exact absurd rfl hv
            refine wp_iconst (n := 38) (v := 0) dX10_bestSwap_37 rfl (by decide) ?_
            refine wp_istore (n := 40) dX10_bestSwap_38 rfl rfl rfl rfl ?_
            exact I 0 (Nat.zero_le _) _ h1 R1 a1 a2 a3 a4 a5
          · have e : boutS (joinL pl nb (nI j)) pl nb (nI j) (b + 1) = boutS (joinL pl nb (nI j)) pl nb (nI j) b := if_neg hbx
            rw [e] at ih
            refine wp_iconst (n := 38) (v := 0) dX10_bestSwap_37 rfl (by decide) ?_
            refine wp_istore (n := 40) dX10_bestSwap_38 rfl rfl rfl rfl ?_
            refine wp_aload_n (n := 41) dX10_bestSwap_40 rfl rfl ?_
            refine wp_iload (n := 43) dX10_bestSwap_41 rfl rfl ?_
            refine wp_iload_n (n := 44) dX10_bestSwap_43 rfl rfl ?_
            refine wp_callV2 (n := 47) (rm' := (0, 0, 0, 0)) rfl dX10_bestSwap_44 rfl mlX10_72 (by repeat first | assumption | exact ax_set_self _ _ _ | exact ax_newA_self _ _ _ | refine (ax_set_ne _ _ (by omega)).trans ?_ | refine (ax_newA_ne _ _ _ (by omega)).trans ?_) rfl rfl rfl rfl rfl ?_
            refine s_X10_isIn a3 a4 x0 (xM h1 R1 a3 a4 a5) s4 (by omega) ?_
            show WP Γ _ _ _ _ _ _ _
            rw [decide_eq_false (fun q => hbx q.2)]
            refine wp_if_eq (t := 126) (n := 50) dX10_bestSwap_47 (by decide) rfl (fun hq => ?_) (fun hq => ?_)
            · refine wp_iinc (n := 129) dX10_bestSwap_126 rfl rfl (nI_inc b) rfl rfl rfl ?_
              refine wp_goto (t := 26) dX10_bestSwap_129 (by decide) ?_
              exact ih _ _ h1 R1 a1 a2 a3 a4 a5
            · exact absurd rfl hq
      exact L 0 (Nat.zero_le _) none none hB R fB.1 (fun c c1 c2 => fB.2 c (by omega)) mB hRB (fun u => rfl)
    · exact absurd rfl hq
end
