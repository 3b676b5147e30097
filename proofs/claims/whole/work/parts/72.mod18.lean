/-! ===== the reference: whenAvailable ===== -/

theorem aSum_nat {np : Nat} {hw : FI} {x z : Int32} : ∀ {nh : Nat}, InvR np nh hw → nh ≤ 60 → ∃ v, v ≤ 200 * nh ∧ aSum hw x z nh = nI v
  | 0, _, _ => ⟨0, Nat.le_refl _, rfl⟩
  | nh + 1, h, hn => by
    obtain ⟨v, h1, h2⟩ := aSum_nat (x := x) (z := z) (nh := nh) (fun r hr => h r (by omega)) (by omega)
    obtain ⟨_, _, u, u1, u2, u3⟩ := h nh (by omega)
    have e : aSum hw x z (nh + 1) = aSum hw x z nh + (if pend hw nh = true ∧ z < hw (nh * 5 + 3) ∧ hw (nh * 5 + 0) = x then hw (nh * 5 + 2) else 0) := rfl
    rw [e, h2]
    by_cases q : pend hw nh = true ∧ z < hw (nh * 5 + 3) ∧ hw (nh * 5 + 0) = x
    · rw [if_pos q, u3, nI_add]; exact ⟨v + u, by omega, rfl⟩
    · rw [if_neg q, Int32.add_zero]; exact ⟨v, by omega, rfl⟩
theorem nI_subI {a b : Nat} (ha : a ≤ 1000000) (hb : b ≤ 1000000) : (nI a - nI b).toInt = (a : Int) - b := by
  rw [i32_sub (by rw [nI_toInt (by omega), nI_toInt (by omega)]; omega) (by rw [nI_toInt (by omega), nI_toInt (by omega)]; omega), nI_toInt (by omega), nI_toInt (by omega)]
theorem sub_swap {c u s : Nat} (hc : c ≤ 1000000) (hu : u ≤ 1000000) (hs : s ≤ 1000000) : (¬ nI c - nI u < nI s) ↔ ¬ nI c - nI s < nI u := by
  rw [Int32.lt_iff_toInt_lt, Int32.lt_iff_toInt_lt, nI_subI hc hu, nI_subI hc hs, nI_toInt (by omega), nI_toInt (by omega)]
  omega

section
variable {Γ : GE} {h : AH} {Q : PO} {m a np nb ne nh nc y : Nat} {R : FI} {qu ra le ln pl tm rw hw cw pk : FI} {re : Nat → UInt32} {bk : Nat → Int64} {t x z w v th tl at' bg er ea lr cm : Int32}
theorem s_X10_whenAvailable (hM : ModC h m a th tl at' bg er ea lr cm) (hR : h.2 a = some (.inl (.int, 5061, .inl R))) (hr : RowR R np qu ra re le ln nb pl tm ne rw bk nh hw nc cw t y) (hI : Inv np qu ra re le ln nb pl tm ne rw bk nh hw nc cw t y) (hA : Γ.2.1 ≤ m) (ham : ¬ a = m) 
    (k1 : inN x np = false → ∀ h', ax_fr m (m + 1) h h' → ModC h' m a (nI 1) tl at' bg er ea lr cm → Q (.inl (some (.int 0))) h')
    (k2 : inN x np = true → inI z 0 200 = false → ∀ h', ax_fr m (m + 1) h h' → ModC h' m a (nI 2) tl at' bg er ea lr cm → Q (.inl (some (.int 0))) h')
    (k : ∀ j, j < np → x = nI j → ∀ u, 0 ≤ u → u ≤ 200 → z = nI u → ∀ h', ax_fr m (m + 1) h h' → ModC h' m a (0) tl at' bg er ea lr cm → Q (.inl (some (.int (if avl pl nb hw nh (nI j) < nI u then tos hw (nI j) (nI (cnt pl (nI j) nb) - nI u) nh nh else t)))) h') : WP Γ MX10_whenAvailable (3, 67, 0, 0) 0 [some (.ref m), some (.int x), some (.int z), none, none, none, none] [] h Q := by
  have hM0 := hM
  unfold ModC at hM
  have hI0 := hI
  have hr0 := hr
  obtain ⟨⟨s1, s2, s3, s4, s5, s6, s7, s8, tn, s9, s10⟩, IM, IP, IJ, IR, IC⟩ := hI
  obtain ⟨⟨r0, r1, r2, r3, r4, r5, r6⟩, rM, rP, rJ, rH, rC⟩ := hr
  refine wp_aload_n (n := 1) dX10_whenAvailable_0 rfl rfl ?_
  refine wp_aload_n (n := 2) dX10_whenAvailable_1 rfl rfl ?_
  refine wp_iload_n (n := 3) dX10_whenAvailable_2 rfl rfl ?_
  refine wp_callV1 (n := 6) (rm' := (1, 22, 0, 0)) rfl dX10_whenAvailable_3 rfl mlX10_109 (by repeat first | assumption | exact ax_set_self _ _ _ | exact ax_newA_self _ _ _ | refine (ax_set_ne _ _ (by omega)).trans ?_ | refine (ax_newA_ne _ _ _ (by omega)).trans ?_) rfl rfl rfl rfl rfl ?_
  refine s_X10_isPool hM0 hR r1 s2 ?_
  show WP Γ _ _ _ _ _ _ _
  refine wp_iconst (n := 7) (v := nI 1) dX10_whenAvailable_6 rfl (by decide) ?_
  refine wp_callV2 (n := 10) (rm' := (0, 0, 0, 0)) rfl dX10_whenAvailable_7 rfl mlX10_113 (by repeat first | assumption | exact ax_set_self _ _ _ | exact ax_newA_self _ _ _ | refine (ax_set_ne _ _ (by omega)).trans ?_ | refine (ax_newA_ne _ _ _ (by omega)).trans ?_) rfl rfl rfl rfl rfl ?_
  refine s_X10_isThrown hM0 hA (fun h1 f1 m1 => ?_)
  show WP Γ _ _ _ _ _ _ _
  have fa1 := f1
  have hR1 := fa1.get hR (by omega)
  cases hx1 : inN x np with
  | false =>
    rw [hx1] at m1
    refine wp_if_ne (t := 29) (n := 13) dX10_whenAvailable_10 (by decide) rfl (fun hq => ?_) (fun hq => ?_)
    · refine wp_iconst (n := 30) (v := 0) dX10_whenAvailable_29 rfl (by decide) ?_
      exact wp_ireturn dX10_whenAvailable_30 rfl rfl (k1 hx1 h1 fa1 m1)
    · exact absurd hq (by decide)
  | true =>
    rw [hx1] at m1
    have m1' := m1
    unfold ModC at m1'
    refine wp_if_ne (t := 29) (n := 13) dX10_whenAvailable_10 (by decide) rfl (fun hq => ?_) (fun hq => ?_)
    · exact absurd rfl hq
    · skip
      refine wp_aload_n (n := 14) dX10_whenAvailable_13 rfl rfl ?_
      refine wp_iload_n (n := 15) dX10_whenAvailable_14 rfl rfl ?_
      refine wp_iconst (n := 16) (v := 0) dX10_whenAvailable_15 rfl (by decide) ?_
      refine wp_sipush (n := 19) (v := nI 200) dX10_whenAvailable_16 rfl (by decide) ?_
      refine wp_callS3 (n := 22) (rm' := (0, 0, 0, 0)) rfl dX10_whenAvailable_19 rfl mlX10_54 rfl rfl rfl rfl ?_
      refine s_X10_inJ (p := 0) (q := 200) rfl rfl ?_
      show WP Γ _ _ _ _ _ _ _
      refine wp_iconst (n := 23) (v := nI 2) dX10_whenAvailable_22 rfl (by decide) ?_
      refine wp_callV2 (n := 26) (rm' := (0, 0, 0, 0)) rfl dX10_whenAvailable_23 rfl mlX10_113 (by repeat first | assumption | exact ax_set_self _ _ _ | exact ax_newA_self _ _ _ | refine (ax_set_ne _ _ (by omega)).trans ?_ | refine (ax_newA_ne _ _ _ (by omega)).trans ?_) rfl rfl rfl rfl rfl ?_
      refine s_X10_isThrown m1 hA (fun hB f2 mB => ?_)
      show WP Γ _ _ _ _ _ _ _
      have fB := fa1.tr (lo := m) (hi := m + 1) f2 (by omega) (by omega)
      have hRB := fB.get hR (by omega)
      cases hx2 : inI z 0 200 with
      | false =>
        rw [hx2] at mB
        refine wp_if_eq (t := 31) (n := 29) dX10_whenAvailable_26 (by decide) rfl (fun hq => ?_) (fun hq => ?_)
        · exact absurd hq (by decide)
        · refine wp_iconst (n := 30) (v := 0) dX10_whenAvailable_29 rfl (by decide) ?_
          exact wp_ireturn dX10_whenAvailable_30 rfl rfl (k2 hx1 hx2 hB fB mB)
      | true =>
        rw [hx2] at mB
        have mB' := mB
        unfold ModC at mB'
        refine wp_if_eq (t := 31) (n := 29) dX10_whenAvailable_26 (by decide) rfl (fun hq => ?_) (fun hq => ?_)
        · skip
          obtain ⟨j, j1, rfl⟩ := inN_get (n := np) (by omega) (of_decide_eq_true hx1).1 (of_decide_eq_true hx1).2
          obtain ⟨u, u1, u2, rfl⟩ := inI_get (a := 0) (b := 200) (by omega) (by omega) (of_decide_eq_true hx2).1 (of_decide_eq_true hx2).2
          have kk := k j j1 rfl u u1 u2 rfl hB fB mB
          have hcn := cnt_le pl (nI j) nb
          refine wp_aload_n (n := 32) dX10_whenAvailable_31 rfl rfl ?_
          refine wp_iload_n (n := 33) dX10_whenAvailable_32 rfl rfl ?_
          refine wp_callV1 (n := 36) (rm' := (2, 46, 0, 0)) rfl dX10_whenAvailable_33 rfl mlX10_92 (by repeat first | assumption | exact ax_set_self _ _ _ | exact ax_newA_self _ _ _ | refine (ax_set_ne _ _ (by omega)).trans ?_ | refine (ax_newA_ne _ _ _ (by omega)).trans ?_) rfl rfl rfl rfl rfl ?_
          refine s_X10_availableOf mB hRB hr0 s4 s6 ?_
          show WP Γ _ _ _ _ _ _ _
          refine wp_iload_n (n := 37) dX10_whenAvailable_36 rfl rfl ?_
          refine wp_icmp_lt (t := 47) (n := 40) dX10_whenAvailable_37 (by decide) rfl (fun hc => ?_) (fun hc => ?_)
          · rw [if_pos hc] at kk
            refine wp_iconst (n := 48) (v := (-1)) dX10_whenAvailable_47 rfl (by decide) ?_
            refine wp_istore_n (n := 49) dX10_whenAvailable_48 rfl rfl rfl rfl ?_
            refine wp_iconst (n := 50) (v := 0) dX10_whenAvailable_49 rfl (by decide) ?_
            refine wp_istore (n := 52) dX10_whenAvailable_50 rfl rfl rfl rfl ?_
            suffices L : ∀ r, r ≤ nh → ∀ q5 q6, WP Γ MX10_whenAvailable (3, 67, 0, 0) 52 [some (.ref m), some (.int (nI j)), some (.int (nI u)), some (.int (tos hw (nI j) (nI (cnt pl (nI j) nb) - nI u) nh r)), some (.int (nI r)), q5, q6] [] hB Q from L 0 (Nat.zero_le _) none none
            refine ax_up nh (fun r hr9 ih => ?_)
            intro q5 q6
            refine wp_lo (lo' := [some (.ref m), some (.int (nI j)), some (.int (nI u)), some (.int (tos hw (nI j) (nI (cnt pl (nI j) nb) - nI u) nh r)), some (.int (nI r)), none, none]) (fun k v hk => ?_) ?_
            · match k, hk with
              | 0, hk => exact hk
              | 1, hk => exact hk
              | 2, hk => exact hk
              | 3, hk => exact hk
              | 4, hk => exact hk
              | 5, hk => exact absurd hk (by simp [ax_gl])
              | 6, hk => exact absurd hk (by simp [ax_gl])
              | k + 7, hk => exact absurd hk (by simp [ax_gl])
            refine wp_iload (n := 54) dX10_whenAvailable_52 rfl rfl ?_
            refine wp_aload_n (n := 55) dX10_whenAvailable_54 rfl rfl ?_
            refine wp_getf (n := 58) dX10_whenAvailable_55 rfl flX10_9 (by repeat first | assumption | exact ax_set_self _ _ _ | exact ax_newA_self _ _ _ | refine (ax_set_ne _ _ (by omega)).trans ?_ | refine (ax_newA_ne _ _ _ (by omega)).trans ?_) (by rfl) ?_
            refine wp_iconst (n := 59) (v := nI 5) dX10_whenAvailable_58 rfl (by decide) ?_
            refine wp_iald (n := 60) _ dX10_whenAvailable_59 rfl (by repeat first | assumption | exact ax_set_self _ _ _ | exact ax_newA_self _ _ _ | refine (ax_set_ne _ _ (by omega)).trans ?_ | refine (ax_newA_ne _ _ _ (by omega)).trans ?_) rfl (by omega) (by decide) ?_
            rw [r5]
            refine wp_icmp_ge (t := 129) (n := 63) dX10_whenAvailable_60 (by decide) rfl (fun hq => ?_) (fun hq => ?_)
            · rw [nI_le9 (by omega) (by omega)] at hq
              obtain rfl : r = nh := by omega
              refine wp_iload_n (n := 130) dX10_whenAvailable_129 rfl rfl ?_
              exact wp_ireturn dX10_whenAvailable_130 rfl rfl (kk)
            · rw [nI_le9 (by omega) (by omega)] at hq
              have hlt : r < nh := by omega
              have ih := ih hlt
              have av : (¬ nI (cnt pl (nI j) nb) - nI u < aSum hw (nI j) (hw (r * 5 + 3)) nh) ↔ ¬ nI (cnt pl (nI j) nb) - aSum hw (nI j) (hw (r * 5 + 3)) nh < nI u := by
                obtain ⟨v9, v1, v2⟩ := aSum_nat (x := nI j) (z := hw (r * 5 + 3)) IR s6
                rw [v2]
                exact sub_swap (by omega) (by omega) (by omega)
              have no : ¬ (pend hw r = true ∧ (tos hw (nI j) (nI (cnt pl (nI j) nb) - nI u) nh r = -1 ∨ hw (r * 5 + 3) < tos hw (nI j) (nI (cnt pl (nI j) nb) - nI u) nh r) ∧ ¬ nI (cnt pl (nI j) nb) - nI u < aSum hw (nI j) (hw (r * 5 + 3)) nh) → ∀ q6, WP Γ MX10_whenAvailable (3, 67, 0, 0) 121 [some (.ref m), some (.int (nI j)), some (.int (nI u)), some (.int (tos hw (nI j) (nI (cnt pl (nI j) nb) - nI u) nh r)), some (.int (nI r)), some (.int (hw (r * 5 + 3))), q6] [] hB Q := by
                intro q q6
                simp only [tos, if_neg q] at ih
                refine wp_iload_n (n := 122) dX10_whenAvailable_121 rfl rfl ?_
                refine wp_istore_n (n := 123) dX10_whenAvailable_122 rfl rfl rfl rfl ?_
                refine wp_iinc (n := 126) dX10_whenAvailable_123 rfl rfl (nI_inc r) rfl rfl rfl ?_
                refine wp_goto (t := 52) dX10_whenAvailable_126 (by decide) ?_
                exact ih _ _
              have yes : (pend hw r = true ∧ (tos hw (nI j) (nI (cnt pl (nI j) nb) - nI u) nh r = -1 ∨ hw (r * 5 + 3) < tos hw (nI j) (nI (cnt pl (nI j) nb) - nI u) nh r) ∧ ¬ nI (cnt pl (nI j) nb) - nI u < aSum hw (nI j) (hw (r * 5 + 3)) nh) → ∀ q6, WP Γ MX10_whenAvailable (3, 67, 0, 0) 116 [some (.ref m), some (.int (nI j)), some (.int (nI u)), some (.int (tos hw (nI j) (nI (cnt pl (nI j) nb) - nI u) nh r)), some (.int (nI r)), some (.int (hw (r * 5 + 3))), q6] [] hB Q := by
                intro q q6
                simp only [tos, if_pos q] at ih
                refine wp_iload (n := 118) dX10_whenAvailable_116 rfl rfl ?_
                refine wp_goto (t := 122) dX10_whenAvailable_118 (by decide) ?_
                refine wp_istore_n (n := 123) dX10_whenAvailable_122 rfl rfl rfl rfl ?_
                refine wp_iinc (n := 126) dX10_whenAvailable_123 rfl rfl (nI_inc r) rfl rfl rfl ?_
                refine wp_goto (t := 52) dX10_whenAvailable_126 (by decide) ?_
                exact ih _ _
              have N : ¬ (pend hw r = true ∧ ¬ nI (cnt pl (nI j) nb) - nI u < aSum hw (nI j) (hw (r * 5 + 3)) nh) → WP Γ MX10_whenAvailable (3, 67, 0, 0) 97 [some (.ref m), some (.int (nI j)), some (.int (nI u)), some (.int (tos hw (nI j) (nI (cnt pl (nI j) nb) - nI u) nh r)), some (.int (nI r)), some (.int (hw (r * 5 + 3))), none] [] hB Q := by
                intro q
                refine wp_iconst (n := 98) (v := 0) dX10_whenAvailable_97 rfl (by decide) ?_
                refine wp_istore (n := 100) dX10_whenAvailable_98 rfl rfl rfl rfl ?_
                refine wp_iload (n := 102) dX10_whenAvailable_100 rfl rfl ?_
                refine wp_if_eq (t := 121) (n := 105) dX10_whenAvailable_102 (by decide) rfl (fun hs => ?_) (fun hs => ?_)
                · exact no (fun z => q ⟨z.1, z.2.2⟩) _
                · exact absurd rfl hs
              refine wp_aload_n (n := 64) dX10_whenAvailable_63 rfl rfl ?_
              refine wp_iload (n := 66) dX10_whenAvailable_64 rfl rfl ?_
              refine wp_iconst (n := 67) (v := nI 3) dX10_whenAvailable_66 rfl (by decide) ?_
              refine wp_callV2 (n := 70) (rm' := (0, 0, 0, 0)) rfl dX10_whenAvailable_67 rfl mlX10_58 (by repeat first | assumption | exact ax_set_self _ _ _ | exact ax_newA_self _ _ _ | refine (ax_set_ne _ _ (by omega)).trans ?_ | refine (ax_newA_ne _ _ _ (by omega)).trans ?_) rfl rfl rfl rfl rfl ?_
              refine s_X10_hold mB hRB (by omega) (by omega) ?_
              show WP Γ _ _ _ _ _ _ _
              rw [rH r hlt 3 (by omega)]
              refine wp_istore (n := 72) dX10_whenAvailable_70 rfl rfl rfl rfl ?_
              refine wp_aload_n (n := 73) dX10_whenAvailable_72 rfl rfl ?_
              refine wp_iload (n := 75) dX10_whenAvailable_73 rfl rfl ?_
              refine wp_iconst (n := 76) (v := nI 4) dX10_whenAvailable_75 rfl (by decide) ?_
              refine wp_callV2 (n := 79) (rm' := (0, 0, 0, 0)) rfl dX10_whenAvailable_76 rfl mlX10_58 (by repeat first | assumption | exact ax_set_self _ _ _ | exact ax_newA_self _ _ _ | refine (ax_set_ne _ _ (by omega)).trans ?_ | refine (ax_newA_ne _ _ _ (by omega)).trans ?_) rfl rfl rfl rfl rfl ?_
              refine s_X10_hold mB hRB (by omega) (by omega) ?_
              show WP Γ _ _ _ _ _ _ _
              rw [rH r hlt 4 (by omega)]
              refine wp_if_ne (t := 97) (n := 82) dX10_whenAvailable_79 (by decide) rfl (fun hs => ?_) (fun hs => ?_)
              · exact N (fun z => hs (of_decide_eq_true z.1))
              · have hp : pend hw r = true := decide_eq_true hs
                refine wp_aload_n (n := 83) dX10_whenAvailable_82 rfl rfl ?_
                refine wp_iload_n (n := 84) dX10_whenAvailable_83 rfl rfl ?_
                refine wp_iload (n := 86) dX10_whenAvailable_84 rfl rfl ?_
                refine wp_callV2 (n := 89) (rm' := (1, 23, 0, 0)) rfl dX10_whenAvailable_86 rfl mlX10_308 (by repeat first | assumption | exact ax_set_self _ _ _ | exact ax_newA_self _ _ _ | refine (ax_set_ne _ _ (by omega)).trans ?_ | refine (ax_newA_ne _ _ _ (by omega)).trans ?_) rfl rfl rfl rfl rfl ?_
                refine s_X10_availableAt mB hRB hr0 s4 s6 ?_
                show WP Γ _ _ _ _ _ _ _
                refine wp_iload_n (n := 90) dX10_whenAvailable_89 rfl rfl ?_
                refine wp_icmp_lt (t := 97) (n := 93) dX10_whenAvailable_90 (by decide) rfl (fun hv => ?_) (fun hv => ?_)
                · exact N (fun z => av.mp z.2 hv)
                · refine wp_iconst (n := 94) (v := nI 1) dX10_whenAvailable_93 rfl (by decide) ?_
                  refine wp_goto (t := 98) dX10_whenAvailable_94 (by decide) ?_
                  refine wp_istore (n := 100) dX10_whenAvailable_98 rfl rfl rfl rfl ?_
                  refine wp_iload (n := 102) dX10_whenAvailable_100 rfl rfl ?_
                  refine wp_if_eq (t := 121) (n := 105) dX10_whenAvailable_102 (by decide) rfl (fun hy => ?_) (fun hy => ?_)
                  · exact absurd hy (by decide)
                  · refine wp_iload_n (n := 106) dX10_whenAvailable_105 rfl rfl ?_
                    refine wp_iconst (n := 107) (v := (-1)) dX10_whenAvailable_106 rfl (by decide) ?_
                    refine wp_icmp_eq (t := 116) (n := 110) dX10_whenAvailable_107 (by decide) rfl (fun hw9 => ?_) (fun hw9 => ?_)
                    · exact yes ⟨hp, Or.inl hw9, av.mpr hv⟩ _
                    · refine wp_iload (n := 112) dX10_whenAvailable_110 rfl rfl ?_
                      refine wp_iload_n (n := 113) dX10_whenAvailable_112 rfl rfl ?_
                      refine wp_icmp_ge (t := 121) (n := 116) dX10_whenAvailable_113 (by decide) rfl (fun hx9 => ?_) (fun hx9 => ?_)
                      · exact no (fun z => z.2.1.elim hw9 (fun q => absurd q (Int32.not_lt.mpr hx9))) _
                      · exact yes ⟨hp, Or.inr (i32_not_le hx9), av.mpr hv⟩ _
          · rw [if_neg hc] at kk
            refine wp_aload_n (n := 41) dX10_whenAvailable_40 rfl rfl ?_
            refine wp_getf (n := 44) dX10_whenAvailable_41 rfl flX10_9 (by repeat first | assumption | exact ax_set_self _ _ _ | exact ax_newA_self _ _ _ | refine (ax_set_ne _ _ (by omega)).trans ?_ | refine (ax_newA_ne _ _ _ (by omega)).trans ?_) (by rfl) ?_
            refine wp_iconst (n := 45) (v := nI 2) dX10_whenAvailable_44 rfl (by decide) ?_
            refine wp_iald (n := 46) _ dX10_whenAvailable_45 rfl (by repeat first | assumption | exact ax_set_self _ _ _ | exact ax_newA_self _ _ _ | refine (ax_set_ne _ _ (by omega)).trans ?_ | refine (ax_newA_ne _ _ _ (by omega)).trans ?_) rfl (by omega) (by decide) ?_
            rw [r2]
            exact wp_ireturn dX10_whenAvailable_46 rfl rfl (kk)
        · exact absurd rfl hq
end
