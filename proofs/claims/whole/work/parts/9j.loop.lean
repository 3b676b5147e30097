/-! ===== the law: a step, the loop, the start ===== -/
section
variable {Γ : GE} {h : AH} {Q : PO} {p m sa N i0 c0 s0 : Nat} {S : FI}
theorem lw_step (hsim : Sim Γ h p m sa N S) (hi : i0 + 5 ≤ N) (k : ∀ h', Sim Γ h' p m sa N S → WP Γ ML_law (10, 196, c0, s0) 3329 [some (.ref sa), some (.ref p), some (.ref m), some (.ref (m + 12)), some (.ref (m + 13)), some (.int (nI i0)), none, none, none, none] [] h' Q) : WP Γ ML_law (10, 196, c0 + 20, s0 + 4409) 37 [some (.ref sa), some (.ref p), some (.ref m), some (.ref (m + 12)), some (.ref (m + 13)), some (.int (nI i0)), none, none, none, none] [] h Q := by
  have hsim0 := hsim
  obtain ⟨hA, hs, ho, b, D, er, bs, len, f, K, KS, c1, hP, hM⟩ := hsim
  obtain ⟨⟨np, qu, ra, re, le, ln⟩, ⟨nb, pl, tm⟩, ⟨ne, rw, bk⟩, ⟨nh, hw⟩, ⟨nc, cw⟩, t, y⟩ := K
  obtain ⟨hsa, hsl, hN, _⟩ := id hs
  refine wp_aload_n (n := 38) dL_law_37 rfl rfl ?_
  refine wp_iload (n := 40) dL_law_38 rfl rfl ?_
  refine wp_iald (n := 41) (i0) dL_law_40 rfl hsa rfl (by omega) (by omega) ?_
  refine wp_bipush (n := 43) (v := nI 63) dL_law_41 rfl (by decide) ?_
  refine wp_iand (n := 44) dL_law_43 rfl ?_
  generalize S i0 &&& nI 63 = x
  by_cases q : x.toInt < 0 ∨ 55 < x.toInt
  · refine wp_tableOut (t := 3329) dL_law_44 q (by decide) ?_
    exact wp_big (rm := (10, 196, c0, s0)) (Nat.le_refl _) (Nat.le_refl _) (Nat.le_add_right _ _) (Nat.le_add_right _ _) (k h hsim0)
  · by_cases q0_27 : x.toInt ≤ 27
    · by_cases q0_13 : x.toInt ≤ 13
      · by_cases q0_6 : x.toInt ≤ 6
        · by_cases q0_3 : x.toInt ≤ 3
          · by_cases q0_1 : x.toInt ≤ 1
            · by_cases q0_0 : x.toInt ≤ 0
              · have hk : x.toInt = 0 := by omega
                exact wp_tableIn (t := 284) (off := 240) dL_law_44 (by omega) (by omega) (by rw [hk]; rfl) (by decide) (cs_appendByte hA hs ho c1 hP hM hi k)
              · have hk : x.toInt = 1 := by omega
                exact wp_tableIn (t := 340) (off := 296) dL_law_44 (by omega) (by omega) (by rw [hk]; rfl) (by decide) (cs_load hA hs ho c1 hP hM hi k)
            · by_cases q2_2 : x.toInt ≤ 2
              · have hk : x.toInt = 2 := by omega
                exact wp_tableIn (t := 353) (off := 309) dL_law_44 (by omega) (by omega) (by rw [hk]; rfl) (by decide) (cs_textError hA hs ho c1 hP hM hi k)
              · have hk : x.toInt = 3 := by omega
                exact wp_tableIn (t := 366) (off := 322) dL_law_44 (by omega) (by omega) (by rw [hk]; rfl) (by decide) (cs_poolNamed hA hs ho c1 hP hM hi k)
          · by_cases q4_5 : x.toInt ≤ 5
            · by_cases q4_4 : x.toInt ≤ 4
              · have hk : x.toInt = 4 := by omega
                exact wp_tableIn (t := 379) (off := 335) dL_law_44 (by omega) (by omega) (by rw [hk]; rfl) (by decide) (cs_blockCount hA hs ho c1 hP hM hi k)
              · have hk : x.toInt = 5 := by omega
                exact wp_tableIn (t := 392) (off := 348) dL_law_44 (by omega) (by omega) (by rw [hk]; rfl) (by decide) (cs_poolCount hA hs ho c1 hP hM hi k)
            · have hk : x.toInt = 6 := by omega
              exact wp_tableIn (t := 405) (off := 361) dL_law_44 (by omega) (by omega) (by rw [hk]; rfl) (by decide) (cs_nameByte hA hs ho c1 hP hM hi k)
        · by_cases q7_10 : x.toInt ≤ 10
          · by_cases q7_8 : x.toInt ≤ 8
            · by_cases q7_7 : x.toInt ≤ 7
              · have hk : x.toInt = 7 := by omega
                exact wp_tableIn (t := 473) (off := 429) dL_law_44 (by omega) (by omega) (by rw [hk]; rfl) (by decide) (cs_now hA hs ho c1 hP hM hi k)
              · have hk : x.toInt = 8 := by omega
                exact wp_tableIn (t := 486) (off := 442) dL_law_44 (by omega) (by omega) (by rw [hk]; rfl) (by decide) (cs_advance hA hs ho c1 hP hM hi k)
            · by_cases q9_9 : x.toInt ≤ 9
              · have hk : x.toInt = 9 := by omega
                exact wp_tableIn (t := 542) (off := 498) dL_law_44 (by omega) (by omega) (by rw [hk]; rfl) (by decide) (cs_setPick hA hs ho c1 hP hM hi k)
              · have hk : x.toInt = 10 := by omega
                exact wp_tableIn (t := 598) (off := 554) dL_law_44 (by omega) (by omega) (by rw [hk]; rfl) (by decide) (cs_transfer hA hs ho c1 hP hM hi k)
          · by_cases q11_12 : x.toInt ≤ 12
            · by_cases q11_11 : x.toInt ≤ 11
              · have hk : x.toInt = 11 := by omega
                exact wp_tableIn (t := 690) (off := 646) dL_law_44 (by omega) (by omega) (by rw [hk]; rfl) (by decide) (cs_transferBlock hA hs ho c1 hP hM hi k)
              · have hk : x.toInt = 12 := by omega
                exact wp_tableIn (t := 770) (off := 726) dL_law_44 (by omega) (by omega) (by rw [hk]; rfl) (by decide) (cs_reverse hA hs ho c1 hP hM hi k)
            · have hk : x.toInt = 13 := by omega
              exact wp_tableIn (t := 826) (off := 782) dL_law_44 (by omega) (by omega) (by rw [hk]; rfl) (by decide) (cs_reserve hA hs ho c1 hP hM hi k)
      · by_cases q14_20 : x.toInt ≤ 20
        · by_cases q14_17 : x.toInt ≤ 17
          · by_cases q14_15 : x.toInt ≤ 15
            · by_cases q14_14 : x.toInt ≤ 14
              · have hk : x.toInt = 14 := by omega
                exact wp_tableIn (t := 918) (off := 874) dL_law_44 (by omega) (by omega) (by rw [hk]; rfl) (by decide) (cs_commit hA hs ho c1 hP hM hi k)
              · have hk : x.toInt = 15 := by omega
                exact wp_tableIn (t := 986) (off := 942) dL_law_44 (by omega) (by omega) (by rw [hk]; rfl) (by decide) (cs_release hA hs ho c1 hP hM hi k)
            · by_cases q16_16 : x.toInt ≤ 16
              · have hk : x.toInt = 16 := by omega
                exact wp_tableIn (t := 1042) (off := 998) dL_law_44 (by omega) (by omega) (by rw [hk]; rfl) (by decide) (cs_extend hA hs ho c1 hP hM hi k)
              · have hk : x.toInt = 17 := by omega
                exact wp_tableIn (t := 1110) (off := 1066) dL_law_44 (by omega) (by omega) (by rw [hk]; rfl) (by decide) (cs_batch hA hs ho c1 hP hM hi k)
          · by_cases q18_19 : x.toInt ≤ 19
            · by_cases q18_18 : x.toInt ≤ 18
              · have hk : x.toInt = 18 := by omega
                exact wp_tableIn (t := 1123) (off := 1079) dL_law_44 (by omega) (by omega) (by rw [hk]; rfl) (by decide) (cs_balance hA hs ho c1 hP hM hi k)
              · have hk : x.toInt = 19 := by omega
                exact wp_tableIn (t := 1179) (off := 1135) dL_law_44 (by omega) (by omega) (by rw [hk]; rfl) (by decide) (cs_booked hA hs ho c1 hP hM hi k)
            · have hk : x.toInt = 20 := by omega
              exact wp_tableIn (t := 1235) (off := 1191) dL_law_44 (by omega) (by omega) (by rw [hk]; rfl) (by decide) (cs_available hA hs ho c1 hP hM hi k)
        · by_cases q21_24 : x.toInt ≤ 24
          · by_cases q21_22 : x.toInt ≤ 22
            · by_cases q21_21 : x.toInt ≤ 21
              · have hk : x.toInt = 21 := by omega
                exact wp_tableIn (t := 1291) (off := 1247) dL_law_44 (by omega) (by omega) (by rw [hk]; rfl) (by decide) (cs_room hA hs ho c1 hP hM hi k)
              · have hk : x.toInt = 22 := by omega
                exact wp_tableIn (t := 1347) (off := 1303) dL_law_44 (by omega) (by omega) (by rw [hk]; rfl) (by decide) (cs_largestTransfer hA hs ho c1 hP hM hi k)
            · by_cases q23_23 : x.toInt ≤ 23
              · have hk : x.toInt = 23 := by omega
                exact wp_tableIn (t := 1415) (off := 1371) dL_law_44 (by omega) (by omega) (by rw [hk]; rfl) (by decide) (cs_poolOf hA hs ho c1 hP hM hi k)
              · have hk : x.toInt = 24 := by omega
                exact wp_tableIn (t := 1471) (off := 1427) dL_law_44 (by omega) (by omega) (by rw [hk]; rfl) (by decide) (cs_since hA hs ho c1 hP hM hi k)
          · by_cases q25_26 : x.toInt ≤ 26
            · by_cases q25_25 : x.toInt ≤ 25
              · have hk : x.toInt = 25 := by omega
                exact wp_tableIn (t := 1527) (off := 1483) dL_law_44 (by omega) (by omega) (by rw [hk]; rfl) (by decide) (cs_blockAt hA hs ho c1 hP hM hi k)
              · have hk : x.toInt = 26 := by omega
                exact wp_tableIn (t := 1595) (off := 1551) dL_law_44 (by omega) (by omega) (by rw [hk]; rfl) (by decide) (cs_wouldPick hA hs ho c1 hP hM hi k)
            · have hk : x.toInt = 27 := by omega
              exact wp_tableIn (t := 1675) (off := 1631) dL_law_44 (by omega) (by omega) (by rw [hk]; rfl) (by decide) (cs_runCount hA hs ho c1 hP hM hi k)
    · by_cases q28_41 : x.toInt ≤ 41
      · by_cases q28_34 : x.toInt ≤ 34
        · by_cases q28_31 : x.toInt ≤ 31
          · by_cases q28_29 : x.toInt ≤ 29
            · by_cases q28_28 : x.toInt ≤ 28
              · have hk : x.toInt = 28 := by omega
                exact wp_tableIn (t := 1731) (off := 1687) dL_law_44 (by omega) (by omega) (by rw [hk]; rfl) (by decide) (cs_longestRun hA hs ho c1 hP hM hi k)
              · have hk : x.toInt = 29 := by omega
                exact wp_tableIn (t := 1787) (off := 1743) dL_law_44 (by omega) (by omega) (by rw [hk]; rfl) (by decide) (cs_fragmentation hA hs ho c1 hP hM hi k)
            · by_cases q30_30 : x.toInt ≤ 30
              · have hk : x.toInt = 30 := by omega
                exact wp_tableIn (t := 1865) (off := 1821) dL_law_44 (by omega) (by omega) (by rw [hk]; rfl) (by decide) (cs_swap hA hs ho c1 hP hM hi k)
              · have hk : x.toInt = 31 := by omega
                exact wp_tableIn (t := 1940) (off := 1896) dL_law_44 (by omega) (by omega) (by rw [hk]; rfl) (by decide) (cs_bestSwap hA hs ho c1 hP hM hi k)
          · by_cases q32_33 : x.toInt ≤ 33
            · by_cases q32_32 : x.toInt ≤ 32
              · have hk : x.toInt = 32 := by omega
                exact wp_tableIn (t := 1996) (off := 1952) dL_law_44 (by omega) (by omega) (by rw [hk]; rfl) (by decide) (cs_entryCount hA hs ho c1 hP hM hi k)
              · have hk : x.toInt = 33 := by omega
                exact wp_tableIn (t := 2009) (off := 1965) dL_law_44 (by omega) (by omega) (by rw [hk]; rfl) (by decide) (cs_entryValue hA hs ho c1 hP hM hi k)
            · have hk : x.toInt = 34 := by omega
              exact wp_tableIn (t := 2077) (off := 2033) dL_law_44 (by omega) (by omega) (by rw [hk]; rfl) (by decide) (cs_entryBlock hA hs ho c1 hP hM hi k)
        · by_cases q35_38 : x.toInt ≤ 38
          · by_cases q35_36 : x.toInt ≤ 36
            · by_cases q35_35 : x.toInt ≤ 35
              · have hk : x.toInt = 35 := by omega
                exact wp_tableIn (t := 2145) (off := 2101) dL_law_44 (by omega) (by omega) (by rw [hk]; rfl) (by decide) (cs_bookedAt hA hs ho c1 hP hM hi k)
              · have hk : x.toInt = 36 := by omega
                exact wp_tableIn (t := 2213) (off := 2169) dL_law_44 (by omega) (by omega) (by rw [hk]; rfl) (by decide) (cs_peak hA hs ho c1 hP hM hi k)
            · by_cases q37_37 : x.toInt ≤ 37
              · have hk : x.toInt = 37 := by omega
                exact wp_tableIn (t := 2293) (off := 2249) dL_law_44 (by omega) (by omega) (by rw [hk]; rfl) (by decide) (cs_flow hA hs ho c1 hP hM hi k)
              · have hk : x.toInt = 38 := by omega
                exact wp_tableIn (t := 2385) (off := 2341) dL_law_44 (by omega) (by omega) (by rw [hk]; rfl) (by decide) (cs_reasonTotal hA hs ho c1 hP hM hi k)
          · by_cases q39_40 : x.toInt ≤ 40
            · by_cases q39_39 : x.toInt ≤ 39
              · have hk : x.toInt = 39 := by omega
                exact wp_tableIn (t := 2465) (off := 2421) dL_law_44 (by omega) (by omega) (by rw [hk]; rfl) (by decide) (cs_busiest hA hs ho c1 hP hM hi k)
              · have hk : x.toInt = 40 := by omega
                exact wp_tableIn (t := 2533) (off := 2489) dL_law_44 (by omega) (by omega) (by rw [hk]; rfl) (by decide) (cs_reservationCount hA hs ho c1 hP hM hi k)
            · have hk : x.toInt = 41 := by omega
              exact wp_tableIn (t := 2546) (off := 2502) dL_law_44 (by omega) (by omega) (by rw [hk]; rfl) (by decide) (cs_reservationValue hA hs ho c1 hP hM hi k)
      · by_cases q42_48 : x.toInt ≤ 48
        · by_cases q42_45 : x.toInt ≤ 45
          · by_cases q42_43 : x.toInt ≤ 43
            · by_cases q42_42 : x.toInt ≤ 42
              · have hk : x.toInt = 42 := by omega
                exact wp_tableIn (t := 2614) (off := 2570) dL_law_44 (by omega) (by omega) (by rw [hk]; rfl) (by decide) (cs_reservedFrom hA hs ho c1 hP hM hi k)
              · have hk : x.toInt = 43 := by omega
                exact wp_tableIn (t := 2670) (off := 2626) dL_law_44 (by omega) (by omega) (by rw [hk]; rfl) (by decide) (cs_nextExpiry hA hs ho c1 hP hM hi k)
            · by_cases q44_44 : x.toInt ≤ 44
              · have hk : x.toInt = 44 := by omega
                exact wp_tableIn (t := 2683) (off := 2639) dL_law_44 (by omega) (by omega) (by rw [hk]; rfl) (by decide) (cs_whenAvailable hA hs ho c1 hP hM hi k)
              · have hk : x.toInt = 45 := by omega
                exact wp_tableIn (t := 2751) (off := 2707) dL_law_44 (by omega) (by omega) (by rw [hk]; rfl) (by decide) (cs_rent hA hs ho c1 hP hM hi k)
          · by_cases q46_47 : x.toInt ≤ 47
            · by_cases q46_46 : x.toInt ≤ 46
              · have hk : x.toInt = 46 := by omega
                exact wp_tableIn (t := 2829) (off := 2785) dL_law_44 (by omega) (by omega) (by rw [hk]; rfl) (by decide) (cs_totalRent hA hs ho c1 hP hM hi k)
              · have hk : x.toInt = 47 := by omega
                exact wp_tableIn (t := 2872) (off := 2828) dL_law_44 (by omega) (by omega) (by rw [hk]; rfl) (by decide) (cs_rentAhead hA hs ho c1 hP hM hi k)
            · have hk : x.toInt = 48 := by omega
              exact wp_tableIn (t := 2962) (off := 2918) dL_law_44 (by omega) (by omega) (by rw [hk]; rfl) (by decide) (cs_corrupt hA hs ho c1 hP hM hi k)
        · by_cases q49_52 : x.toInt ≤ 52
          · by_cases q49_50 : x.toInt ≤ 50
            · by_cases q49_49 : x.toInt ≤ 49
              · have hk : x.toInt = 49 := by omega
                exact wp_tableIn (t := 3030) (off := 2986) dL_law_44 (by omega) (by omega) (by rw [hk]; rfl) (by decide) (cs_mismatches hA hs ho c1 hP hM hi k)
              · have hk : x.toInt = 50 := by omega
                exact wp_tableIn (t := 3043) (off := 2999) dL_law_44 (by omega) (by omega) (by rw [hk]; rfl) (by decide) (cs_reconcile hA hs ho c1 hP hM hi k)
            · by_cases q51_51 : x.toInt ≤ 51
              · have hk : x.toInt = 51 := by omega
                exact wp_tableIn (t := 3056) (off := 3012) dL_law_44 (by omega) (by omega) (by rw [hk]; rfl) (by decide) (cs_checkpoint hA hs ho c1 hP hM hi k)
              · have hk : x.toInt = 52 := by omega
                exact wp_tableIn (t := 3069) (off := 3025) dL_law_44 (by omega) (by omega) (by rw [hk]; rfl) (by decide) (cs_auditSet hA hs ho c1 hP hM hi k)
          · by_cases q53_54 : x.toInt ≤ 54
            · by_cases q53_53 : x.toInt ≤ 53
              · have hk : x.toInt = 53 := by omega
                exact wp_tableIn (t := 3137) (off := 3093) dL_law_44 (by omega) (by omega) (by rw [hk]; rfl) (by decide) (cs_auditOf hA hs ho c1 hP hM hi k)
              · have hk : x.toInt = 54 := by omega
                exact wp_tableIn (t := 3217) (off := 3173) dL_law_44 (by omega) (by omega) (by rw [hk]; rfl) (by decide) (cs_saveSnapshot hA hs ho c1 hP hM hi k)
            · have hk : x.toInt = 55 := by omega
              exact wp_tableIn (t := 3273) (off := 3229) dL_law_44 (by omega) (by omega) (by rw [hk]; rfl) (by decide) (cs_restoreSnapshot hA hs ho c1 hP hM hi k)
theorem lw_loop (hQ : ∀ h', Q (.inl (some (.int (nI 1)))) h') : ∀ (g i0 : Nat) (h : AH), Sim Γ h p m sa N S → i0 ≤ N → N < i0 + 5 * (g + 1) → WP Γ ML_law (10, 196, 20 * g, 4409 * g) 28 [some (.ref sa), some (.ref p), some (.ref m), some (.ref (m + 12)), some (.ref (m + 13)), some (.int (nI i0)), none, none, none, none] [] h Q := by
  have en : ∀ (rm : RM) (lo : List (Option Value)) (h : AH), WP Γ ML_law rm 3335 lo [] h Q := by
    intro rm lo h
    refine wp_iconst (n := 3336) (v := nI 1) dL_law_3335 rfl (by decide) ?_
    exact wp_ireturn dL_law_3336 rfl rfl (hQ h)
  have cmp : ∀ i0, i0 ≤ N → N ≤ 2560 → (nI N - nI 5 < nI i0 ↔ N < i0 + 5) := by
    intro i0 hi hN
    have e1 := nI_subI (a := N) (b := 5) (by omega) (by omega)
    have e2 := nI_subI (a := i0) (b := 0) (by omega) (by omega)
    have e3 : nI i0 - nI 0 = nI i0 := nI_sub (Nat.zero_le _)
    rw [e3] at e2
    rw [Int32.lt_iff_toInt_lt, e1, e2]
    omega
  intro g
  induction g with
  | zero =>
    intro i0 h hsim hi hg
    obtain ⟨hsa, hsl, hN, _⟩ := hsim.2.1
    refine wp_iload (n := 30) dL_law_28 rfl rfl ?_
    refine wp_aload_n (n := 31) dL_law_30 rfl rfl ?_
    refine wp_alen (n := 32) dL_law_31 rfl hsa rfl ?_
    refine wp_iconst (n := 33) (v := nI 5) dL_law_32 rfl (by decide) ?_
    refine wp_isub (n := 34) dL_law_33 rfl ?_
    refine wp_icmp_gt (t := 3335) (n := 37) dL_law_34 (by decide) rfl (fun hc => ?_) (fun hc => ?_)
    · exact en _ _ _
    · exact absurd ((cmp i0 hi hN).mpr (by omega)) hc
  | succ g ih =>
    intro i0 h hsim hi hg
    obtain ⟨hsa, hsl, hN, _⟩ := hsim.2.1
    refine wp_iload (n := 30) dL_law_28 rfl rfl ?_
    refine wp_aload_n (n := 31) dL_law_30 rfl rfl ?_
    refine wp_alen (n := 32) dL_law_31 rfl hsa rfl ?_
    refine wp_iconst (n := 33) (v := nI 5) dL_law_32 rfl (by decide) ?_
    refine wp_isub (n := 34) dL_law_33 rfl ?_
    refine wp_icmp_gt (t := 3335) (n := 37) dL_law_34 (by decide) rfl (fun hc => ?_) (fun hc => ?_)
    · exact en _ _ _
    · have hi5 : i0 + 5 ≤ N := Classical.byContradiction (fun w => hc ((cmp i0 hi hN).mpr (by omega)))
      rw [Nat.mul_succ, Nat.mul_succ]
      refine lw_step hsim hi5 (fun h2 hsim2 => ?_)
      refine wp_iinc (n := 3332) dL_law_3329 rfl rfl rfl rfl rfl rfl ?_
      refine wp_goto (t := 28) dL_law_3332 (by decide) ?_
      have e5 : nI i0 + Int32.ofInt 5 = nI (i0 + 5) := nI_add i0 5
      rw [e5]
      exact ih (i0 + 5) h2 hsim2 (by omega) (by omega)
theorem lw_start (hz : h.1 = p) (hA : Γ.2.1 ≤ p) (hs : ScrP Γ h sa N S) (hQ : ∀ h', Q (.inl (some (.int (nI 1)))) h') : WP Γ ML_law (10, 196, 10299, 2294544) 0 [some (.ref sa), none, none, none, none, none, none, none, none, none] [] h Q := by
  have hs0 := hs
  obtain ⟨hsa, hsl, hN, hf1, fn, hf2, hf3⟩ := hs
  refine wp_newA (n := 3) p dL_law_0 rfl hz nlL_8 rfl rfl ?_
  refine wp_dup (n := 4) dL_law_3 rfl rfl ?_
  refine wp_callI (n := 7) (rm' := (3, 100, 44, 9819)) dL_law_4 rfl mlL_146 [] rfl rfl rfl rfl rfl (Nat.le_of_ble_eq_true rfl) rfl ?_
  refine s_X9_init (ax_newA_self _ _ _) rfl hA ⟨hf1, fn, (ax_newA_ne _ _ _ (by omega)).trans hf2, hf3⟩ (fun h1 K z1 f1 F1 T1 R31 B1 S1 G1 L1 X1 => ?_)
  show WP Γ _ _ _ _ _ _ _
  refine wp_astore_n (n := 8) dL_law_7 rfl rfl rfl rfl ?_
  refine wp_newA (n := 11) (p + 45) dL_law_8 rfl z1 nlL_147 rfl rfl ?_
  refine wp_dup (n := 12) dL_law_11 rfl rfl ?_
  refine wp_callI (n := 15) (rm' := (1, 60, 11, 27289)) dL_law_12 rfl mlL_149 [] rfl rfl rfl rfl rfl (Nat.le_of_ble_eq_true rfl) rfl ?_
  refine s_X10_init (m := p + 45) (ax_newA_self _ _ _) rfl (by omega) (fun h2 R2 z2 f2 M2 c1 bR cc => ?_)
  obtain ⟨c2, c3, c4, c5, c6, c7, c8, c9, c10, c11⟩ := cc
  show WP Γ _ _ _ _ _ _ _
  refine wp_astore_n (n := 16) dL_law_15 rfl rfl rfl rfl ?_
  refine wp_iconst (n := 17) (v := nI 1) dL_law_16 rfl (by decide) ?_
  refine wp_newaA (n := 19) (p + 45 + 12) 1 (ty := .long) (1, .inr (.inl (fun _ => 0))) dL_law_17 rfl z2 rfl ac_long rfl (by decide) rfl (fun _ => rfl) (fun _ q => by cases q) (by decide) rfl rfl ?_
  refine wp_astore_n (n := 20) dL_law_19 rfl rfl rfl rfl ?_
  refine wp_iconst (n := 21) (v := nI 1) dL_law_20 rfl (by decide) ?_
  refine wp_newaA (n := 23) (p + 45 + 13) 1 (ty := .double) (1, .inr (.inr (.inr (.inl (fun _ => 0))))) dL_law_21 rfl rfl rfl ac_double rfl (by decide) rfl (fun _ => rfl) (fun _ q => by cases q) (by decide) rfl rfl ?_
  refine wp_astore (n := 25) dL_law_23 rfl rfl rfl rfl ?_
  refine wp_iconst (n := 26) (v := 0) dL_law_25 rfl (by decide) ?_
  refine wp_istore (n := 28) dL_law_26 rfl rfl rfl rfl ?_
  obtain ⟨w1, w2, w3, w4⟩ := beg_row bR (by omega) (by omega) G1
  have g2 : ∀ c, c < p + 45 + 12 → (ax_newA (ax_newA h2 (p + 45 + 12) (.inl (.long, 1, .inr (.inl (fun _ => 0))))) (p + 45 + 13) (.inl (.double, 1, .inr (.inr (.inr (.inl (fun _ => 0))))))).2 c = h2.2 c := fun c hc => (ax_newA_ne _ _ _ (by omega)).trans (ax_newA_ne _ _ _ (by omega))
  have g1 : ∀ c, c < p + 45 → (ax_newA (ax_newA h2 (p + 45 + 12) (.inl (.long, 1, .inr (.inl (fun _ => 0))))) (p + 45 + 13) (.inl (.double, 1, .inr (.inr (.inr (.inl (fun _ => 0))))))).2 c = h1.2 c := fun c hc => (g2 c (by omega)).trans ((f2 c hc).trans (ax_newA_ne _ _ _ (by omega)))
  have g0 : ∀ c, c < p → (ax_newA (ax_newA h2 (p + 45 + 12) (.inl (.long, 1, .inr (.inl (fun _ => 0))))) (p + 45 + 13) (.inl (.double, 1, .inr (.inr (.inr (.inl (fun _ => 0))))))).2 c = h.2 c := fun c hc => (g1 c (by omega)).trans ((f1 c hc).trans (ax_newA_ne _ _ _ (by omega)))
  refine wp_big (rm := (10, 196, 20 * 512, 4409 * 512)) (Nat.le_refl _) (Nat.le_refl _) (Nat.le_of_ble_eq_true rfl) (Nat.le_of_ble_eq_true rfl) (lw_loop (p := p) (m := p + 45) (N := N) (S := S) hQ 512 0 _ ?_ (Nat.zero_le _) (by omega))
  refine ⟨hA, hs0.ext hA g0, ⟨⟨_, (ax_newA_ne _ _ _ (by omega)).trans (ax_newA_self _ _ _)⟩, _, ax_newA_self _ _ _⟩, p + 7, p + 26, 0, fun _ => 0, 0, fun _ => none, K, fun _ => K, ?_, ?_, ?_⟩
  · refine ⟨(g1 _ (by omega)).trans F1, T1.ext (fun c _ _ => g1 c (by omega)), (g1 _ (by omega)).trans R31, ⟨0, _, (g1 _ (by omega)).trans B1.1, (g1 _ (by omega)).trans B1.2⟩, (g1 _ (by omega)).trans S1, L1.ext (fun c _ _ => g1 c (by omega)), X1.ext (fun c _ _ => g1 c (by omega)), Or.inl ⟨rfl, rfl⟩, rfl, ?_, fun j s _ hs => (by cases hs), fun s s' hs => (by cases hs)⟩
    show p + 45 + 14 ≤ p + 45 + 13 + 1
    omega
  · exact ⟨by omega, w2, fun j s _ hs => by cases hs⟩
  · refine ⟨⟨0, 0, 0, 0, 0, 0, ModC.mv (g2 _ (by omega)) M2⟩, ⟨R2, (g2 _ (by omega)).trans c1, w1⟩, ⟨_, (g2 _ (by omega)).trans c2⟩, ⟨_, (g2 _ (by omega)).trans c3⟩, ⟨_, (g2 _ (by omega)).trans c5, fun j hj => ?_⟩, ⟨_, (g2 _ (by omega)).trans c6⟩, ⟨_, (g2 _ (by omega)).trans c9⟩, ⟨_, (g2 _ (by omega)).trans c10, fun i hi => absurd hi (by omega)⟩, ⟨_, (g2 _ (by omega)).trans c11⟩, _, _, _, (g2 _ (by omega)).trans c4, (g2 _ (by omega)).trans c7, (g2 _ (by omega)).trans c8, fun j _ => ⟨fun _ => rfl, fun _ => rfl⟩, fun j s _ hs => by cases hs⟩
    obtain rfl : j = 0 := by omega
    rw [w3]
    rfl
end
