/-! ===== the reference: fragmentation, entryBlock, wouldPick ===== -/

theorem nthR_succ (P : Nat → Bool) (i : Int32) (g j c : Nat) : nthR P i (g + 1) j c = if P j = true then (if nI c = i then nI j else nthR P i g (j + 1) (c + 1)) else nthR P i g (j + 1) c := rfl
theorem nthR_congr {P P' : Nat → Bool} {i : Int32} : ∀ g j c, (∀ d, j ≤ d → d < j + g → P d = P' d) → nthR P i g j c = nthR P' i g j c
  | 0, _, _, _ => rfl
  | g + 1, j, c, h => by
    simp only [nthR]
    rw [h j (Nat.le_refl _) (by omega), nthR_congr g (j + 1) (c + 1) (fun d h1 h2 => h d (by omega) (by omega)), nthR_congr g (j + 1) c (fun d h1 h2 => h d (by omega) (by omega))]
theorem nthR_none {P : Nat → Bool} {i : Int32} : ∀ g j c, (∀ d, j ≤ d → d < j + g → P d = false) → nthR P i g j c = -1
  | 0, _, _, _ => rfl
  | g + 1, j, c, h => by
    simp only [nthR]
    rw [h j (Nat.le_refl _) (by omega), if_neg (by decide)]
    exact nthR_none g (j + 1) c (fun d h1 h2 => h d (by omega) (by omega))
theorem nthR_more {P : Nat → Bool} {i : Int32} : ∀ g g' j c, (∀ d, j + g ≤ d → d < j + g + g' → P d = false) → nthR P i (g + g') j c = nthR P i g j c
  | 0, g', j, c, h => by
    rw [Nat.zero_add]
    exact nthR_none g' j c (fun d h1 h2 => h d (by omega) (by omega))
  | g + 1, g', j, c, h => by
    rw [show g + 1 + g' = (g + g') + 1 by omega]
    simp only [nthR]
    rw [nthR_more g g' (j + 1) (c + 1) (fun d h1 h2 => h d (by omega) (by omega)), nthR_more g g' (j + 1) c (fun d h1 h2 => h d (by omega) (by omega))]
theorem sub_one9 (z : Int32) (c : Nat) : z - nI c - nI 1 = z - nI (c + 1) := by
  rw [← i32_sub_add, nI_add]

section
variable {Γ : GE} {h : AH} {Q : PO} {m a np nb ne nh nc y : Nat} {R : FI} {qu ra le ln pl tm rw hw cw pk : FI} {re : Nat → UInt32} {bk : Nat → Int64} {t x z w v th tl at' bg er ea lr cm : Int32}
theorem s_X10_fragmentation (hM : ModC h m a th tl at' bg er ea lr cm) (hR : h.2 a = some (.inl (.int, 5061, .inl R))) (hr : RowR R np qu ra re le ln nb pl tm ne rw bk nh hw nc cw t y) (hI : Inv np qu ra re le ln nb pl tm ne rw bk nh hw nc cw t y) (hA : Γ.2.1 ≤ m) (ham : ¬ a = m) 
    (k1 : inN x np = false → ∀ h', ax_fr m (m + 1) h h' → ModC h' m a (nI 1) tl at' bg er ea lr cm → Q (.inl (some (.float FP.fconst0))) h')
    (k : ∀ j, j < np → x = nI j → ∀ h', ax_fr m (m + 1) h h' → ModC h' m a (0) tl at' bg er ea lr cm → Q (.inl (some (.float (frgF pl (nI j) nb)))) h') : WP Γ MX10_fragmentation (2, 84, 0, 0) 0 [some (.ref m), some (.int x)] [] h Q := by
  have hM0 := hM
  unfold ModC at hM
  have hI0 := hI
  have hr0 := hr
  obtain ⟨⟨s1, s2, s3, s4, s5, s6, s7, s8, tn, s9, s10⟩, IM, IP, IJ, IR, IC⟩ := hI
  obtain ⟨⟨r0, r1, r2, r3, r4, r5, r6⟩, rM, rP, rJ, rH, rC⟩ := hr
  refine wp_aload_n (n := 1) dX10_fragmentation_0 rfl rfl ?_
  refine wp_aload_n (n := 2) dX10_fragmentation_1 rfl rfl ?_
  refine wp_iload_n (n := 3) dX10_fragmentation_2 rfl rfl ?_
  refine wp_callV1 (n := 6) (rm' := (1, 22, 0, 0)) rfl dX10_fragmentation_3 rfl mlX10_109 (by repeat first | assumption | exact ax_set_self _ _ _ | exact ax_newA_self _ _ _ | refine (ax_set_ne _ _ (by omega)).trans ?_ | refine (ax_newA_ne _ _ _ (by omega)).trans ?_) rfl rfl rfl rfl rfl ?_
  refine s_X10_isPool hM0 hR r1 s2 ?_
  show WP Γ _ _ _ _ _ _ _
  refine wp_iconst (n := 7) (v := nI 1) dX10_fragmentation_6 rfl (by decide) ?_
  refine wp_callV2 (n := 10) (rm' := (0, 0, 0, 0)) rfl dX10_fragmentation_7 rfl mlX10_113 (by repeat first | assumption | exact ax_set_self _ _ _ | exact ax_newA_self _ _ _ | refine (ax_set_ne _ _ (by omega)).trans ?_ | refine (ax_newA_ne _ _ _ (by omega)).trans ?_) rfl rfl rfl rfl rfl ?_
  refine s_X10_isThrown hM0 hA (fun hB f1 mB => ?_)
  show WP Γ _ _ _ _ _ _ _
  have fB := f1
  have hRB := fB.get hR (by omega)
  cases hx1 : inN x np with
  | false =>
    rw [hx1] at mB
    refine wp_if_ne (t := 21) (n := 13) dX10_fragmentation_10 (by decide) rfl (fun hq => ?_) (fun hq => ?_)
    · refine wp_fconst0 (n := 22) dX10_fragmentation_21 rfl ?_
      exact wp_freturn dX10_fragmentation_22 rfl (k1 hx1 hB fB mB)
    · exact absurd hq (by decide)
  | true =>
    rw [hx1] at mB
    have mB' := mB
    unfold ModC at mB'
    refine wp_if_ne (t := 21) (n := 13) dX10_fragmentation_10 (by decide) rfl (fun hq => ?_) (fun hq => ?_)
    · exact absurd rfl hq
    · skip
      obtain ⟨j, j1, rfl⟩ := inN_get (n := np) (by omega) (of_decide_eq_true hx1).1 (of_decide_eq_true hx1).2
      have kk := k j j1 rfl hB fB mB
      unfold frgF at kk
      have c1 := cnt_le pl (nI j) nb
      have c2 := longR_le pl (nI j) nb
      refine wp_aload_n (n := 14) dX10_fragmentation_13 rfl rfl ?_
      refine wp_iload_n (n := 15) dX10_fragmentation_14 rfl rfl ?_
      refine wp_callV1 (n := 18) (rm' := (0, 0, 0, 0)) rfl dX10_fragmentation_15 rfl mlX10_62 (by repeat first | assumption | exact ax_set_self _ _ _ | exact ax_newA_self _ _ _ | refine (ax_set_ne _ _ (by omega)).trans ?_ | refine (ax_newA_ne _ _ _ (by omega)).trans ?_) rfl rfl rfl rfl rfl ?_
      refine s_X10_balanceOf mB hRB r0 rM s4 ?_
      show WP Γ _ _ _ _ _ _ _
      refine wp_if_ne (t := 23) (n := 21) dX10_fragmentation_18 (by decide) rfl (fun hc => ?_) (fun hc => ?_)
      · have hc0 : ¬ cnt pl (nI j) nb = 0 := fun q => hc (by rw [q]; rfl)
        rw [if_neg hc0] at kk
        have f1 := nn_div (a := nI (longR pl (nI j) nb)) (b := nI (cnt pl (nI j) nb)) (by rw [nI_toInt (by omega)]; omega) (by rw [nI_toInt (by omega)]; omega)
        have f2 := nn_sub f1
        refine wp_fconst1 (n := 24) dX10_fragmentation_23 rfl ?_
        refine wp_aload_n (n := 25) dX10_fragmentation_24 rfl rfl ?_
        refine wp_iload_n (n := 26) dX10_fragmentation_25 rfl rfl ?_
        refine wp_callV1 (n := 29) (rm' := (1, 60, 0, 0)) rfl dX10_fragmentation_26 rfl mlX10_290 (by repeat first | assumption | exact ax_set_self _ _ _ | exact ax_newA_self _ _ _ | refine (ax_set_ne _ _ (by omega)).trans ?_ | refine (ax_newA_ne _ _ _ (by omega)).trans ?_) rfl rfl rfl rfl rfl ?_
        refine s_X10_longestOf mB hRB r0 rM s4 ?_
        show WP Γ _ _ _ _ _ _ _
        refine wp_i2f (n := 30) dX10_fragmentation_29 rfl ?_
        refine wp_aload_n (n := 31) dX10_fragmentation_30 rfl rfl ?_
        refine wp_iload_n (n := 32) dX10_fragmentation_31 rfl rfl ?_
        refine wp_callV1 (n := 35) (rm' := (0, 0, 0, 0)) rfl dX10_fragmentation_32 rfl mlX10_62 (by repeat first | assumption | exact ax_set_self _ _ _ | exact ax_newA_self _ _ _ | refine (ax_set_ne _ _ (by omega)).trans ?_ | refine (ax_newA_ne _ _ _ (by omega)).trans ?_) rfl rfl rfl rfl rfl ?_
        refine s_X10_balanceOf mB hRB r0 rM s4 ?_
        show WP Γ _ _ _ _ _ _ _
        refine wp_i2f (n := 36) dX10_fragmentation_35 rfl ?_
        refine wp_fdiv (n := 37) dX10_fragmentation_36 rfl (n32_of f1) ?_
        refine wp_fsub (n := 38) dX10_fragmentation_37 rfl (n32_of f2) ?_
        exact wp_freturn dX10_fragmentation_38 rfl (kk)
      · have hc0 : cnt pl (nI j) nb = 0 := (nI_eq9 (b := 0) (by omega) (by omega)).mp hc
        rw [if_pos hc0] at kk
        refine wp_fconst0 (n := 22) dX10_fragmentation_21 rfl ?_
        exact wp_freturn dX10_fragmentation_22 rfl (kk)
theorem s_X10_entryBlock (hM : ModC h m a th tl at' bg er ea lr cm) (hR : h.2 a = some (.inl (.int, 5061, .inl R))) (hr : RowR R np qu ra re le ln nb pl tm ne rw bk nh hw nc cw t y) (hI : Inv np qu ra re le ln nb pl tm ne rw bk nh hw nc cw t y) (hA : Γ.2.1 ≤ m) (ham : ¬ a = m) 
    (k1 : inN x ne = false → ∀ h', ax_fr m (m + 1) h h' → ModC h' m a (nI 1) tl at' bg er ea lr cm → Q (.inl (some (.int 0))) h')
    (k : ∀ e, e < ne → x = nI e → ∀ h', ax_fr m (m + 1) h h' → ModC h' m a (0) tl at' bg er ea lr cm → Q (.inl (some (.int (nthR (blk bk e) z nb 0 0)))) h') : WP Γ MX10_entryBlock (2, 44, 0, 0) 0 [some (.ref m), some (.int x), some (.int z), none, none] [] h Q := by
  have hM0 := hM
  unfold ModC at hM
  have hI0 := hI
  have hr0 := hr
  obtain ⟨⟨s1, s2, s3, s4, s5, s6, s7, s8, tn, s9, s10⟩, IM, IP, IJ, IR, IC⟩ := hI
  obtain ⟨⟨r0, r1, r2, r3, r4, r5, r6⟩, rM, rP, rJ, rH, rC⟩ := hr
  refine wp_aload_n (n := 1) dX10_entryBlock_0 rfl rfl ?_
  refine wp_aload_n (n := 2) dX10_entryBlock_1 rfl rfl ?_
  refine wp_iload_n (n := 3) dX10_entryBlock_2 rfl rfl ?_
  refine wp_callV1 (n := 6) (rm' := (1, 22, 0, 0)) rfl dX10_entryBlock_3 rfl mlX10_130 (by repeat first | assumption | exact ax_set_self _ _ _ | exact ax_newA_self _ _ _ | refine (ax_set_ne _ _ (by omega)).trans ?_ | refine (ax_newA_ne _ _ _ (by omega)).trans ?_) rfl rfl rfl rfl rfl ?_
  refine s_X10_isEntry hM0 hR r4 s5 ?_
  show WP Γ _ _ _ _ _ _ _
  refine wp_iconst (n := 7) (v := nI 1) dX10_entryBlock_6 rfl (by decide) ?_
  refine wp_callV2 (n := 10) (rm' := (0, 0, 0, 0)) rfl dX10_entryBlock_7 rfl mlX10_113 (by repeat first | assumption | exact ax_set_self _ _ _ | exact ax_newA_self _ _ _ | refine (ax_set_ne _ _ (by omega)).trans ?_ | refine (ax_newA_ne _ _ _ (by omega)).trans ?_) rfl rfl rfl rfl rfl ?_
  refine s_X10_isThrown hM0 hA (fun hB f1 mB => ?_)
  show WP Γ _ _ _ _ _ _ _
  have fB := f1
  have hRB := fB.get hR (by omega)
  cases hx1 : inN x ne with
  | false =>
    rw [hx1] at mB
    refine wp_if_eq (t := 15) (n := 13) dX10_entryBlock_10 (by decide) rfl (fun hq => ?_) (fun hq => ?_)
    · exact absurd hq (by decide)
    · refine wp_iconst (n := 14) (v := 0) dX10_entryBlock_13 rfl (by decide) ?_
      exact wp_ireturn dX10_entryBlock_14 rfl rfl (k1 hx1 hB fB mB)
  | true =>
    rw [hx1] at mB
    have mB' := mB
    unfold ModC at mB'
    refine wp_if_eq (t := 15) (n := 13) dX10_entryBlock_10 (by decide) rfl (fun hq => ?_) (fun hq => ?_)
    · skip
      obtain ⟨e, e1, rfl⟩ := inN_get (n := ne) (by omega) (of_decide_eq_true hx1).1 (of_decide_eq_true hx1).2
      have kk := k e e1 rfl hB fB mB
      have hbn := (IJ.1 e e1).2.2.2.2.2
      by_cases hz0 : z < 0
      · rw [nthR_neg hz0 _ _ _ (by omega)] at kk
        refine wp_iload_n (n := 16) dX10_entryBlock_15 rfl rfl ?_
        refine wp_istore_n (n := 17) dX10_entryBlock_16 rfl rfl rfl rfl ?_
        refine wp_iconst (n := 18) (v := 0) dX10_entryBlock_17 rfl (by decide) ?_
        refine wp_istore (n := 20) dX10_entryBlock_18 rfl rfl rfl rfl ?_
        refine wp_iload_n (n := 21) dX10_entryBlock_20 rfl rfl ?_
        refine wp_if_lt (t := 73) (n := 24) dX10_entryBlock_21 (by decide) rfl (fun hc => ?_) (fun hc => ?_)
        · refine wp_iconst (n := 74) (v := (-1)) dX10_entryBlock_73 rfl (by decide) ?_
          exact wp_ireturn dX10_entryBlock_74 rfl rfl (kk)
        · exact absurd hz0 hc
      · have e9 : nthR (blk bk e) z 200 0 0 = nthR (blk bk e) z nb 0 0 := by
          have := nthR_more (P := blk bk e) (i := z) nb (200 - nb) 0 0 (fun d h1 h2 => Bool.eq_false_iff.mpr (fun q => by have := hbn d (by omega) q; omega))
          rw [show nb + (200 - nb) = 200 by omega] at this
          exact this
        rw [← e9] at kk
        have L : ∀ g d c, d + g = 200 → c ≤ d → nthR (blk bk e) z 200 0 0 = nthR (blk bk e) z g d c → WP Γ MX10_entryBlock (2, 44, 0, 0) 20 [some (.ref m), some (.int (nI e)), some (.int z), some (.int (z - nI c)), some (.int (nI d))] [] hB Q := by
          intro g
          induction g with
          | zero =>
            intro d c hd hcd he
            rw [he] at kk
            obtain rfl : d = 200 := by omega
            refine wp_iload_n (n := 21) dX10_entryBlock_20 rfl rfl ?_
            refine wp_if_lt (t := 73) (n := 24) dX10_entryBlock_21 (by decide) rfl (fun hc => ?_) (fun hc => ?_)
            · exact absurd hc hz0
            · refine wp_iload (n := 26) dX10_entryBlock_24 rfl rfl ?_
              refine wp_sipush (n := 29) (v := nI 200) dX10_entryBlock_26 rfl (by decide) ?_
              refine wp_icmp_ge (t := 73) (n := 32) dX10_entryBlock_29 (by decide) rfl (fun hq => ?_) (fun hq => ?_)
              · refine wp_iconst (n := 74) (v := (-1)) dX10_entryBlock_73 rfl (by decide) ?_
                exact wp_ireturn dX10_entryBlock_74 rfl rfl (kk)
              · exact absurd (Int32.le_refl _) hq
          | succ g ih =>
            intro d c hd hcd he
            have hlt : d < 200 := by omega
            rw [nthR_succ (blk bk e) z g d c] at he
            refine wp_iload_n (n := 21) dX10_entryBlock_20 rfl rfl ?_
            refine wp_if_lt (t := 73) (n := 24) dX10_entryBlock_21 (by decide) rfl (fun hc => ?_) (fun hc => ?_)
            · exact absurd hc hz0
            · refine wp_iload (n := 26) dX10_entryBlock_24 rfl rfl ?_
              refine wp_sipush (n := 29) (v := nI 200) dX10_entryBlock_26 rfl (by decide) ?_
              refine wp_icmp_ge (t := 73) (n := 32) dX10_entryBlock_29 (by decide) rfl (fun hq => ?_) (fun hq => ?_)
              · rw [nI_le9 (by omega) (by omega)] at hq
                omega
              · have T : ∀ v9 : Int32, v9 = bI (blk bk e d) → (blk bk e d = true → ¬ nI c = z) → WP Γ MX10_entryBlock (2, 44, 0, 0) 49 [some (.ref m), some (.int (nI e)), some (.int z), some (.int (z - nI c)), some (.int (nI d))] [] hB Q := by
                  intro v9 _ hno
                  refine wp_iload_n (n := 50) dX10_entryBlock_49 rfl rfl ?_
                  refine wp_aload_n (n := 51) dX10_entryBlock_50 rfl rfl ?_
                  refine wp_iload_n (n := 52) dX10_entryBlock_51 rfl rfl ?_
                  refine wp_iload (n := 54) dX10_entryBlock_52 rfl rfl ?_
                  refine wp_callV2 (n := 57) (rm' := (1, 22, 0, 0)) rfl dX10_entryBlock_54 rfl mlX10_124 (by repeat first | assumption | exact ax_set_self _ _ _ | exact ax_newA_self _ _ _ | refine (ax_set_ne _ _ (by omega)).trans ?_ | refine (ax_newA_ne _ _ _ (by omega)).trans ?_) rfl rfl rfl rfl rfl ?_
                  refine s_X10_hasBlock mB hRB rJ s5 e1 hlt ?_
                  show WP Γ _ _ _ _ _ _ _
                  refine wp_if_eq (t := 64) (n := 60) dX10_entryBlock_57 (by decide) rfl (fun hu => ?_) (fun hu => ?_)
                  · rw [bI_eq hu, if_neg (by decide)] at he
                    refine wp_iconst (n := 65) (v := 0) dX10_entryBlock_64 rfl (by decide) ?_
                    refine wp_isub (n := 66) dX10_entryBlock_65 rfl ?_
                    rw [show z - nI c - 0 = z - nI c from Int32.sub_zero _]
                    refine wp_istore_n (n := 67) dX10_entryBlock_66 rfl rfl rfl rfl ?_
                    refine wp_iinc (n := 70) dX10_entryBlock_67 rfl rfl (nI_inc d) rfl rfl rfl ?_
                    refine wp_goto (t := 20) dX10_entryBlock_70 (by decide) ?_
                    exact ih (d + 1) c (by omega) (by omega) he
                  · have hu := bI_ne hu
                    rw [hu, if_pos rfl, if_neg (hno hu)] at he
                    refine wp_iconst (n := 61) (v := nI 1) dX10_entryBlock_60 rfl (by decide) ?_
                    refine wp_goto (t := 65) dX10_entryBlock_61 (by decide) ?_
                    refine wp_isub (n := 66) dX10_entryBlock_65 rfl ?_
                    rw [sub_one9]
                    refine wp_istore_n (n := 67) dX10_entryBlock_66 rfl rfl rfl rfl ?_
                    refine wp_iinc (n := 70) dX10_entryBlock_67 rfl rfl (nI_inc d) rfl rfl rfl ?_
                    refine wp_goto (t := 20) dX10_entryBlock_70 (by decide) ?_
                    exact ih (d + 1) (c + 1) (by omega) (by omega) he
                refine wp_aload_n (n := 33) dX10_entryBlock_32 rfl rfl ?_
                refine wp_iload_n (n := 34) dX10_entryBlock_33 rfl rfl ?_
                refine wp_iload (n := 36) dX10_entryBlock_34 rfl rfl ?_
                refine wp_callV2 (n := 39) (rm' := (1, 22, 0, 0)) rfl dX10_entryBlock_36 rfl mlX10_124 (by repeat first | assumption | exact ax_set_self _ _ _ | exact ax_newA_self _ _ _ | refine (ax_set_ne _ _ (by omega)).trans ?_ | refine (ax_newA_ne _ _ _ (by omega)).trans ?_) rfl rfl rfl rfl rfl ?_
                refine s_X10_hasBlock mB hRB rJ s5 e1 hlt ?_
                show WP Γ _ _ _ _ _ _ _
                refine wp_if_eq (t := 49) (n := 42) dX10_entryBlock_39 (by decide) rfl (fun hs => ?_) (fun hs => ?_)
                · exact T _ rfl (fun q => by rw [bI_eq hs] at q; cases q)
                · have hs := bI_ne hs
                  refine wp_iload_n (n := 43) dX10_entryBlock_42 rfl rfl ?_
                  refine wp_if_ne (t := 49) (n := 46) dX10_entryBlock_43 (by decide) rfl (fun hu => ?_) (fun hu => ?_)
                  · exact T _ rfl (fun _ q => hu (left_zero.mpr q))
                  · rw [hs, if_pos rfl, if_pos (left_zero.mp hu)] at he
                    rw [he] at kk
                    refine wp_iload (n := 48) dX10_entryBlock_46 rfl rfl ?_
                    exact wp_ireturn dX10_entryBlock_48 rfl rfl (kk)
        have L0 := L 200 0 0 (by omega) (by omega) rfl
        rw [show z - nI 0 = z from Int32.sub_zero _] at L0
        refine wp_iload_n (n := 16) dX10_entryBlock_15 rfl rfl ?_
        refine wp_istore_n (n := 17) dX10_entryBlock_16 rfl rfl rfl rfl ?_
        refine wp_iconst (n := 18) (v := 0) dX10_entryBlock_17 rfl (by decide) ?_
        refine wp_istore (n := 20) dX10_entryBlock_18 rfl rfl rfl rfl ?_
        exact L0
    · exact absurd rfl hq
theorem s_X10_wouldPick (hM : ModC h m a th tl at' bg er ea lr cm) (hR : h.2 a = some (.inl (.int, 5061, .inl R))) (hr : RowR R np qu ra re le ln nb pl tm ne rw bk nh hw nc cw t y) (hI : Inv np qu ra re le ln nb pl tm ne rw bk nh hw nc cw t y) (hA : Γ.2.1 ≤ m) (ham : ¬ a = m) (hP : h.2 (m + 9) = some (.inl (.boolean, 200, .inl pk))) (ham9 : ¬ a = m + 9)
    (k1 : inN x np = false → ∀ h', ax_fr m (m + 1) h h' → ModC h' m a (nI 1) tl at' bg er ea lr cm → Q (.inl (some (.int 0))) h')
    (k2 : inN x np = true → inI z 1 200 = false → ∀ h', ax_fr m (m + 1) h h' → ModC h' m a (nI 2) tl at' bg er ea lr cm → Q (.inl (some (.int 0))) h')
    (k0 : ∀ j, j < np → x = nI j → ∀ u, 1 ≤ u → u ≤ 200 → z = nI u → (cnt pl (nI j) nb < u ∨ w < 0) → ∀ h', ax_fr m (m + 1) h h' → ModC h' m a (0) tl at' bg er ea lr cm → Q (.inl (some (.int (-1)))) h')
    (k : ∀ j, j < np → x = nI j → ∀ u, 1 ≤ u → u ≤ 200 → z = nI u → u ≤ cnt pl (nI j) nb → 0 ≤ w → ∀ h' pk', h'.1 = h.1 → (∀ c, ¬ c = m → ¬ c = m + 9 → h'.2 c = h.2 c) → ModC h' m a 0 tl at' bg er ea lr cm → h'.2 (m + 9) = some (.inl (.boolean, 200, .inl pk')) → Q (.inl (some (.int (nthR (selW y pl tm nb (nI j) u) w nb 0 0)))) h') : WP Γ MX10_wouldPick (3, 73, 0, 0) 0 [some (.ref m), some (.int x), some (.int z), some (.int w), none, none] [] h Q := by
  have hM0 := hM
  unfold ModC at hM
  have hI0 := hI
  have hr0 := hr
  obtain ⟨⟨s1, s2, s3, s4, s5, s6, s7, s8, tn, s9, s10⟩, IM, IP, IJ, IR, IC⟩ := hI
  obtain ⟨⟨r0, r1, r2, r3, r4, r5, r6⟩, rM, rP, rJ, rH, rC⟩ := hr
  refine wp_aload_n (n := 1) dX10_wouldPick_0 rfl rfl ?_
  refine wp_aload_n (n := 2) dX10_wouldPick_1 rfl rfl ?_
  refine wp_iload_n (n := 3) dX10_wouldPick_2 rfl rfl ?_
  refine wp_callV1 (n := 6) (rm' := (1, 22, 0, 0)) rfl dX10_wouldPick_3 rfl mlX10_109 (by repeat first | assumption | exact ax_set_self _ _ _ | exact ax_newA_self _ _ _ | refine (ax_set_ne _ _ (by omega)).trans ?_ | refine (ax_newA_ne _ _ _ (by omega)).trans ?_) rfl rfl rfl rfl rfl ?_
  refine s_X10_isPool hM0 hR r1 s2 ?_
  show WP Γ _ _ _ _ _ _ _
  refine wp_iconst (n := 7) (v := nI 1) dX10_wouldPick_6 rfl (by decide) ?_
  refine wp_callV2 (n := 10) (rm' := (0, 0, 0, 0)) rfl dX10_wouldPick_7 rfl mlX10_113 (by repeat first | assumption | exact ax_set_self _ _ _ | exact ax_newA_self _ _ _ | refine (ax_set_ne _ _ (by omega)).trans ?_ | refine (ax_newA_ne _ _ _ (by omega)).trans ?_) rfl rfl rfl rfl rfl ?_
  refine s_X10_isThrown hM0 hA (fun h1 f1 m1 => ?_)
  show WP Γ _ _ _ _ _ _ _
  have fa1 := f1
  have hR1 := fa1.get hR (by omega)
  cases hx1 : inN x np with
  | false =>
    rw [hx1] at m1
    refine wp_if_ne (t := 29) (n := 13) dX10_wouldPick_10 (by decide) rfl (fun hq => ?_) (fun hq => ?_)
    · refine wp_iconst (n := 30) (v := 0) dX10_wouldPick_29 rfl (by decide) ?_
      exact wp_ireturn dX10_wouldPick_30 rfl rfl (k1 hx1 h1 fa1 m1)
    · exact absurd hq (by decide)
  | true =>
    rw [hx1] at m1
    have m1' := m1
    unfold ModC at m1'
    refine wp_if_ne (t := 29) (n := 13) dX10_wouldPick_10 (by decide) rfl (fun hq => ?_) (fun hq => ?_)
    · exact absurd rfl hq
    · skip
      refine wp_aload_n (n := 14) dX10_wouldPick_13 rfl rfl ?_
      refine wp_iload_n (n := 15) dX10_wouldPick_14 rfl rfl ?_
      refine wp_iconst (n := 16) (v := nI 1) dX10_wouldPick_15 rfl (by decide) ?_
      refine wp_sipush (n := 19) (v := nI 200) dX10_wouldPick_16 rfl (by decide) ?_
      refine wp_callS3 (n := 22) (rm' := (0, 0, 0, 0)) rfl dX10_wouldPick_19 rfl mlX10_54 rfl rfl rfl rfl ?_
      refine s_X10_inJ (p := 1) (q := 200) rfl rfl ?_
      show WP Γ _ _ _ _ _ _ _
      refine wp_iconst (n := 23) (v := nI 2) dX10_wouldPick_22 rfl (by decide) ?_
      refine wp_callV2 (n := 26) (rm' := (0, 0, 0, 0)) rfl dX10_wouldPick_23 rfl mlX10_113 (by repeat first | assumption | exact ax_set_self _ _ _ | exact ax_newA_self _ _ _ | refine (ax_set_ne _ _ (by omega)).trans ?_ | refine (ax_newA_ne _ _ _ (by omega)).trans ?_) rfl rfl rfl rfl rfl ?_
      refine s_X10_isThrown m1 hA (fun hB f2 mB => ?_)
      show WP Γ _ _ _ _ _ _ _
      have fB := fa1.tr (lo := m) (hi := m + 1) f2 (by omega) (by omega)
      have hRB := fB.get hR (by omega)
      cases hx2 : inI z 1 200 with
      | false =>
        rw [hx2] at mB
        refine wp_if_eq (t := 31) (n := 29) dX10_wouldPick_26 (by decide) rfl (fun hq => ?_) (fun hq => ?_)
        · exact absurd hq (by decide)
        · refine wp_iconst (n := 30) (v := 0) dX10_wouldPick_29 rfl (by decide) ?_
          exact wp_ireturn dX10_wouldPick_30 rfl rfl (k2 hx1 hx2 hB fB mB)
      | true =>
        rw [hx2] at mB
        have mB' := mB
        unfold ModC at mB'
        refine wp_if_eq (t := 31) (n := 29) dX10_wouldPick_26 (by decide) rfl (fun hq => ?_) (fun hq => ?_)
        · skip
          obtain ⟨j, j1, rfl⟩ := inN_get (n := np) (by omega) (of_decide_eq_true hx1).1 (of_decide_eq_true hx1).2
          obtain ⟨u, u1, u2, rfl⟩ := inI_get (a := 1) (b := 200) (by omega) (by omega) (of_decide_eq_true hx2).1 (of_decide_eq_true hx2).2
          by_cases hcn : cnt pl (nI j) nb < u
          · refine wp_aload_n (n := 32) dX10_wouldPick_31 rfl rfl ?_
            refine wp_iload_n (n := 33) dX10_wouldPick_32 rfl rfl ?_
            refine wp_callV1 (n := 36) (rm' := (0, 0, 0, 0)) rfl dX10_wouldPick_33 rfl mlX10_62 (by repeat first | assumption | exact ax_set_self _ _ _ | exact ax_newA_self _ _ _ | refine (ax_set_ne _ _ (by omega)).trans ?_ | refine (ax_newA_ne _ _ _ (by omega)).trans ?_) rfl rfl rfl rfl rfl ?_
            refine s_X10_balanceOf mB hRB r0 rM s4 ?_
            show WP Γ _ _ _ _ _ _ _
            refine wp_iload_n (n := 37) dX10_wouldPick_36 rfl rfl ?_
            have hcl := cnt_le pl (nI j) nb
            refine wp_icmp_lt (t := 44) (n := 40) dX10_wouldPick_37 (by decide) rfl (fun hc => ?_) (fun hc => ?_)
            · refine wp_iconst (n := 45) (v := (-1)) dX10_wouldPick_44 rfl (by decide) ?_
              exact wp_ireturn dX10_wouldPick_45 rfl rfl (k0 j j1 rfl u u1 u2 rfl (Or.inl hcn) hB fB mB)
            · exact absurd ((nI_lt9 (by omega) (by omega)).mpr hcn) hc
          · have hcl := cnt_le pl (nI j) nb
            refine wp_aload_n (n := 32) dX10_wouldPick_31 rfl rfl ?_
            refine wp_iload_n (n := 33) dX10_wouldPick_32 rfl rfl ?_
            refine wp_callV1 (n := 36) (rm' := (0, 0, 0, 0)) rfl dX10_wouldPick_33 rfl mlX10_62 (by repeat first | assumption | exact ax_set_self _ _ _ | exact ax_newA_self _ _ _ | refine (ax_set_ne _ _ (by omega)).trans ?_ | refine (ax_newA_ne _ _ _ (by omega)).trans ?_) rfl rfl rfl rfl rfl ?_
            refine s_X10_balanceOf mB hRB r0 rM s4 ?_
            show WP Γ _ _ _ _ _ _ _
            refine wp_iload_n (n := 37) dX10_wouldPick_36 rfl rfl ?_
            refine wp_icmp_lt (t := 44) (n := 40) dX10_wouldPick_37 (by decide) rfl (fun hc => ?_) (fun hc => ?_)
            · exact absurd ((nI_lt9 (by omega) (by omega)).mp hc) hcn
            · refine wp_iload_n (n := 41) dX10_wouldPick_40 rfl rfl ?_
              refine wp_if_ge (t := 46) (n := 44) dX10_wouldPick_41 (by decide) rfl (fun hw0 => ?_) (fun hw0 => ?_)
              · have hPB := fB.get hP (by omega)
                refine wp_aload_n (n := 47) dX10_wouldPick_46 rfl rfl ?_
                refine wp_iload_n (n := 48) dX10_wouldPick_47 rfl rfl ?_
                refine wp_iload_n (n := 49) dX10_wouldPick_48 rfl rfl ?_
                refine wp_aload_n (n := 50) dX10_wouldPick_49 rfl rfl ?_
                refine wp_getf (n := 53) dX10_wouldPick_50 rfl flX10_9 (by repeat first | assumption | exact ax_set_self _ _ _ | exact ax_newA_self _ _ _ | refine (ax_set_ne _ _ (by omega)).trans ?_ | refine (ax_newA_ne _ _ _ (by omega)).trans ?_) (by rfl) ?_
                refine wp_iconst (n := 54) (v := nI 3) dX10_wouldPick_53 rfl (by decide) ?_
                refine wp_iald (n := 55) _ dX10_wouldPick_54 rfl (by repeat first | assumption | exact ax_set_self _ _ _ | exact ax_newA_self _ _ _ | refine (ax_set_ne _ _ (by omega)).trans ?_ | refine (ax_newA_ne _ _ _ (by omega)).trans ?_) rfl (by omega) (by decide) ?_
                rw [r3]
                refine wp_callV3 (n := 58) (rm' := (2, 48, 0, 0)) rfl dX10_wouldPick_55 rfl mlX10_102 (by repeat first | assumption | exact ax_set_self _ _ _ | exact ax_newA_self _ _ _ | refine (ax_set_ne _ _ (by omega)).trans ?_ | refine (ax_newA_ne _ _ _ (by omega)).trans ?_) rfl rfl rfl rfl rfl ?_
                refine s_X10_picks mB hRB hPB r0 rM s4 s8 (by omega) u1 hA ham9 (fun h3 pk3 f3 hP3 z3 => ?_)
                show WP Γ _ _ _ _ _ _ _
                have m3 := mB.fr f3 (by omega)
                have m3' := m3
                unfold ModC at m3'
                have kk := k j j1 rfl u u1 u2 rfl (by omega) (Int32.not_lt.mp (fun q => absurd (Int32.lt_of_le_of_lt hw0 q) (Int32.lt_irrefl))) h3 pk3 (f3.1.trans fB.1) (fun c c1 c2 => (f3.2 c (by omega)).trans (fB.2 c (by omega))) m3 hP3
                have e9 : nthR (selW y pl tm nb (nI j) u) w 200 0 0 = nthR (selW y pl tm nb (nI j) u) w nb 0 0 := by
                  have := nthR_more (P := selW y pl tm nb (nI j) u) (i := w) nb (200 - nb) 0 0 (fun d h1 h2 => Bool.eq_false_iff.mpr (fun q => by have := selW_lt q; omega))
                  rw [show nb + (200 - nb) = 200 by omega] at this
                  exact this
                rw [← e9] at kk
                have L : ∀ g d c, d + g = 200 → c ≤ d → nthR (selW y pl tm nb (nI j) u) w 200 0 0 = nthR (selW y pl tm nb (nI j) u) w g d c → WP Γ MX10_wouldPick (3, 73, 0, 0) 64 [some (.ref m), some (.int (nI j)), some (.int (nI u)), some (.int w), some (.int (w - nI c)), some (.int (nI d))] [] h3 Q := by
                  intro g
                  induction g with
                  | zero =>
                    intro d c hd hcd he
                    rw [he] at kk
                    obtain rfl : d = 200 := by omega
                    refine wp_iload (n := 66) dX10_wouldPick_64 rfl rfl ?_
                    refine wp_sipush (n := 69) (v := nI 200) dX10_wouldPick_66 rfl (by decide) ?_
                    refine wp_icmp_ge (t := 116) (n := 72) dX10_wouldPick_69 (by decide) rfl (fun hq => ?_) (fun hq => ?_)
                    · refine wp_iconst (n := 117) (v := (-1)) dX10_wouldPick_116 rfl (by decide) ?_
                      exact wp_ireturn dX10_wouldPick_117 rfl rfl (kk)
                    · exact absurd (Int32.le_refl _) hq
                  | succ g ih =>
                    intro d c hd hcd he
                    have hlt : d < 200 := by omega
                    rw [nthR_succ (selW y pl tm nb (nI j) u) w g d c] at he
                    refine wp_iload (n := 66) dX10_wouldPick_64 rfl rfl ?_
                    refine wp_sipush (n := 69) (v := nI 200) dX10_wouldPick_66 rfl (by decide) ?_
                    refine wp_icmp_ge (t := 116) (n := 72) dX10_wouldPick_69 (by decide) rfl (fun hq => ?_) (fun hq => ?_)
                    · rw [nI_le9 (by omega) (by omega)] at hq
                      omega
                    · have T : (selW y pl tm nb (nI j) u d = true → ¬ nI c = w) → WP Γ MX10_wouldPick (3, 73, 0, 0) 90 [some (.ref m), some (.int (nI j)), some (.int (nI u)), some (.int w), some (.int (w - nI c)), some (.int (nI d))] [] h3 Q := by
                        intro hno
                        refine wp_iload (n := 92) dX10_wouldPick_90 rfl rfl ?_
                        refine wp_aload_n (n := 93) dX10_wouldPick_92 rfl rfl ?_
                        refine wp_getf (n := 96) dX10_wouldPick_93 rfl flX10_36 (by repeat first | assumption | exact ax_set_self _ _ _ | exact ax_newA_self _ _ _ | refine (ax_set_ne _ _ (by omega)).trans ?_ | refine (ax_newA_ne _ _ _ (by omega)).trans ?_) (by rfl) ?_
                        refine wp_iload (n := 98) dX10_wouldPick_96 rfl rfl ?_
                        refine wp_zald (n := 99) _ dX10_wouldPick_98 rfl (by repeat first | assumption | exact ax_set_self _ _ _ | exact ax_newA_self _ _ _ | refine (ax_set_ne _ _ (by omega)).trans ?_ | refine (ax_newA_ne _ _ _ (by omega)).trans ?_) rfl (by omega) (by decide) ?_
                        refine wp_if_eq (t := 106) (n := 102) dX10_wouldPick_99 (by decide) rfl (fun hu => ?_) (fun hu => ?_)
                        · have e1 : ¬ selW y pl tm nb (nI j) u d = true := fun q => (z3 d hlt).mpr q hu
                          rw [if_neg e1] at he
                          refine wp_iconst (n := 107) (v := 0) dX10_wouldPick_106 rfl (by decide) ?_
                          refine wp_isub (n := 108) dX10_wouldPick_107 rfl ?_
                          rw [show w - nI c - 0 = w - nI c from Int32.sub_zero _]
                          refine wp_istore (n := 110) dX10_wouldPick_108 rfl rfl rfl rfl ?_
                          refine wp_iinc (n := 113) dX10_wouldPick_110 rfl rfl (nI_inc d) rfl rfl rfl ?_
                          refine wp_goto (t := 64) dX10_wouldPick_113 (by decide) ?_
                          exact ih (d + 1) c (by omega) (by omega) he
                        · have e1 := (z3 d hlt).mp hu
                          rw [if_pos e1, if_neg (hno e1)] at he
                          refine wp_iconst (n := 103) (v := nI 1) dX10_wouldPick_102 rfl (by decide) ?_
                          refine wp_goto (t := 107) dX10_wouldPick_103 (by decide) ?_
                          refine wp_isub (n := 108) dX10_wouldPick_107 rfl ?_
                          rw [sub_one9]
                          refine wp_istore (n := 110) dX10_wouldPick_108 rfl rfl rfl rfl ?_
                          refine wp_iinc (n := 113) dX10_wouldPick_110 rfl rfl (nI_inc d) rfl rfl rfl ?_
                          refine wp_goto (t := 64) dX10_wouldPick_113 (by decide) ?_
                          exact ih (d + 1) (c + 1) (by omega) (by omega) he
                      refine wp_aload_n (n := 73) dX10_wouldPick_72 rfl rfl ?_
                      refine wp_getf (n := 76) dX10_wouldPick_73 rfl flX10_36 (by repeat first | assumption | exact ax_set_self _ _ _ | exact ax_newA_self _ _ _ | refine (ax_set_ne _ _ (by omega)).trans ?_ | refine (ax_newA_ne _ _ _ (by omega)).trans ?_) (by rfl) ?_
                      refine wp_iload (n := 78) dX10_wouldPick_76 rfl rfl ?_
                      refine wp_zald (n := 79) _ dX10_wouldPick_78 rfl (by repeat first | assumption | exact ax_set_self _ _ _ | exact ax_newA_self _ _ _ | refine (ax_set_ne _ _ (by omega)).trans ?_ | refine (ax_newA_ne _ _ _ (by omega)).trans ?_) rfl (by omega) (by decide) ?_
                      refine wp_if_eq (t := 90) (n := 82) dX10_wouldPick_79 (by decide) rfl (fun hs => ?_) (fun hs => ?_)
                      · exact T (fun q => absurd hs ((z3 d hlt).mpr q))
                      · have hs := (z3 d hlt).mp hs
                        refine wp_iload (n := 84) dX10_wouldPick_82 rfl rfl ?_
                        refine wp_if_ne (t := 90) (n := 87) dX10_wouldPick_84 (by decide) rfl (fun hu => ?_) (fun hu => ?_)
                        · exact T (fun _ q => hu (left_zero.mpr q))
                        · rw [if_pos hs, if_pos (left_zero.mp hu)] at he
                          rw [he] at kk
                          refine wp_iload (n := 89) dX10_wouldPick_87 rfl rfl ?_
                          exact wp_ireturn dX10_wouldPick_89 rfl rfl (kk)
                have L0 := L 200 0 0 (by omega) (by omega) rfl
                rw [show w - nI 0 = w from Int32.sub_zero _] at L0
                refine wp_iload_n (n := 59) dX10_wouldPick_58 rfl rfl ?_
                refine wp_istore (n := 61) dX10_wouldPick_59 rfl rfl rfl rfl ?_
                refine wp_iconst (n := 62) (v := 0) dX10_wouldPick_61 rfl (by decide) ?_
                refine wp_istore (n := 64) dX10_wouldPick_62 rfl rfl rfl rfl ?_
                exact L0
              · refine wp_iconst (n := 45) (v := (-1)) dX10_wouldPick_44 rfl (by decide) ?_
                exact wp_ireturn dX10_wouldPick_45 rfl rfl (k0 j j1 rfl u u1 u2 rfl (Or.inr (Int32.not_le.mp hw0)) hB fB mB)
        · exact absurd rfl hq
end
