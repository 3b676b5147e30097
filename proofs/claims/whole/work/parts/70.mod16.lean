/-! ===== the reference: the map ===== -/

theorem nthR_neg {P : Nat → Bool} {i : Int32} (hi : i < 0) : ∀ g j c, c + g < 2147483648 → nthR P i g j c = -1
  | 0, _, _, _ => rfl
  | g + 1, j, c, hc => by
    unfold nthR
    have e : ¬ nI c = i := fun q => absurd (nI_ge0 c (by omega)) (by rw [q]; exact Int32.not_le.mpr hi)
    rw [if_neg e]
    split
    · exact nthR_neg hi g (j + 1) (c + 1) (by omega)
    · exact nthR_neg hi g (j + 1) c (by omega)
theorem dec_left (z : Int32) (c : Nat) : z - nI c + Int32.ofInt (-1) = z - nI (c + 1) := by
  have : Int32.ofInt (-1) = - nI 1 := by decide
  rw [this, ← nI_add, Int32.sub_eq_add_neg, Int32.sub_eq_add_neg, Int32.neg_add, Int32.add_assoc, Int32.sub_eq_add_neg]
theorem left_zero {z : Int32} {c : Nat} : z - nI c = 0 ↔ nI c = z := by
  rw [Int32.sub_eq_iff_eq_add, Int32.zero_add]
  exact eq_comm
/-- a run begins as often as it ends -/
def begR (pl : Nat → Int32) (x : Int32) (b : Nat) : Bool := decide (pl b = x ∧ (b = 0 ∨ ¬ pl (b - 1) = x))
theorem cntB_ends (pl : Nat → Int32) (x : Int32) (n : Nat) : ∀ j, j < n → cntB (endsR pl n x) j + (if pl j = x then 1 else 0) = cntB (begR pl x) (j + 1)
  | 0, h => by
    simp only [cntB, begR]
    by_cases q : pl 0 = x <;> simp [q]
  | j + 1, h => by
    have ih := cntB_ends pl x n j (by omega)
    have e1 : cntB (begR pl x) (j + 1 + 1) = cntB (begR pl x) (j + 1) + (if begR pl x (j + 1) = true then 1 else 0) := rfl
    have e2 : cntB (endsR pl n x) (j + 1) = cntB (endsR pl n x) j + (if endsR pl n x j = true then 1 else 0) := rfl
    rw [e1, e2, ← ih]
    have b1 : begR pl x (j + 1) = decide (pl (j + 1) = x ∧ ¬ pl j = x) := by
      unfold begR
      simp
    have b2 : endsR pl n x j = decide (pl j = x ∧ ¬ pl (j + 1) = x) := by
      unfold endsR
      rw [decide_eq_decide]
      constructor
      · rintro ⟨a, b⟩
        exact ⟨a, b.resolve_left (by omega)⟩
      · rintro ⟨a, b⟩
        exact ⟨a, Or.inr b⟩
    rw [b1, b2]
    by_cases q1 : pl j = x <;> by_cases q2 : pl (j + 1) = x <;> simp [q1, q2] <;> omega
theorem cntB_runs (pl : Nat → Int32) (x : Int32) : ∀ n, cntB (endsR pl n x) n = cntB (begR pl x) n
  | 0 => rfl
  | n + 1 => by
    have h := cntB_ends pl x (n + 1) n (by omega)
    rw [← h]
    have : endsR pl (n + 1) x n = decide (pl n = x) := by
      unfold endsR
      simp
    show cntB (endsR pl (n + 1) x) n + (if endsR pl (n + 1) x n = true then 1 else 0) = _
    rw [this]
    simp

section
variable {Γ : GE} {h : AH} {Q : PO} {m a np nb ne nh nc y : Nat} {R : FI} {qu ra le ln pl tm rw hw cw pk : FI} {re : Nat → UInt32} {bk : Nat → Int64} {t x z w v th tl at' bg er ea lr cm : Int32}
theorem s_X10_blockAt (hM : ModC h m a th tl at' bg er ea lr cm) (hR : h.2 a = some (.inl (.int, 5061, .inl R))) (hr : RowR R np qu ra re le ln nb pl tm ne rw bk nh hw nc cw t y) (hI : Inv np qu ra re le ln nb pl tm ne rw bk nh hw nc cw t y) (hA : Γ.2.1 ≤ m) (ham : ¬ a = m) 
    (k1 : inN x np = false → ∀ h', ax_fr m (m + 1) h h' → ModC h' m a (nI 1) tl at' bg er ea lr cm → Q (.inl (some (.int 0))) h')
    (k : ∀ j, j < np → x = nI j → ∀ h', ax_fr m (m + 1) h h' → ModC h' m a (0) tl at' bg er ea lr cm → Q (.inl (some (.int (nthR (fun d => decide (pl d = nI j)) z nb 0 0)))) h') : WP Γ MX10_blockAt (2, 43, 0, 0) 0 [some (.ref m), some (.int x), some (.int z), none, none] [] h Q := by
  have hM0 := hM
  unfold ModC at hM
  have hI0 := hI
  have hr0 := hr
  obtain ⟨⟨s1, s2, s3, s4, s5, s6, s7, s8, tn, s9, s10⟩, IM, IP, IJ, IR, IC⟩ := hI
  obtain ⟨⟨r0, r1, r2, r3, r4, r5, r6⟩, rM, rP, rJ, rH, rC⟩ := hr
  refine wp_aload_n (n := 1) dX10_blockAt_0 rfl rfl ?_
  refine wp_aload_n (n := 2) dX10_blockAt_1 rfl rfl ?_
  refine wp_iload_n (n := 3) dX10_blockAt_2 rfl rfl ?_
  refine wp_callV1 (n := 6) (rm' := (1, 22, 0, 0)) rfl dX10_blockAt_3 rfl mlX10_109 (by repeat first | assumption | exact ax_set_self _ _ _ | exact ax_newA_self _ _ _ | refine (ax_set_ne _ _ (by omega)).trans ?_ | refine (ax_newA_ne _ _ _ (by omega)).trans ?_) rfl rfl rfl rfl rfl ?_
  refine s_X10_isPool hM0 hR r1 s2 ?_
  show WP Γ _ _ _ _ _ _ _
  refine wp_iconst (n := 7) (v := nI 1) dX10_blockAt_6 rfl (by decide) ?_
  refine wp_callV2 (n := 10) (rm' := (0, 0, 0, 0)) rfl dX10_blockAt_7 rfl mlX10_113 (by repeat first | assumption | exact ax_set_self _ _ _ | exact ax_newA_self _ _ _ | refine (ax_set_ne _ _ (by omega)).trans ?_ | refine (ax_newA_ne _ _ _ (by omega)).trans ?_) rfl rfl rfl rfl rfl ?_
  refine s_X10_isThrown hM0 hA (fun hB f1 mB => ?_)
  show WP Γ _ _ _ _ _ _ _
  have fB := f1
  have hRB := fB.get hR (by omega)
  cases hx1 : inN x np with
  | false =>
    rw [hx1] at mB
    refine wp_if_eq (t := 15) (n := 13) dX10_blockAt_10 (by decide) rfl (fun hq => ?_) (fun hq => ?_)
    · exact absurd hq (by decide)
    · refine wp_iconst (n := 14) (v := 0) dX10_blockAt_13 rfl (by decide) ?_
      exact wp_ireturn dX10_blockAt_14 rfl rfl (k1 hx1 hB fB mB)
  | true =>
    rw [hx1] at mB
    have mB' := mB
    unfold ModC at mB'
    refine wp_if_eq (t := 15) (n := 13) dX10_blockAt_10 (by decide) rfl (fun hq => ?_) (fun hq => ?_)
    · skip
      obtain ⟨j, j1, rfl⟩ := inN_get (n := np) (by omega) (of_decide_eq_true hx1).1 (of_decide_eq_true hx1).2
      by_cases hz0 : z < 0
      · have kk := k j j1 rfl hB fB mB
        rw [nthR_neg hz0 _ _ _ (by omega)] at kk
        refine wp_iload_n (n := 16) dX10_blockAt_15 rfl rfl ?_
        refine wp_istore_n (n := 17) dX10_blockAt_16 rfl rfl rfl rfl ?_
        refine wp_iconst (n := 18) (v := 0) dX10_blockAt_17 rfl (by decide) ?_
        refine wp_istore (n := 20) dX10_blockAt_18 rfl rfl rfl rfl ?_
        refine wp_iload_n (n := 21) dX10_blockAt_20 rfl rfl ?_
        refine wp_if_lt (t := 64) (n := 24) dX10_blockAt_21 (by decide) rfl (fun hc => ?_) (fun hc => ?_)
        · refine wp_iconst (n := 65) (v := (-1)) dX10_blockAt_64 rfl (by decide) ?_
          exact wp_ireturn dX10_blockAt_65 rfl rfl (kk)
        · exact absurd hz0 hc
      · have kk := k j j1 rfl hB fB mB
        have L : ∀ g d c, d + g = nb → c ≤ d → nthR (fun d => decide (pl d = nI j)) z nb 0 0 = nthR (fun d => decide (pl d = nI j)) z g d c → WP Γ MX10_blockAt (2, 43, 0, 0) 20 [some (.ref m), some (.int (nI j)), some (.int z), some (.int (z - nI c)), some (.int (nI d))] [] hB Q := by
          intro g
          induction g with
          | zero =>
            intro d c hd hcd he
            rw [he] at kk
            obtain rfl : d = nb := by omega
            refine wp_iload_n (n := 21) dX10_blockAt_20 rfl rfl ?_
            refine wp_if_lt (t := 64) (n := 24) dX10_blockAt_21 (by decide) rfl (fun hc => ?_) (fun hc => ?_)
            · exact absurd hc hz0
            · refine wp_iload (n := 26) dX10_blockAt_24 rfl rfl ?_
              refine wp_aload_n (n := 27) dX10_blockAt_26 rfl rfl ?_
              refine wp_getf (n := 30) dX10_blockAt_27 rfl flX10_9 (by repeat first | assumption | exact ax_set_self _ _ _ | exact ax_newA_self _ _ _ | refine (ax_set_ne _ _ (by omega)).trans ?_ | refine (ax_newA_ne _ _ _ (by omega)).trans ?_) (by rfl) ?_
              refine wp_iconst (n := 31) (v := 0) dX10_blockAt_30 rfl (by decide) ?_
              refine wp_iald (n := 32) 0 dX10_blockAt_31 rfl hRB rfl (by omega) (by omega) ?_
              rw [r0]
              refine wp_icmp_ge (t := 64) (n := 35) dX10_blockAt_32 (by decide) rfl (fun hq => ?_) (fun hq => ?_)
              · refine wp_iconst (n := 65) (v := (-1)) dX10_blockAt_64 rfl (by decide) ?_
                exact wp_ireturn dX10_blockAt_65 rfl rfl (kk)
              · exact absurd (Int32.le_refl _) hq
          | succ g ih =>
            intro d c hd hcd he
            have hlt : d < nb := by omega
            refine wp_iload_n (n := 21) dX10_blockAt_20 rfl rfl ?_
            refine wp_if_lt (t := 64) (n := 24) dX10_blockAt_21 (by decide) rfl (fun hc => ?_) (fun hc => ?_)
            · exact absurd hc hz0
            · refine wp_iload (n := 26) dX10_blockAt_24 rfl rfl ?_
              refine wp_aload_n (n := 27) dX10_blockAt_26 rfl rfl ?_
              refine wp_getf (n := 30) dX10_blockAt_27 rfl flX10_9 (by repeat first | assumption | exact ax_set_self _ _ _ | exact ax_newA_self _ _ _ | refine (ax_set_ne _ _ (by omega)).trans ?_ | refine (ax_newA_ne _ _ _ (by omega)).trans ?_) (by rfl) ?_
              refine wp_iconst (n := 31) (v := 0) dX10_blockAt_30 rfl (by decide) ?_
              refine wp_iald (n := 32) 0 dX10_blockAt_31 rfl hRB rfl (by omega) (by omega) ?_
              rw [r0]
              refine wp_icmp_ge (t := 64) (n := 35) dX10_blockAt_32 (by decide) rfl (fun hq => ?_) (fun hq => ?_)
              · rw [nI_le9 (by omega) (by omega)] at hq
                omega
              · refine wp_aload_n (n := 36) dX10_blockAt_35 rfl rfl ?_
                refine wp_iload (n := 38) dX10_blockAt_36 rfl rfl ?_
                refine wp_iload_n (n := 39) dX10_blockAt_38 rfl rfl ?_
                refine wp_callV2 (n := 42) (rm' := (0, 0, 0, 0)) rfl dX10_blockAt_39 rfl mlX10_72 (by repeat first | assumption | exact ax_set_self _ _ _ | exact ax_newA_self _ _ _ | refine (ax_set_ne _ _ (by omega)).trans ?_ | refine (ax_newA_ne _ _ _ (by omega)).trans ?_) rfl rfl rfl rfl rfl ?_
                refine s_X10_isIn mB hRB r0 rM s4 (by omega) ?_
                show WP Γ _ _ _ _ _ _ _
                refine wp_if_ne (t := 48) (n := 45) dX10_blockAt_42 (by decide) rfl (fun hs => ?_) (fun hs => ?_)
                · have hin := (of_decide_eq_true (bI_ne hs)).2
                  simp only [nthR, hin, decide_true, if_true] at he
                  refine wp_iload_n (n := 49) dX10_blockAt_48 rfl rfl ?_
                  refine wp_if_ne (t := 55) (n := 52) dX10_blockAt_49 (by decide) rfl (fun hu => ?_) (fun hu => ?_)
                  · rw [if_neg (fun q => hu (left_zero.mpr q))] at he
                    refine wp_iinc (n := 58) dX10_blockAt_55 rfl rfl (dec_left z c) rfl rfl rfl ?_
                    refine wp_iinc (n := 61) dX10_blockAt_58 rfl rfl (nI_inc d) rfl rfl rfl ?_
                    refine wp_goto (t := 20) dX10_blockAt_61 (by decide) ?_
                    exact ih (d + 1) (c + 1) (by omega) (by omega) he
                  · rw [if_pos (left_zero.mp hu)] at he
                    rw [he] at kk
                    refine wp_iload (n := 54) dX10_blockAt_52 rfl rfl ?_
                    exact wp_ireturn dX10_blockAt_54 rfl rfl (kk)
                · have hin : ¬ pl d = nI j := fun q => of_decide_eq_false (bI_eq hs) ⟨hlt, q⟩
                  simp only [nthR, hin, decide_false, Bool.false_eq_true, if_false] at he
                  refine wp_goto (t := 58) dX10_blockAt_45 (by decide) ?_
                  refine wp_iinc (n := 61) dX10_blockAt_58 rfl rfl (nI_inc d) rfl rfl rfl ?_
                  refine wp_goto (t := 20) dX10_blockAt_61 (by decide) ?_
                  exact ih (d + 1) c (by omega) (by omega) he
        have L0 := L nb 0 0 (by omega) (by omega) rfl
        rw [show z - nI 0 = z from Int32.sub_zero _] at L0
        refine wp_iload_n (n := 16) dX10_blockAt_15 rfl rfl ?_
        refine wp_istore_n (n := 17) dX10_blockAt_16 rfl rfl rfl rfl ?_
        refine wp_iconst (n := 18) (v := 0) dX10_blockAt_17 rfl (by decide) ?_
        refine wp_istore (n := 20) dX10_blockAt_18 rfl rfl rfl rfl ?_
        exact L0
    · exact absurd rfl hq
theorem s_X10_runCount (hM : ModC h m a th tl at' bg er ea lr cm) (hR : h.2 a = some (.inl (.int, 5061, .inl R))) (hr : RowR R np qu ra re le ln nb pl tm ne rw bk nh hw nc cw t y) (hI : Inv np qu ra re le ln nb pl tm ne rw bk nh hw nc cw t y) (hA : Γ.2.1 ≤ m) (ham : ¬ a = m) 
    (k1 : inN x np = false → ∀ h', ax_fr m (m + 1) h h' → ModC h' m a (nI 1) tl at' bg er ea lr cm → Q (.inl (some (.int 0))) h')
    (k : ∀ j, j < np → x = nI j → ∀ h', ax_fr m (m + 1) h h' → ModC h' m a (0) tl at' bg er ea lr cm → Q (.inl (some (.int (nI (cntB (endsR pl nb (nI j)) nb))))) h') : WP Γ MX10_runCount (2, 43, 0, 0) 0 [some (.ref m), some (.int x), none, none] [] h Q := by
  have hM0 := hM
  unfold ModC at hM
  have hI0 := hI
  have hr0 := hr
  obtain ⟨⟨s1, s2, s3, s4, s5, s6, s7, s8, tn, s9, s10⟩, IM, IP, IJ, IR, IC⟩ := hI
  obtain ⟨⟨r0, r1, r2, r3, r4, r5, r6⟩, rM, rP, rJ, rH, rC⟩ := hr
  refine wp_aload_n (n := 1) dX10_runCount_0 rfl rfl ?_
  refine wp_aload_n (n := 2) dX10_runCount_1 rfl rfl ?_
  refine wp_iload_n (n := 3) dX10_runCount_2 rfl rfl ?_
  refine wp_callV1 (n := 6) (rm' := (1, 22, 0, 0)) rfl dX10_runCount_3 rfl mlX10_109 (by repeat first | assumption | exact ax_set_self _ _ _ | exact ax_newA_self _ _ _ | refine (ax_set_ne _ _ (by omega)).trans ?_ | refine (ax_newA_ne _ _ _ (by omega)).trans ?_) rfl rfl rfl rfl rfl ?_
  refine s_X10_isPool hM0 hR r1 s2 ?_
  show WP Γ _ _ _ _ _ _ _
  refine wp_iconst (n := 7) (v := nI 1) dX10_runCount_6 rfl (by decide) ?_
  refine wp_callV2 (n := 10) (rm' := (0, 0, 0, 0)) rfl dX10_runCount_7 rfl mlX10_113 (by repeat first | assumption | exact ax_set_self _ _ _ | exact ax_newA_self _ _ _ | refine (ax_set_ne _ _ (by omega)).trans ?_ | refine (ax_newA_ne _ _ _ (by omega)).trans ?_) rfl rfl rfl rfl rfl ?_
  refine s_X10_isThrown hM0 hA (fun hB f1 mB => ?_)
  show WP Γ _ _ _ _ _ _ _
  have fB := f1
  have hRB := fB.get hR (by omega)
  cases hx1 : inN x np with
  | false =>
    rw [hx1] at mB
    refine wp_if_eq (t := 15) (n := 13) dX10_runCount_10 (by decide) rfl (fun hq => ?_) (fun hq => ?_)
    · exact absurd hq (by decide)
    · refine wp_iconst (n := 14) (v := 0) dX10_runCount_13 rfl (by decide) ?_
      exact wp_ireturn dX10_runCount_14 rfl rfl (k1 hx1 hB fB mB)
  | true =>
    rw [hx1] at mB
    have mB' := mB
    unfold ModC at mB'
    refine wp_if_eq (t := 15) (n := 13) dX10_runCount_10 (by decide) rfl (fun hq => ?_) (fun hq => ?_)
    · skip
      obtain ⟨j, j1, rfl⟩ := inN_get (n := np) (by omega) (of_decide_eq_true hx1).1 (of_decide_eq_true hx1).2
      have kk := k j j1 rfl hB fB mB
      rw [cntB_runs] at kk
      refine wp_iconst (n := 16) (v := 0) dX10_runCount_15 rfl (by decide) ?_
      refine wp_istore_n (n := 17) dX10_runCount_16 rfl rfl rfl rfl ?_
      refine wp_iconst (n := 18) (v := 0) dX10_runCount_17 rfl (by decide) ?_
      refine wp_istore_n (n := 19) dX10_runCount_18 rfl rfl rfl rfl ?_
      suffices L : ∀ d, d ≤ nb → WP Γ MX10_runCount (2, 43, 0, 0) 19 [some (.ref m), some (.int (nI j)), some (.int (nI (cntB (begR pl (nI j)) d))), some (.int (nI d))] [] hB Q from L 0 (Nat.zero_le _)
      refine ax_up nb (fun d hd ih => ?_)
      refine wp_iload_n (n := 20) dX10_runCount_19 rfl rfl ?_
      refine wp_aload_n (n := 21) dX10_runCount_20 rfl rfl ?_
      refine wp_getf (n := 24) dX10_runCount_21 rfl flX10_9 (by repeat first | assumption | exact ax_set_self _ _ _ | exact ax_newA_self _ _ _ | refine (ax_set_ne _ _ (by omega)).trans ?_ | refine (ax_newA_ne _ _ _ (by omega)).trans ?_) (by rfl) ?_
      refine wp_iconst (n := 25) (v := 0) dX10_runCount_24 rfl (by decide) ?_
      refine wp_iald (n := 26) 0 dX10_runCount_25 rfl hRB rfl (by omega) (by omega) ?_
      rw [r0]
      refine wp_icmp_ge (t := 67) (n := 29) dX10_runCount_26 (by decide) rfl (fun hc => ?_) (fun hc => ?_)
      · rw [nI_le9 (by omega) (by omega)] at hc
        obtain rfl : d = nb := by omega
        refine wp_iload_n (n := 68) dX10_runCount_67 rfl rfl ?_
        exact wp_ireturn dX10_runCount_68 rfl rfl (kk)
      · rw [nI_le9 (by omega) (by omega)] at hc
        have hlt : d < nb := by omega
        have ih := ih hlt
        have yes : begR pl (nI j) d = true → WP Γ MX10_runCount (2, 43, 0, 0) 54 [some (.ref m), some (.int (nI j)), some (.int (nI (cntB (begR pl (nI j)) d))), some (.int (nI d))] [.int (nI (cntB (begR pl (nI j)) d))] hB Q := by
          intro q
          rw [show cntB (begR pl (nI j)) (d + 1) = cntB (begR pl (nI j)) d + 1 by simp only [cntB, q, if_true]] at ih
          refine wp_iconst (n := 55) (v := nI 1) dX10_runCount_54 rfl (by decide) ?_
          refine wp_goto (t := 59) dX10_runCount_55 (by decide) ?_
          refine wp_iadd (n := 60) dX10_runCount_59 rfl ?_
          rw [nI_add]
          refine wp_istore_n (n := 61) dX10_runCount_60 rfl rfl rfl rfl ?_
          refine wp_iinc (n := 64) dX10_runCount_61 rfl rfl (nI_inc d) rfl rfl rfl ?_
          refine wp_goto (t := 19) dX10_runCount_64 (by decide) ?_
          exact ih
        have no : ¬ begR pl (nI j) d = true → WP Γ MX10_runCount (2, 43, 0, 0) 58 [some (.ref m), some (.int (nI j)), some (.int (nI (cntB (begR pl (nI j)) d))), some (.int (nI d))] [.int (nI (cntB (begR pl (nI j)) d))] hB Q := by
          intro q
          rw [show cntB (begR pl (nI j)) (d + 1) = cntB (begR pl (nI j)) d by simp only [cntB, q]; rfl] at ih
          refine wp_iconst (n := 59) (v := 0) dX10_runCount_58 rfl (by decide) ?_
          refine wp_iadd (n := 60) dX10_runCount_59 rfl ?_
          rw [Int32.add_zero]
          refine wp_istore_n (n := 61) dX10_runCount_60 rfl rfl rfl rfl ?_
          refine wp_iinc (n := 64) dX10_runCount_61 rfl rfl (nI_inc d) rfl rfl rfl ?_
          refine wp_goto (t := 19) dX10_runCount_64 (by decide) ?_
          exact ih
        refine wp_iload_n (n := 30) dX10_runCount_29 rfl rfl ?_
        refine wp_aload_n (n := 31) dX10_runCount_30 rfl rfl ?_
        refine wp_iload_n (n := 32) dX10_runCount_31 rfl rfl ?_
        refine wp_iload_n (n := 33) dX10_runCount_32 rfl rfl ?_
        refine wp_callV2 (n := 36) (rm' := (0, 0, 0, 0)) rfl dX10_runCount_33 rfl mlX10_72 (by repeat first | assumption | exact ax_set_self _ _ _ | exact ax_newA_self _ _ _ | refine (ax_set_ne _ _ (by omega)).trans ?_ | refine (ax_newA_ne _ _ _ (by omega)).trans ?_) rfl rfl rfl rfl rfl ?_
        refine s_X10_isIn mB hRB r0 rM s4 (by omega) ?_
        show WP Γ _ _ _ _ _ _ _
        refine wp_if_eq (t := 58) (n := 39) dX10_runCount_36 (by decide) rfl (fun hs => ?_) (fun hs => ?_)
        · exact no (fun q => of_decide_eq_false (bI_eq hs) ⟨hlt, (of_decide_eq_true q).1⟩)
        · have hin := (of_decide_eq_true (bI_ne hs)).2
          refine wp_iload_n (n := 40) dX10_runCount_39 rfl rfl ?_
          refine wp_if_eq (t := 54) (n := 43) dX10_runCount_40 (by decide) rfl (fun hu => ?_) (fun hu => ?_)
          · have e0 : d = 0 := (nI_eq9 (by omega) (by omega)).mp hu
            exact yes (decide_eq_true ⟨hin, Or.inl e0⟩)
          · have e0 : 1 ≤ d := by
              by_cases q : d = 0
              · exact absurd (by rw [q]; rfl) hu
              · omega
            refine wp_aload_n (n := 44) dX10_runCount_43 rfl rfl ?_
            refine wp_iload_n (n := 45) dX10_runCount_44 rfl rfl ?_
            refine wp_iconst (n := 46) (v := nI 1) dX10_runCount_45 rfl (by decide) ?_
            refine wp_isub (n := 47) dX10_runCount_46 rfl ?_
            rw [nI_sub e0]
            refine wp_iload_n (n := 48) dX10_runCount_47 rfl rfl ?_
            refine wp_callV2 (n := 51) (rm' := (0, 0, 0, 0)) rfl dX10_runCount_48 rfl mlX10_72 (by repeat first | assumption | exact ax_set_self _ _ _ | exact ax_newA_self _ _ _ | refine (ax_set_ne _ _ (by omega)).trans ?_ | refine (ax_newA_ne _ _ _ (by omega)).trans ?_) rfl rfl rfl rfl rfl ?_
            refine s_X10_isIn mB hRB r0 rM s4 (by omega) ?_
            show WP Γ _ _ _ _ _ _ _
            refine wp_if_ne (t := 58) (n := 54) dX10_runCount_51 (by decide) rfl (fun hv => ?_) (fun hv => ?_)
            · have h1 := (of_decide_eq_true (bI_ne hv)).2
              refine no (fun q => ?_)
              rcases (of_decide_eq_true q).2 with q | q
              · omega
              · exact q h1
            · have h1 : ¬ pl (d - 1) = nI j := fun q => of_decide_eq_false (bI_eq hv) ⟨by omega, q⟩
              exact yes (decide_eq_true ⟨hin, Or.inr h1⟩)
    · exact absurd rfl hq

theorem s_X10_longestOf (hM : ModC h m a th tl at' bg er ea lr cm) (hR : h.2 a = some (.inl (.int, 5061, .inl R))) (hS : R 0 = nI nb) (hm : RowM R nb pl tm) (hn : nb ≤ 200)
    (k : Q (.inl (some (.int (nI (longR pl x nb))))) h) : WP Γ MX10_longestOf (1, 60, 0, 0) 0 [some (.ref m), some (.int x), none, none, none] [] h Q := by
  have hM0 := hM
  unfold ModC at hM
  refine wp_iconst (n := 1) (v := 0) dX10_longestOf_0 rfl (by decide) ?_
  refine wp_istore_n (n := 2) dX10_longestOf_1 rfl rfl rfl rfl ?_
  refine wp_iconst (n := 3) (v := 0) dX10_longestOf_2 rfl (by decide) ?_
  refine wp_istore_n (n := 4) dX10_longestOf_3 rfl rfl rfl rfl ?_
  refine wp_iconst (n := 5) (v := 0) dX10_longestOf_4 rfl (by decide) ?_
  refine wp_istore (n := 7) dX10_longestOf_5 rfl rfl rfl rfl ?_
  suffices L : ∀ d, d ≤ nb → WP Γ MX10_longestOf (1, 60, 0, 0) 7 [some (.ref m), some (.int x), some (.int (nI (longR pl x d))), some (.int (nI (runL pl x d))), some (.int (nI d))] [] h Q from L 0 (Nat.zero_le _)
  refine ax_up nb (fun d hd ih => ?_)
  have b1 := longR_le pl x d
  have b2 := runL_le pl x d
  have b3 := runL_le pl x (d + 1)
  refine wp_iload (n := 9) dX10_longestOf_7 rfl rfl ?_
  refine wp_aload_n (n := 10) dX10_longestOf_9 rfl rfl ?_
  refine wp_getf (n := 13) dX10_longestOf_10 rfl flX10_9 (by repeat first | assumption | exact ax_set_self _ _ _ | exact ax_newA_self _ _ _ | refine (ax_set_ne _ _ (by omega)).trans ?_ | refine (ax_newA_ne _ _ _ (by omega)).trans ?_) (by rfl) ?_
  refine wp_iconst (n := 14) (v := 0) dX10_longestOf_13 rfl (by decide) ?_
  refine wp_iald (n := 15) 0 dX10_longestOf_14 rfl hR rfl (by omega) (by omega) ?_
  rw [hS]
  refine wp_icmp_ge (t := 48) (n := 18) dX10_longestOf_15 (by decide) rfl (fun hc => ?_) (fun hc => ?_)
  · rw [nI_le9 (by omega) (by omega)] at hc
    obtain rfl : d = nb := by omega
    refine wp_iload_n (n := 49) dX10_longestOf_48 rfl rfl ?_
    exact wp_ireturn dX10_longestOf_49 rfl rfl (k)
  · rw [nI_le9 (by omega) (by omega)] at hc
    have hlt : d < nb := by omega
    have ih := ih hlt
    have S : ∀ u, u = nI (runL pl x (d + 1)) → WP Γ MX10_longestOf (1, 60, 0, 0) 35 [some (.ref m), some (.int x), some (.int (nI (longR pl x d))), some (.int (nI (runL pl x d))), some (.int (nI d))] [.int u] h Q := by
      intro u hu
      subst hu
      refine wp_istore_n (n := 36) dX10_longestOf_35 rfl rfl rfl rfl ?_
      refine wp_iload_n (n := 37) dX10_longestOf_36 rfl rfl ?_
      refine wp_iload_n (n := 38) dX10_longestOf_37 rfl rfl ?_
      refine wp_mmax (n := 41) dX10_longestOf_38 rfl mxX10_287 ax_mxs ax_mi ax_mxc rfl rfl ?_
      rw [nI_max (by omega) (by omega)]
      refine wp_istore_n (n := 42) dX10_longestOf_41 rfl rfl rfl rfl ?_
      refine wp_iinc (n := 45) dX10_longestOf_42 rfl rfl (nI_inc d) rfl rfl rfl ?_
      refine wp_goto (t := 7) dX10_longestOf_45 (by decide) ?_
      exact ih
    refine wp_aload_n (n := 19) dX10_longestOf_18 rfl rfl ?_
    refine wp_iload (n := 21) dX10_longestOf_19 rfl rfl ?_
    refine wp_iload_n (n := 22) dX10_longestOf_21 rfl rfl ?_
    refine wp_callV2 (n := 25) (rm' := (0, 0, 0, 0)) rfl dX10_longestOf_22 rfl mlX10_72 (by repeat first | assumption | exact ax_set_self _ _ _ | exact ax_newA_self _ _ _ | refine (ax_set_ne _ _ (by omega)).trans ?_ | refine (ax_newA_ne _ _ _ (by omega)).trans ?_) rfl rfl rfl rfl rfl ?_
    refine s_X10_isIn hM0 hR hS hm hn (by omega) ?_
    show WP Γ _ _ _ _ _ _ _
    refine wp_if_eq (t := 34) (n := 28) dX10_longestOf_25 (by decide) rfl (fun hs => ?_) (fun hs => ?_)
    · have hin : ¬ pl d = x := fun q => of_decide_eq_false (bI_eq hs) ⟨hlt, q⟩
      refine wp_iconst (n := 35) (v := 0) dX10_longestOf_34 rfl (by decide) ?_
      exact S _ (by simp only [runL, if_neg hin]; rfl)
    · have hin := (of_decide_eq_true (bI_ne hs)).2
      refine wp_iload_n (n := 29) dX10_longestOf_28 rfl rfl ?_
      refine wp_iconst (n := 30) (v := nI 1) dX10_longestOf_29 rfl (by decide) ?_
      refine wp_iadd (n := 31) dX10_longestOf_30 rfl ?_
      refine wp_goto (t := 35) dX10_longestOf_31 (by decide) ?_
      exact S _ (by simp only [runL, if_pos hin, nI_add])

theorem s_X10_longestRun (hM : ModC h m a th tl at' bg er ea lr cm) (hR : h.2 a = some (.inl (.int, 5061, .inl R))) (hr : RowR R np qu ra re le ln nb pl tm ne rw bk nh hw nc cw t y) (hI : Inv np qu ra re le ln nb pl tm ne rw bk nh hw nc cw t y) (hA : Γ.2.1 ≤ m) (ham : ¬ a = m) 
    (k1 : inN x np = false → ∀ h', ax_fr m (m + 1) h h' → ModC h' m a (nI 1) tl at' bg er ea lr cm → Q (.inl (some (.int 0))) h')
    (k : ∀ j, j < np → x = nI j → ∀ h', ax_fr m (m + 1) h h' → ModC h' m a (0) tl at' bg er ea lr cm → Q (.inl (some (.int (nI (longR pl (nI j) nb))))) h') : WP Γ MX10_longestRun (2, 84, 0, 0) 0 [some (.ref m), some (.int x)] [] h Q := by
  have hM0 := hM
  unfold ModC at hM
  have hI0 := hI
  have hr0 := hr
  obtain ⟨⟨s1, s2, s3, s4, s5, s6, s7, s8, tn, s9, s10⟩, IM, IP, IJ, IR, IC⟩ := hI
  obtain ⟨⟨r0, r1, r2, r3, r4, r5, r6⟩, rM, rP, rJ, rH, rC⟩ := hr
  refine wp_aload_n (n := 1) dX10_longestRun_0 rfl rfl ?_
  refine wp_aload_n (n := 2) dX10_longestRun_1 rfl rfl ?_
  refine wp_iload_n (n := 3) dX10_longestRun_2 rfl rfl ?_
  refine wp_callV1 (n := 6) (rm' := (1, 22, 0, 0)) rfl dX10_longestRun_3 rfl mlX10_109 (by repeat first | assumption | exact ax_set_self _ _ _ | exact ax_newA_self _ _ _ | refine (ax_set_ne _ _ (by omega)).trans ?_ | refine (ax_newA_ne _ _ _ (by omega)).trans ?_) rfl rfl rfl rfl rfl ?_
  refine s_X10_isPool hM0 hR r1 s2 ?_
  show WP Γ _ _ _ _ _ _ _
  refine wp_iconst (n := 7) (v := nI 1) dX10_longestRun_6 rfl (by decide) ?_
  refine wp_callV2 (n := 10) (rm' := (0, 0, 0, 0)) rfl dX10_longestRun_7 rfl mlX10_113 (by repeat first | assumption | exact ax_set_self _ _ _ | exact ax_newA_self _ _ _ | refine (ax_set_ne _ _ (by omega)).trans ?_ | refine (ax_newA_ne _ _ _ (by omega)).trans ?_) rfl rfl rfl rfl rfl ?_
  refine s_X10_isThrown hM0 hA (fun hB f1 mB => ?_)
  show WP Γ _ _ _ _ _ _ _
  have fB := f1
  have hRB := fB.get hR (by omega)
  cases hx1 : inN x np with
  | false =>
    rw [hx1] at mB
    refine wp_if_eq (t := 17) (n := 13) dX10_longestRun_10 (by decide) rfl (fun hq => ?_) (fun hq => ?_)
    · exact absurd hq (by decide)
    · refine wp_iconst (n := 14) (v := 0) dX10_longestRun_13 rfl (by decide) ?_
      refine wp_goto (t := 22) dX10_longestRun_14 (by decide) ?_
      exact wp_ireturn dX10_longestRun_22 rfl rfl (k1 hx1 hB fB mB)
  | true =>
    rw [hx1] at mB
    have mB' := mB
    unfold ModC at mB'
    refine wp_if_eq (t := 17) (n := 13) dX10_longestRun_10 (by decide) rfl (fun hq => ?_) (fun hq => ?_)
    · skip
      obtain ⟨j, j1, rfl⟩ := inN_get (n := np) (by omega) (of_decide_eq_true hx1).1 (of_decide_eq_true hx1).2
      refine wp_aload_n (n := 18) dX10_longestRun_17 rfl rfl ?_
      refine wp_iload_n (n := 19) dX10_longestRun_18 rfl rfl ?_
      refine wp_callV1 (n := 22) (rm' := (1, 60, 0, 0)) rfl dX10_longestRun_19 rfl mlX10_290 (by repeat first | assumption | exact ax_set_self _ _ _ | exact ax_newA_self _ _ _ | refine (ax_set_ne _ _ (by omega)).trans ?_ | refine (ax_newA_ne _ _ _ (by omega)).trans ?_) rfl rfl rfl rfl rfl ?_
      refine s_X10_longestOf mB hRB r0 rM s4 ?_
      show WP Γ _ _ _ _ _ _ _
      exact wp_ireturn dX10_longestRun_22 rfl rfl (k j j1 rfl hB fB mB)
    · exact absurd rfl hq
theorem s_X10_nameByte (hM : ModC h m a th tl at' bg er ea lr cm) (hR : h.2 a = some (.inl (.int, 5061, .inl R))) (hr : RowR R np qu ra re le ln nb pl tm ne rw bk nh hw nc cw t y) (hI : Inv np qu ra re le ln nb pl tm ne rw bk nh hw nc cw t y) (hA : Γ.2.1 ≤ m) (ham : ¬ a = m) 
    (k1 : inN x np = false → ∀ h', ax_fr m (m + 1) h h' → ModC h' m a (nI 1) tl at' bg er ea lr cm → Q (.inl (some (.int 0))) h')
    (k : ∀ j, j < np → x = nI j → ∀ h', ax_fr m (m + 1) h h' → ModC h' m a (0) tl at' bg er ea lr cm → Q (.inl (some (.int (if 0 ≤ z ∧ z < ln j then le (j * 6 + z.toInt.toNat) else -1)))) h') : WP Γ MX10_nameByte (2, 43, 0, 0) 0 [some (.ref m), some (.int x), some (.int z), none] [] h Q := by
  have hM0 := hM
  unfold ModC at hM
  have hI0 := hI
  have hr0 := hr
  obtain ⟨⟨s1, s2, s3, s4, s5, s6, s7, s8, tn, s9, s10⟩, IM, IP, IJ, IR, IC⟩ := hI
  obtain ⟨⟨r0, r1, r2, r3, r4, r5, r6⟩, rM, rP, rJ, rH, rC⟩ := hr
  refine wp_aload_n (n := 1) dX10_nameByte_0 rfl rfl ?_
  refine wp_aload_n (n := 2) dX10_nameByte_1 rfl rfl ?_
  refine wp_iload_n (n := 3) dX10_nameByte_2 rfl rfl ?_
  refine wp_callV1 (n := 6) (rm' := (1, 22, 0, 0)) rfl dX10_nameByte_3 rfl mlX10_109 (by repeat first | assumption | exact ax_set_self _ _ _ | exact ax_newA_self _ _ _ | refine (ax_set_ne _ _ (by omega)).trans ?_ | refine (ax_newA_ne _ _ _ (by omega)).trans ?_) rfl rfl rfl rfl rfl ?_
  refine s_X10_isPool hM0 hR r1 s2 ?_
  show WP Γ _ _ _ _ _ _ _
  refine wp_iconst (n := 7) (v := nI 1) dX10_nameByte_6 rfl (by decide) ?_
  refine wp_callV2 (n := 10) (rm' := (0, 0, 0, 0)) rfl dX10_nameByte_7 rfl mlX10_113 (by repeat first | assumption | exact ax_set_self _ _ _ | exact ax_newA_self _ _ _ | refine (ax_set_ne _ _ (by omega)).trans ?_ | refine (ax_newA_ne _ _ _ (by omega)).trans ?_) rfl rfl rfl rfl rfl ?_
  refine s_X10_isThrown hM0 hA (fun hB f1 mB => ?_)
  show WP Γ _ _ _ _ _ _ _
  have fB := f1
  have hRB := fB.get hR (by omega)
  cases hx1 : inN x np with
  | false =>
    rw [hx1] at mB
    refine wp_if_eq (t := 15) (n := 13) dX10_nameByte_10 (by decide) rfl (fun hq => ?_) (fun hq => ?_)
    · exact absurd hq (by decide)
    · refine wp_iconst (n := 14) (v := 0) dX10_nameByte_13 rfl (by decide) ?_
      exact wp_ireturn dX10_nameByte_14 rfl rfl (k1 hx1 hB fB mB)
  | true =>
    rw [hx1] at mB
    have mB' := mB
    unfold ModC at mB'
    refine wp_if_eq (t := 15) (n := 13) dX10_nameByte_10 (by decide) rfl (fun hq => ?_) (fun hq => ?_)
    · skip
      obtain ⟨j, j1, rfl⟩ := inN_get (n := np) (by omega) (of_decide_eq_true hx1).1 (of_decide_eq_true hx1).2
      have kk := k j j1 rfl hB fB mB
      obtain ⟨_, _, _, u9, u1, u2, u3, u4⟩ := IP j j1
      have no : ¬ (0 ≤ z ∧ z < ln j) → WP Γ MX10_nameByte (2, 43, 0, 0) 39 [some (.ref m), some (.int (nI j)), some (.int z), none] [] hB Q := by
        intro q
        rw [if_neg q] at kk
        refine wp_iconst (n := 40) (v := 0) dX10_nameByte_39 rfl (by decide) ?_
        refine wp_istore_n (n := 41) dX10_nameByte_40 rfl rfl rfl rfl ?_
        refine wp_iload_n (n := 42) dX10_nameByte_41 rfl rfl ?_
        refine wp_if_eq (t := 56) (n := 45) dX10_nameByte_42 (by decide) rfl (fun hs => ?_) (fun hs => ?_)
        · refine wp_iconst (n := 57) (v := (-1)) dX10_nameByte_56 rfl (by decide) ?_
          exact wp_ireturn dX10_nameByte_57 rfl rfl (kk)
        · exact absurd rfl hs
      refine wp_iload_n (n := 16) dX10_nameByte_15 rfl rfl ?_
      refine wp_iconst (n := 17) (v := 0) dX10_nameByte_16 rfl (by decide) ?_
      refine wp_iconst (n := 18) (v := nI 5) dX10_nameByte_17 rfl (by decide) ?_
      refine wp_callS3 (n := 21) (rm' := (0, 0, 0, 0)) rfl dX10_nameByte_18 rfl mlX10_54 rfl rfl rfl rfl ?_
      refine s_X10_inJ (p := 0) (q := 5) rfl rfl ?_
      show WP Γ _ _ _ _ _ _ _
      refine wp_if_eq (t := 39) (n := 24) dX10_nameByte_21 (by decide) rfl (fun hc => ?_) (fun hc => ?_)
      · refine no (fun q => of_decide_eq_false (bI_eq hc) ⟨q.1, ?_⟩)
        obtain ⟨i, i1, rfl⟩ := i32_nat q.1
        have q2 := q.2
        rw [u3] at q2
        have := (nI_lt9 i1 (by omega)).mp q2
        exact (nI_le9 i1 (by omega)).mpr (by omega)
      · obtain ⟨i, i1, i2, rfl⟩ := inI_get (a := 0) (b := 5) (by omega) (by omega) (of_decide_eq_true (bI_ne hc)).1 (of_decide_eq_true (bI_ne hc)).2
        have e9 := (rP j j1).2.2 i (by omega)
        rw [u3] at e9
        refine wp_aload_n (n := 25) dX10_nameByte_24 rfl rfl ?_
        refine wp_iload_n (n := 26) dX10_nameByte_25 rfl rfl ?_
        refine wp_iconst (n := 27) (v := nI 2) dX10_nameByte_26 rfl (by decide) ?_
        refine wp_iload_n (n := 28) dX10_nameByte_27 rfl rfl ?_
        refine wp_iadd (n := 29) dX10_nameByte_28 rfl ?_
        rw [nI_add]
        refine wp_callV2 (n := 32) (rm' := (0, 0, 0, 0)) rfl dX10_nameByte_29 rfl mlX10_69 (by repeat first | assumption | exact ax_set_self _ _ _ | exact ax_newA_self _ _ _ | refine (ax_set_ne _ _ (by omega)).trans ?_ | refine (ax_newA_ne _ _ _ (by omega)).trans ?_) rfl rfl rfl rfl rfl ?_
        refine s_X10_pool mB hRB (by omega) (by omega) ?_
        show WP Γ _ _ _ _ _ _ _
        rw [show 407 + 8 * j + (2 + i) = 407 + 8 * j + 2 + i by omega, e9]
        by_cases q : i < u9
        · rw [if_pos ((nI_lt9 (by omega) (by omega)).mpr q)]
          have k2 := kk
          rw [if_pos ⟨nI_ge0 i (by omega), by rw [u3]; exact (nI_lt9 (by omega) (by omega)).mpr q⟩, nI_toInt (by omega)] at k2
          rw [if_pos ((nI_lt9 (by omega) (by omega)).mpr q)] at e9
          refine wp_if_eq (t := 39) (n := 35) dX10_nameByte_32 (by decide) rfl (fun hs => ?_) (fun hs => ?_)
          · have := u4 i q
            rw [hs] at this
            exact absurd this (by decide)
          · refine wp_iconst (n := 36) (v := nI 1) dX10_nameByte_35 rfl (by decide) ?_
            refine wp_goto (t := 40) dX10_nameByte_36 (by decide) ?_
            refine wp_istore_n (n := 41) dX10_nameByte_40 rfl rfl rfl rfl ?_
            refine wp_iload_n (n := 42) dX10_nameByte_41 rfl rfl ?_
            refine wp_if_eq (t := 56) (n := 45) dX10_nameByte_42 (by decide) rfl (fun hu => ?_) (fun hu => ?_)
            · exact absurd hu (by decide)
            · refine wp_aload_n (n := 46) dX10_nameByte_45 rfl rfl ?_
              refine wp_iload_n (n := 47) dX10_nameByte_46 rfl rfl ?_
              refine wp_iconst (n := 48) (v := nI 2) dX10_nameByte_47 rfl (by decide) ?_
              refine wp_iload_n (n := 49) dX10_nameByte_48 rfl rfl ?_
              refine wp_iadd (n := 50) dX10_nameByte_49 rfl ?_
              rw [nI_add]
              refine wp_callV2 (n := 53) (rm' := (0, 0, 0, 0)) rfl dX10_nameByte_50 rfl mlX10_69 (by repeat first | assumption | exact ax_set_self _ _ _ | exact ax_newA_self _ _ _ | refine (ax_set_ne _ _ (by omega)).trans ?_ | refine (ax_newA_ne _ _ _ (by omega)).trans ?_) rfl rfl rfl rfl rfl ?_
              refine s_X10_pool mB hRB (by omega) (by omega) ?_
              show WP Γ _ _ _ _ _ _ _
              rw [show 407 + 8 * j + (2 + i) = 407 + 8 * j + 2 + i by omega, e9]
              refine wp_goto (t := 57) dX10_nameByte_53 (by decide) ?_
              exact wp_ireturn dX10_nameByte_57 rfl rfl (k2)
        · rw [if_neg (fun z => q ((nI_lt9 (by omega) (by omega)).mp z))]
          refine wp_if_eq (t := 39) (n := 35) dX10_nameByte_32 (by decide) rfl (fun hs => ?_) (fun hs => ?_)
          · exact no (fun z => q ((nI_lt9 (by omega) (by omega)).mp (u3 ▸ z.2)))
          · exact absurd rfl hs
    · exact absurd rfl hq
end
