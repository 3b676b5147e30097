/-! ===== Ledger: adjustments ===== -/
/-- what a pool has by the journal beyond the map -/
def dif (nb : Nat) (pl rw : FI) (ne j : Nat) : Int32 := bkd nb rw (nI j) ne - nI (cnt pl (nI j) nb)
def adjC (nb : Nat) (pl rw : FI) (ne f o : Nat) : Int32 := if - dif nb pl rw ne o < dif nb pl rw ne f then - dif nb pl rw ne o else dif nb pl rw ne f
def posO (nb : Nat) (pl rw : FI) (ne np : Nat) (s : Int32) : Option Nat := fstG (fun j => decide (0 < dif nb pl rw ne j * s)) np 0
/-- the adjustments: the rows, their number, whether they found no place -/
def adjG (nb : Nat) (pl : FI) (np : Nat) (t : Int32) : Nat → FI → Nat → FI × Nat × Bool
  | 0, rw, ne => (rw, ne, false)
  | g + 1, rw, ne => match posO nb pl rw ne np (nI 1), posO nb pl rw ne np (-1) with
    | some f, some o => if 300 ≤ ne then (rw, ne, true) else adjG nb pl np t g (upd7 rw ne (nI f) (nI o) (adjC nb pl rw ne f o) 0 t (nI 2) (-1)) (ne + 1)
    | _, _ => (rw, ne, false)
theorem fstG_some {P : Nat → Bool} : ∀ {g j i : Nat}, fstG P g j = some i → j ≤ i ∧ i < j + g ∧ P i = true
  | 0, _, _, h => by simp [fstG] at h
  | g + 1, j, i, h => by
    unfold fstG at h
    by_cases q : P j = true
    · rw [if_pos q] at h
      cases h
      exact ⟨Nat.le_refl _, by omega, q⟩
    · rw [if_neg q] at h
      obtain ⟨a, b, c⟩ := fstG_some h
      exact ⟨by omega, by omega, c⟩
theorem fstG_congr {P P' : Nat → Bool} : ∀ {g j : Nat}, (∀ i, j ≤ i → i < j + g → P i = P' i) → fstG P g j = fstG P' g j
  | 0, _, _ => rfl
  | g + 1, j, h => by
    unfold fstG
    rw [h j (Nat.le_refl _) (by omega), fstG_congr (fun i h1 h2 => h i (by omega) (by omega))]
theorem sumI_congr {f g : Nat → Int32} : ∀ {n : Nat}, (∀ i, i < n → f i = g i) → sumI f n = sumI g n
  | 0, _ => rfl
  | n + 1, h => by simp only [sumI, sumI_congr (n := n) (fun i hi => h i (by omega)), h n (by omega)]
theorem upd7_lt (rw : FI) {r : Nat} (a b c d e f g : Int32) {i : Nat} (h : i < r * 7) : upd7 rw r a b c d e f g i = rw i := by
  simp only [upd7, upd]
  repeat rw [if_neg (by omega)]
theorem upd7_at (rw : FI) (r : Nat) (a b c d e f g : Int32) : upd7 rw r a b c d e f g (r * 7 + 0) = a ∧ upd7 rw r a b c d e f g (r * 7 + 1) = b ∧ upd7 rw r a b c d e f g (r * 7 + 2) = c ∧ upd7 rw r a b c d e f g (r * 7 + 3) = d ∧ upd7 rw r a b c d e f g (r * 7 + 4) = e ∧ upd7 rw r a b c d e f g (r * 7 + 5) = f ∧ upd7 rw r a b c d e f g (r * 7 + 6) = g := by
  simp [upd7, upd]
theorem bkd_upd7 (nb : Nat) (rw : FI) (ne : Nat) (i j c d t g l x : Int32) : bkd nb (upd7 rw ne i j c d t g l) x (ne + 1) = bkd nb rw x ne + ((if j = x then c else 0) - (if i = x then c else 0)) := by
  unfold bkd
  simp only [sumI]
  rw [sumI_congr (g := chgJ rw x) (fun e he => by unfold chgJ; rw [upd7_lt _ _ _ _ _ _ _ _ (by omega), upd7_lt _ _ _ _ _ _ _ _ (by omega), upd7_lt _ _ _ _ _ _ _ _ (by omega)])]
  obtain ⟨e0, e1, e2, _⟩ := upd7_at rw ne i j c d t g l
  unfold chgJ
  rw [e0, e1, e2, Int32.add_assoc]
theorem i32_sw (a b c : Int32) : a - b + c = a + c - b := by
  rw [Int32.sub_eq_add_neg, Int32.sub_eq_add_neg, Int32.add_assoc, Int32.add_comm (-b), Int32.add_assoc]
theorem i32_sw2 (a b c : Int32) : a - b - c = a + (0 - c) - b := by
  rw [Int32.sub_eq_add_neg, Int32.sub_eq_add_neg, Int32.sub_eq_add_neg, Int32.sub_eq_add_neg, Int32.zero_add, Int32.add_assoc, Int32.add_comm (-b), Int32.add_assoc]
section
variable {Γ : GE} {h : AH} {Q : PO} {b np nb ne nh nc y : Nat} {qu ra le ln pl tm rw hw cw pk su : FI} {re : Nat → UInt32} {bk : Nat → Int64} {t x : Int32}
theorem LedP.sur (hL : LedP h b np qu ra re le ln nb pl tm ne rw bk nh hw nc cw t y pk) (su' : FI) : LedP (ax_set h (b + 18) (.inl (.int, 8, .inl su'))) b np qu ra re le ln nb pl tm ne rw bk nh hw nc cw t y pk := by
  obtain ⟨hO, hP, hM, hJ, hR, hC, su, hS⟩ := hL
  have hF : ax_fr (b + 18) (b + 19) h (ax_set h (b + 18) (.inl (.int, 8, .inl su'))) := ax_fr.set (by omega)
  exact ⟨hF.get hO (by omega), hP.fr hF (by omega), hM.fr hF (by omega), hJ.fr hF (by omega), hR.fr hF (by omega), hC.fr hF (by omega), su', ax_set_self _ _ _⟩
theorem s_X5_firstWithSurplus {s : Int32} (hL : LedP h b np qu ra re le ln nb pl tm ne rw bk nh hw nc cw t y pk) (hS9 : h.2 (b + 18) = some (.inl (.int, 8, .inl su))) (hn : np ≤ 8)
    (k : Q (.inl (some (.int (oI (fstG (fun j => decide (0 < su j * s)) np 0))))) h) : WP Γ MX5_firstWithSurplus (0, 0, 0, 0) 0 [some (.ref b), some (.int s), none] [] h Q := by
  obtain ⟨hO, hP, _⟩ := hL
  have hP1 := hP.1
  refine wp_iconst (n := 1) (v := 0) dX5_firstWithSurplus_0 rfl (by decide) ?_
  refine wp_istore_n (n := 2) dX5_firstWithSurplus_1 rfl rfl rfl rfl ?_
  suffices L : ∀ g j, j + g = np → Q (.inl (some (.int (oI (fstG (fun j => decide (0 < su j * s)) g j))))) h → WP Γ MX5_firstWithSurplus (0, 0, 0, 0) 2 [some (.ref b), some (.int s), some (.int (nI j))] [] h Q from L np 0 (by omega) k
  intro g
  induction g with
  | zero =>
    intro j hj k
    refine wp_iload_n (n := 3) dX5_firstWithSurplus_2 rfl rfl ?_
    refine wp_aload_n (n := 4) dX5_firstWithSurplus_3 rfl rfl ?_
    refine wp_getf (n := 7) dX5_firstWithSurplus_4 rfl flX5_12 (by repeat first | assumption | exact ax_set_self _ _ _ | exact ax_newA_self _ _ _ | refine (ax_set_ne _ _ (by omega)).trans ?_ | refine (ax_newA_ne _ _ _ (by omega)).trans ?_) (by rfl) ?_
    refine wp_getf (n := 10) dX5_firstWithSurplus_7 rfl flX5_167 (by repeat first | assumption | exact ax_set_self _ _ _ | exact ax_newA_self _ _ _ | refine (ax_set_ne _ _ (by omega)).trans ?_ | refine (ax_newA_ne _ _ _ (by omega)).trans ?_) (by rfl) ?_
    refine wp_icmp_ge (t := 32) (n := 13) dX5_firstWithSurplus_10 (by decide) rfl (fun hc => ?_) (fun hc => ?_)
    · refine wp_iconst (n := 33) (v := (-1)) dX5_firstWithSurplus_32 rfl (by decide) ?_
      exact wp_ireturn dX5_firstWithSurplus_33 rfl rfl (k)
    · rw [nI_le9 (by omega) (by omega)] at hc
      exact absurd (by omega) hc
  | succ g ih =>
    intro j hj k
    refine wp_iload_n (n := 3) dX5_firstWithSurplus_2 rfl rfl ?_
    refine wp_aload_n (n := 4) dX5_firstWithSurplus_3 rfl rfl ?_
    refine wp_getf (n := 7) dX5_firstWithSurplus_4 rfl flX5_12 (by repeat first | assumption | exact ax_set_self _ _ _ | exact ax_newA_self _ _ _ | refine (ax_set_ne _ _ (by omega)).trans ?_ | refine (ax_newA_ne _ _ _ (by omega)).trans ?_) (by rfl) ?_
    refine wp_getf (n := 10) dX5_firstWithSurplus_7 rfl flX5_167 (by repeat first | assumption | exact ax_set_self _ _ _ | exact ax_newA_self _ _ _ | refine (ax_set_ne _ _ (by omega)).trans ?_ | refine (ax_newA_ne _ _ _ (by omega)).trans ?_) (by rfl) ?_
    refine wp_icmp_ge (t := 32) (n := 13) dX5_firstWithSurplus_10 (by decide) rfl (fun hc => ?_) (fun hc => ?_)
    · rw [nI_le9 (by omega) (by omega)] at hc
      exact absurd hc (by omega)
    · refine wp_aload_n (n := 14) dX5_firstWithSurplus_13 rfl rfl ?_
      refine wp_getf (n := 17) dX5_firstWithSurplus_14 rfl flX5_53 (by repeat first | assumption | exact ax_set_self _ _ _ | exact ax_newA_self _ _ _ | refine (ax_set_ne _ _ (by omega)).trans ?_ | refine (ax_newA_ne _ _ _ (by omega)).trans ?_) (by rfl) ?_
      refine wp_iload_n (n := 18) dX5_firstWithSurplus_17 rfl rfl ?_
      refine wp_iald (n := 19) _ dX5_firstWithSurplus_18 rfl (by repeat first | assumption | exact ax_set_self _ _ _ | exact ax_newA_self _ _ _ | refine (ax_set_ne _ _ (by omega)).trans ?_ | refine (ax_newA_ne _ _ _ (by omega)).trans ?_) rfl (by omega) (by decide) ?_
      refine wp_iload_n (n := 20) dX5_firstWithSurplus_19 rfl rfl ?_
      refine wp_imul (n := 21) dX5_firstWithSurplus_20 rfl ?_
      refine wp_if_le (t := 26) (n := 24) dX5_firstWithSurplus_21 (by decide) rfl (fun hq => ?_) (fun hq => ?_)
      · refine wp_iinc (n := 29) dX5_firstWithSurplus_26 rfl rfl (nI_inc j) rfl rfl rfl ?_
        refine wp_goto (t := 2) dX5_firstWithSurplus_29 (by decide) ?_
        have e : decide (0 < su j * s) = false := decide_eq_false (Int32.not_lt.mpr hq)
        simp only [fstG, e, Bool.false_eq_true, if_false] at k
        exact ih (j + 1) (by omega) k
      · have e : decide (0 < su j * s) = true := decide_eq_true (i32_not_le hq)
        simp only [fstG, e, if_true] at k
        refine wp_iload_n (n := 25) dX5_firstWithSurplus_24 rfl rfl ?_
        exact wp_ireturn dX5_firstWithSurplus_25 rfl rfl (k)
theorem s_X5_adjust (hL : LedP h b np qu ra re le ln nb pl tm ne rw bk nh hw nc cw t y pk) (hA : Γ.2.1 ≤ b) (hn : nb ≤ 200) (hp : np ≤ 8) (he : ne ≤ 300)
    (k : ∀ h' bk', ax_fr b (b + 19) h h' → (∀ e d, e < (adjG nb pl np t 8 rw ne).2.1 → d < 200 → blk bk' e d = (decide (e < ne) && blk bk e d)) → LedP h' b np qu ra re le ln nb pl tm (if (adjG nb pl np t 8 rw ne).2.2 = true then ne else (adjG nb pl np t 8 rw ne).2.1) ((adjG nb pl np t 8 rw ne).1) bk' nh hw nc cw t y pk → Q (.inl (some (.int (if (adjG nb pl np t 8 rw ne).2.2 = true then -2 else nI (adjG nb pl np t 8 rw ne).2.1 - nI ne)))) h') : WP Γ MX5_adjust (4, 91, 0, 0) 0 [some (.ref b), none, none, none, none, none] [] h Q := by
  have hL0 := hL
  obtain ⟨hO, hP, hM, hJ, hR, hC, su, hS⟩ := hL
  have hP1 := hP.1
  have hM1 := hM.1
  have hJ1 := hJ.1
  have hR1 := hR.1
  have hC1 := hC.1
  have hP2 := hP.2.1
  have hP3 := hP.2.2.1
  have hP4 := hP.2.2.2.1
  have hM2 := hM.2.1
  have hM3 := hM.2.2.1
  have hM4 := hM.2.2.2
  refine wp_aload_n (n := 1) dX5_adjust_0 rfl rfl ?_
  refine wp_getf (n := 4) dX5_adjust_1 rfl flX5_28 (by repeat first | assumption | exact ax_set_self _ _ _ | exact ax_newA_self _ _ _ | refine (ax_set_ne _ _ (by omega)).trans ?_ | refine (ax_newA_ne _ _ _ (by omega)).trans ?_) (by rfl) ?_
  refine wp_getf (n := 7) dX5_adjust_4 rfl flX5_62 (by repeat first | assumption | exact ax_set_self _ _ _ | exact ax_newA_self _ _ _ | refine (ax_set_ne _ _ (by omega)).trans ?_ | refine (ax_newA_ne _ _ _ (by omega)).trans ?_) (by rfl) ?_
  refine wp_istore_n (n := 8) dX5_adjust_7 rfl rfl rfl rfl ?_
  refine wp_iconst (n := 9) (v := 0) dX5_adjust_8 rfl (by decide) ?_
  refine wp_istore_n (n := 10) dX5_adjust_9 rfl rfl rfl rfl ?_
  have L2 : ∀ g turn, turn + g = 8 → ∀ h1 rw1 ne1 bk1 su1 q3 q4 q5, ax_fr b (b + 19) h h1 → ne ≤ ne1 ∧ ne1 ≤ 300 → LedP h1 b np qu ra re le ln nb pl tm ne1 rw1 bk1 nh hw nc cw t y pk → h1.2 (b + 18) = some (.inl (.int, 8, .inl su1)) → (∀ j, j < np → su1 j = dif nb pl rw1 ne1 j) → (∀ e d, e < ne1 → d < 200 → blk bk1 e d = (decide (e < ne) && blk bk e d)) → adjG nb pl np t 8 rw ne = adjG nb pl np t g rw1 ne1 → WP Γ MX5_adjust (4, 91, 0, 0) 49 [some (.ref b), some (.int (nI ne)), some (.int (nI turn)), q3, q4, q5] [] h1 Q := by
    intro g
    induction g with
    | zero =>
      intro turn hg h1 rw1 ne1 bk1 su1 q3 q4 q5 hF1 hne hL1 hS1 hsu hbb hA9
      have hL0 := hL1
      obtain ⟨hO, hP, hM, hJ, hR, hC, su, hS⟩ := hL1
      have hP1 := hP.1
      have hM1 := hM.1
      have hJ1 := hJ.1
      have hR1 := hR.1
      have hC1 := hC.1
      have hP2 := hP.2.1
      have hP3 := hP.2.2.1
      have hP4 := hP.2.2.2.1
      have hM2 := hM.2.1
      have hM3 := hM.2.2.1
      have hM4 := hM.2.2.2
      refine wp_iload_n (n := 50) dX5_adjust_49 rfl rfl ?_
      refine wp_bipush (n := 52) (v := nI 8) dX5_adjust_50 rfl (by decide) ?_
      obtain rfl : turn = 8 := by omega
      rw [hA9] at k
      simp only [adjG, Bool.false_eq_true, if_false] at k
      refine wp_icmp_ge (t := 170) (n := 55) dX5_adjust_52 (by decide) rfl (fun hc => ?_) (fun hc => ?_)
      · refine wp_aload_n (n := 171) dX5_adjust_170 rfl rfl ?_
        refine wp_getf (n := 174) dX5_adjust_171 rfl flX5_28 (by repeat first | assumption | exact ax_set_self _ _ _ | exact ax_newA_self _ _ _ | refine (ax_set_ne _ _ (by omega)).trans ?_ | refine (ax_newA_ne _ _ _ (by omega)).trans ?_) (by rfl) ?_
        refine wp_getf (n := 177) dX5_adjust_174 rfl flX5_62 (by repeat first | assumption | exact ax_set_self _ _ _ | exact ax_newA_self _ _ _ | refine (ax_set_ne _ _ (by omega)).trans ?_ | refine (ax_newA_ne _ _ _ (by omega)).trans ?_) (by rfl) ?_
        refine wp_iload_n (n := 178) dX5_adjust_177 rfl rfl ?_
        refine wp_isub (n := 179) dX5_adjust_178 rfl ?_
        exact wp_ireturn dX5_adjust_179 rfl rfl (k _ bk1 hF1 hbb hL0)
      · exact absurd (by decide) hc
    | succ g ih =>
      intro turn hg h1 rw1 ne1 bk1 su1 q3 q4 q5 hF1 hne hL1 hS1 hsu hbb hA9
      have hL0 := hL1
      obtain ⟨hO, hP, hM, hJ, hR, hC, su, hS⟩ := hL1
      have hP1 := hP.1
      have hM1 := hM.1
      have hJ1 := hJ.1
      have hR1 := hR.1
      have hC1 := hC.1
      have hP2 := hP.2.1
      have hP3 := hP.2.2.1
      have hP4 := hP.2.2.2.1
      have hM2 := hM.2.1
      have hM3 := hM.2.2.1
      have hM4 := hM.2.2.2
      have pe : ∀ s, fstG (fun j => decide (0 < su1 j * s)) np 0 = posO nb pl rw1 ne1 np s := fun s => fstG_congr (fun i _ hi => by rw [hsu i (by omega)])
      refine wp_iload_n (n := 50) dX5_adjust_49 rfl rfl ?_
      refine wp_bipush (n := 52) (v := nI 8) dX5_adjust_50 rfl (by decide) ?_
      refine wp_icmp_ge (t := 170) (n := 55) dX5_adjust_52 (by decide) rfl (fun hc => ?_) (fun hc => ?_)
      · rw [nI_le9 (by omega) (by omega)] at hc
        exact absurd hc (by omega)
      · refine wp_aload_n (n := 56) dX5_adjust_55 rfl rfl ?_
        refine wp_iconst (n := 57) (v := nI 1) dX5_adjust_56 rfl (by decide) ?_
        refine wp_callV1 (n := 60) (rm' := (0, 0, 0, 0)) rfl dX5_adjust_57 rfl mlX5_203 (by repeat first | assumption | exact ax_set_self _ _ _ | exact ax_newA_self _ _ _ | refine (ax_set_ne _ _ (by omega)).trans ?_ | refine (ax_newA_ne _ _ _ (by omega)).trans ?_) rfl rfl rfl rfl rfl ?_
        refine s_X5_firstWithSurplus hL0 hS1 hp ?_
        show WP Γ _ _ _ _ _ _ _
        refine wp_istore_n (n := 61) dX5_adjust_60 rfl rfl rfl rfl ?_
        refine wp_aload_n (n := 62) dX5_adjust_61 rfl rfl ?_
        refine wp_iconst (n := 63) (v := (-1)) dX5_adjust_62 rfl (by decide) ?_
        refine wp_callV1 (n := 66) (rm' := (0, 0, 0, 0)) rfl dX5_adjust_63 rfl mlX5_203 (by repeat first | assumption | exact ax_set_self _ _ _ | exact ax_newA_self _ _ _ | refine (ax_set_ne _ _ (by omega)).trans ?_ | refine (ax_newA_ne _ _ _ (by omega)).trans ?_) rfl rfl rfl rfl rfl ?_
        refine s_X5_firstWithSurplus hL0 hS1 hp ?_
        show WP Γ _ _ _ _ _ _ _
        refine wp_istore (n := 68) dX5_adjust_66 rfl rfl rfl rfl ?_
        refine wp_iload_n (n := 69) dX5_adjust_68 rfl rfl ?_
        refine wp_iconst (n := 70) (v := (-1)) dX5_adjust_69 rfl (by decide) ?_
        rw [pe, pe]
        cases hf : posO nb pl rw1 ne1 np (nI 1) with
        | none =>
          have e9 : adjG nb pl np t (g + 1) rw1 ne1 = (rw1, ne1, false) := by unfold adjG; rw [hf]
          rw [hA9, e9] at k
          refine wp_icmp_eq (t := 170) (n := 73) dX5_adjust_70 (by decide) rfl (fun hq => ?_) (fun hq => ?_)
          · refine wp_aload_n (n := 171) dX5_adjust_170 rfl rfl ?_
            refine wp_getf (n := 174) dX5_adjust_171 rfl flX5_28 (by repeat first | assumption | exact ax_set_self _ _ _ | exact ax_newA_self _ _ _ | refine (ax_set_ne _ _ (by omega)).trans ?_ | refine (ax_newA_ne _ _ _ (by omega)).trans ?_) (by rfl) ?_
            refine wp_getf (n := 177) dX5_adjust_174 rfl flX5_62 (by repeat first | assumption | exact ax_set_self _ _ _ | exact ax_newA_self _ _ _ | refine (ax_set_ne _ _ (by omega)).trans ?_ | refine (ax_newA_ne _ _ _ (by omega)).trans ?_) (by rfl) ?_
            refine wp_iload_n (n := 178) dX5_adjust_177 rfl rfl ?_
            refine wp_isub (n := 179) dX5_adjust_178 rfl ?_
            exact wp_ireturn dX5_adjust_179 rfl rfl (k _ bk1 hF1 hbb hL0)
          · exact absurd rfl hq
        | some f =>
          obtain ⟨_, hf2, _⟩ := fstG_some hf
          refine wp_icmp_eq (t := 170) (n := 73) dX5_adjust_70 (by decide) rfl (fun hq => ?_) (fun hq => ?_)
          · exact absurd hq (nI_ne_neg (by omega))
          · refine wp_iload (n := 75) dX5_adjust_73 rfl rfl ?_
            refine wp_iconst (n := 76) (v := (-1)) dX5_adjust_75 rfl (by decide) ?_
            cases ho : posO nb pl rw1 ne1 np (-1) with
            | none =>
              have e9 : adjG nb pl np t (g + 1) rw1 ne1 = (rw1, ne1, false) := by unfold adjG; rw [hf, ho]
              rw [hA9, e9] at k
              refine wp_icmp_ne (t := 82) (n := 79) dX5_adjust_76 (by decide) rfl (fun hr => ?_) (fun hr => ?_)
              · exact absurd rfl hr
              · refine wp_goto (t := 170) dX5_adjust_79 (by decide) ?_
                refine wp_aload_n (n := 171) dX5_adjust_170 rfl rfl ?_
                refine wp_getf (n := 174) dX5_adjust_171 rfl flX5_28 (by repeat first | assumption | exact ax_set_self _ _ _ | exact ax_newA_self _ _ _ | refine (ax_set_ne _ _ (by omega)).trans ?_ | refine (ax_newA_ne _ _ _ (by omega)).trans ?_) (by rfl) ?_
                refine wp_getf (n := 177) dX5_adjust_174 rfl flX5_62 (by repeat first | assumption | exact ax_set_self _ _ _ | exact ax_newA_self _ _ _ | refine (ax_set_ne _ _ (by omega)).trans ?_ | refine (ax_newA_ne _ _ _ (by omega)).trans ?_) (by rfl) ?_
                refine wp_iload_n (n := 178) dX5_adjust_177 rfl rfl ?_
                refine wp_isub (n := 179) dX5_adjust_178 rfl ?_
                exact wp_ireturn dX5_adjust_179 rfl rfl (k _ bk1 hF1 hbb hL0)
            | some o =>
              obtain ⟨_, ho2, _⟩ := fstG_some ho
              refine wp_icmp_ne (t := 82) (n := 79) dX5_adjust_76 (by decide) rfl (fun hr => ?_) (fun hr => ?_)
              · refine wp_aload_n (n := 83) dX5_adjust_82 rfl rfl ?_
                refine wp_getf (n := 86) dX5_adjust_83 rfl flX5_28 (by repeat first | assumption | exact ax_set_self _ _ _ | exact ax_newA_self _ _ _ | refine (ax_set_ne _ _ (by omega)).trans ?_ | refine (ax_newA_ne _ _ _ (by omega)).trans ?_) (by rfl) ?_
                refine wp_callV0 (n := 89) (rm' := (0, 0, 0, 0)) rfl dX5_adjust_86 rfl mlX5_113 (by repeat first | assumption | exact ax_set_self _ _ _ | exact ax_newA_self _ _ _ | refine (ax_set_ne _ _ (by omega)).trans ?_ | refine (ax_newA_ne _ _ _ (by omega)).trans ?_) rfl rfl rfl rfl rfl ?_
                refine s_X4_isFull hJ hne.2 ?_
                show WP Γ _ _ _ _ _ _ _
                refine wp_if_eq (t := 103) (n := 92) dX5_adjust_89 (by decide) rfl (fun hs => ?_) (fun hs => ?_)
                · have hfl : ¬ 300 ≤ ne1 := of_decide_eq_false (bI_eq hs)
                  have e9 : adjG nb pl np t (g + 1) rw1 ne1 = adjG nb pl np t g (upd7 rw1 ne1 (nI f) (nI o) (adjC nb pl rw1 ne1 f o) 0 t (nI 2) (-1)) (ne1 + 1) := by
                    conv => lhs; unfold adjG
                    rw [hf, ho]
                    simp only [if_neg hfl]
                  refine wp_aload_n (n := 104) dX5_adjust_103 rfl rfl ?_
                  refine wp_getf (n := 107) dX5_adjust_104 rfl flX5_53 (by repeat first | assumption | exact ax_set_self _ _ _ | exact ax_newA_self _ _ _ | refine (ax_set_ne _ _ (by omega)).trans ?_ | refine (ax_newA_ne _ _ _ (by omega)).trans ?_) (by rfl) ?_
                  refine wp_iload_n (n := 108) dX5_adjust_107 rfl rfl ?_
                  refine wp_iald (n := 109) f dX5_adjust_108 rfl hS1 rfl (by omega) (by omega) ?_
                  refine wp_aload_n (n := 110) dX5_adjust_109 rfl rfl ?_
                  refine wp_getf (n := 113) dX5_adjust_110 rfl flX5_53 (by repeat first | assumption | exact ax_set_self _ _ _ | exact ax_newA_self _ _ _ | refine (ax_set_ne _ _ (by omega)).trans ?_ | refine (ax_newA_ne _ _ _ (by omega)).trans ?_) (by rfl) ?_
                  refine wp_iload (n := 115) dX5_adjust_113 rfl rfl ?_
                  refine wp_iald (n := 116) o dX5_adjust_115 rfl hS1 rfl (by omega) (by omega) ?_
                  refine wp_ineg (n := 117) dX5_adjust_116 rfl ?_
                  rw [hsu f (by omega), hsu o (by omega)]
                  refine wp_mmin (n := 120) dX5_adjust_117 rfl mnX5_206 ax_mns ax_mi ax_mnc rfl rfl ?_
                  refine wp_istore (n := 122) dX5_adjust_120 rfl rfl rfl rfl ?_
                  refine wp_aload_n (n := 123) dX5_adjust_122 rfl rfl ?_
                  refine wp_getf (n := 126) dX5_adjust_123 rfl flX5_53 (by repeat first | assumption | exact ax_set_self _ _ _ | exact ax_newA_self _ _ _ | refine (ax_set_ne _ _ (by omega)).trans ?_ | refine (ax_newA_ne _ _ _ (by omega)).trans ?_) (by rfl) ?_
                  refine wp_iload_n (n := 127) dX5_adjust_126 rfl rfl ?_
                  refine wp_dup2 (n := 128) dX5_adjust_127 rfl rfl rfl ?_
                  refine wp_iald (n := 129) f dX5_adjust_128 rfl hS1 rfl (by omega) (by omega) ?_
                  refine wp_iload (n := 131) dX5_adjust_129 rfl rfl ?_
                  refine wp_isub (n := 132) dX5_adjust_131 rfl ?_
                  refine wp_iast (n := 133) f dX5_adjust_132 rfl hS1 (by omega) rfl (by omega) (by omega) ?_
                  have hL2 := hL0.sur (upd su1 f (su1 f - (if -dif nb pl rw1 ne1 o < dif nb pl rw1 ne1 f then -dif nb pl rw1 ne1 o else dif nb pl rw1 ne1 f)))
                  have hL0 := hL2
                  obtain ⟨hO, hP, hM, hJ, hR, hC, su, hS⟩ := hL2
                  have hP1 := hP.1
                  have hM1 := hM.1
                  have hJ1 := hJ.1
                  have hR1 := hR.1
                  have hC1 := hC.1
                  have hP2 := hP.2.1
                  have hP3 := hP.2.2.1
                  have hP4 := hP.2.2.2.1
                  have hM2 := hM.2.1
                  have hM3 := hM.2.2.1
                  have hM4 := hM.2.2.2
                  refine wp_aload_n (n := 134) dX5_adjust_133 rfl rfl ?_
                  refine wp_getf (n := 137) dX5_adjust_134 rfl flX5_53 (by repeat first | assumption | exact ax_set_self _ _ _ | exact ax_newA_self _ _ _ | refine (ax_set_ne _ _ (by omega)).trans ?_ | refine (ax_newA_ne _ _ _ (by omega)).trans ?_) (by rfl) ?_
                  refine wp_iload (n := 139) dX5_adjust_137 rfl rfl ?_
                  refine wp_dup2 (n := 140) dX5_adjust_139 rfl rfl rfl ?_
                  refine wp_iald (n := 141) o dX5_adjust_140 rfl (ax_set_self _ _ _) rfl (by omega) (by omega) ?_
                  refine wp_iload (n := 143) dX5_adjust_141 rfl rfl ?_
                  refine wp_iadd (n := 144) dX5_adjust_143 rfl ?_
                  refine wp_iast (n := 145) o dX5_adjust_144 rfl (ax_set_self _ _ _) (by omega) rfl (by omega) (by omega) ?_
                  have hL3 := hL0.sur (upd (upd su1 f (su1 f - (if -dif nb pl rw1 ne1 o < dif nb pl rw1 ne1 f then -dif nb pl rw1 ne1 o else dif nb pl rw1 ne1 f))) o (upd su1 f (su1 f - (if -dif nb pl rw1 ne1 o < dif nb pl rw1 ne1 f then -dif nb pl rw1 ne1 o else dif nb pl rw1 ne1 f)) o + (if -dif nb pl rw1 ne1 o < dif nb pl rw1 ne1 f then -dif nb pl rw1 ne1 o else dif nb pl rw1 ne1 f)))
                  have hL0 := hL3
                  obtain ⟨hO, hP, hM, hJ, hR, hC, su, hS⟩ := hL3
                  have hP1 := hP.1
                  have hM1 := hM.1
                  have hJ1 := hJ.1
                  have hR1 := hR.1
                  have hC1 := hC.1
                  have hP2 := hP.2.1
                  have hP3 := hP.2.2.1
                  have hP4 := hP.2.2.2.1
                  have hM2 := hM.2.1
                  have hM3 := hM.2.2.1
                  have hM4 := hM.2.2.2
                  refine wp_aload_n (n := 146) dX5_adjust_145 rfl rfl ?_
                  refine wp_getf (n := 149) dX5_adjust_146 rfl flX5_28 (by repeat first | assumption | exact ax_set_self _ _ _ | exact ax_newA_self _ _ _ | refine (ax_set_ne _ _ (by omega)).trans ?_ | refine (ax_newA_ne _ _ _ (by omega)).trans ?_) (by rfl) ?_
                  refine wp_iload_n (n := 150) dX5_adjust_149 rfl rfl ?_
                  refine wp_iload (n := 152) dX5_adjust_150 rfl rfl ?_
                  refine wp_iload (n := 154) dX5_adjust_152 rfl rfl ?_
                  refine wp_iconst (n := 155) (v := 0) dX5_adjust_154 rfl (by decide) ?_
                  refine wp_aload_n (n := 156) dX5_adjust_155 rfl rfl ?_
                  refine wp_getf (n := 159) dX5_adjust_156 rfl flX5_46 (by repeat first | assumption | exact ax_set_self _ _ _ | exact ax_newA_self _ _ _ | refine (ax_set_ne _ _ (by omega)).trans ?_ | refine (ax_newA_ne _ _ _ (by omega)).trans ?_) (by rfl) ?_
                  refine wp_iconst (n := 160) (v := nI 2) dX5_adjust_159 rfl (by decide) ?_
                  refine wp_callV6 (n := 163) (rm' := (0, 0, 0, 0)) rfl dX5_adjust_160 rfl mlX5_157 (by repeat first | assumption | exact ax_set_self _ _ _ | exact ax_newA_self _ _ _ | refine (ax_set_ne _ _ (by omega)).trans ?_ | refine (ax_newA_ne _ _ _ (by omega)).trans ?_) rfl rfl rfl rfl rfl ?_
                  refine s_X4_add hJ (by omega) (by omega) (fun h4 bk4 hF4 hJ4 hz4 => ?_)
                  show WP Γ _ _ _ _ _ _ _
                  refine wp_pop (n := 164) dX5_adjust_163 rfl rfl ?_
                  refine wp_iinc (n := 167) dX5_adjust_164 rfl rfl (nI_inc turn) rfl rfl rfl ?_
                  refine wp_goto (t := 49) dX5_adjust_167 (by decide) ?_
                  refine ih (turn + 1) (by omega) h4 _ (ne1 + 1) bk4 _ _ _ _ (((hF1.put (by omega)).put (by omega)).tr (lo := b) (hi := b + 19) hF4 (by omega) (by omega)) ⟨by omega, by omega⟩ (hL0.jrn hF4 hJ4) (hF4.get (ax_set_self _ _ _) (by omega)) (fun j hj => ?_) (fun e d h8 h9 => ?_) (hA9.trans e9)
                  · change _ = bkd nb (upd7 rw1 ne1 (nI f) (nI o) (if -dif nb pl rw1 ne1 o < dif nb pl rw1 ne1 f then -dif nb pl rw1 ne1 o else dif nb pl rw1 ne1 f) 0 t (nI 2) (-1)) (nI j) (ne1 + 1) - nI (cnt pl (nI j) nb)
                    rw [bkd_upd7]
                    generalize (if -dif nb pl rw1 ne1 o < dif nb pl rw1 ne1 f then -dif nb pl rw1 ne1 o else dif nb pl rw1 ne1 f) = c
                    have e3 := hsu j hj
                    rw [show dif nb pl rw1 ne1 j = bkd nb rw1 (nI j) ne1 - nI (cnt pl (nI j) nb) from rfl] at e3
                    simp only [upd]
                    by_cases qo : j = o
                    · subst qo
                      rw [if_pos rfl, if_pos rfl]
                      by_cases qf : j = f
                      · subst qf
                        rw [if_pos rfl, if_pos rfl, e3, Int32.sub_self, Int32.add_zero, Int32.sub_add_cancel]
                      · rw [if_neg qf, if_neg (fun z => qf ((nI_eq9 (by omega) (by omega)).mp z).symm), e3, Int32.sub_zero]
                        exact i32_sw _ _ _
                    · rw [if_neg qo, if_neg (fun z => qo ((nI_eq9 (by omega) (by omega)).mp z).symm)]
                      by_cases qf : j = f
                      · subst qf
                        rw [if_pos rfl, if_pos rfl, e3]
                        exact i32_sw2 _ _ _
                      · rw [if_neg qf, if_neg (fun z => qf ((nI_eq9 (by omega) (by omega)).mp z).symm), e3, Int32.sub_zero, Int32.add_zero]
                  · by_cases q : e < ne1
                    · rw [← hbb e d q h9]
                      unfold blk
                      rw [hz4, if_neg (by omega)]
                    · obtain rfl : e = ne1 := by omega
                      rw [blk_zero (fun i h1 h2 => by rw [hz4, if_pos ⟨h1, h2⟩]) h9, decide_eq_false (by omega), Bool.false_and]
                · have hfl : 300 ≤ ne1 := of_decide_eq_true (bI_ne hs)
                  have e9 : adjG nb pl np t (g + 1) rw1 ne1 = (rw1, ne1, true) := by
                    unfold adjG
                    rw [hf, ho]
                    simp only [if_pos hfl]
                  rw [hA9, e9] at k
                  simp only [if_true] at k
                  refine wp_aload_n (n := 93) dX5_adjust_92 rfl rfl ?_
                  refine wp_getf (n := 96) dX5_adjust_93 rfl flX5_28 (by repeat first | assumption | exact ax_set_self _ _ _ | exact ax_newA_self _ _ _ | refine (ax_set_ne _ _ (by omega)).trans ?_ | refine (ax_newA_ne _ _ _ (by omega)).trans ?_) (by rfl) ?_
                  refine wp_iload_n (n := 97) dX5_adjust_96 rfl rfl ?_
                  refine wp_putf (n := 100) dX5_adjust_97 rfl flX5_62 (by repeat first | assumption | exact ax_set_self _ _ _ | exact ax_newA_self _ _ _ | refine (ax_set_ne _ _ (by omega)).trans ?_ | refine (ax_newA_ne _ _ _ (by omega)).trans ?_) (by omega) (by rfl) rfl rfl ?_
                  refine wp_bipush (n := 102) (v := (-2)) dX5_adjust_100 rfl (by decide) ?_
                  exact wp_ireturn dX5_adjust_102 rfl rfl (k _ bk1 (hF1.put (by omega)) hbb (hL0.jrn (ax_fr.set (by omega)) (hJ.setN ne)))
              · exact absurd hr (nI_ne_neg (by omega))
  have L1 : ∀ j, j ≤ np → ∀ h1 su1, ax_fr b (b + 19) h h1 → LedP h1 b np qu ra re le ln nb pl tm ne rw bk nh hw nc cw t y pk → h1.2 (b + 18) = some (.inl (.int, 8, .inl su1)) → (∀ i, i < j → su1 i = dif nb pl rw ne i) → WP Γ MX5_adjust (4, 91, 0, 0) 10 [some (.ref b), some (.int (nI ne)), some (.int (nI j)), none, none, none] [] h1 Q := by
    refine ax_up np (fun j hj ih => ?_)
    intro h1 su1 hF1 hL1 hS1 hsu
    have hL0 := hL1
    obtain ⟨hO, hP, hM, hJ, hR, hC, su, hS⟩ := hL1
    have hP1 := hP.1
    have hM1 := hM.1
    have hJ1 := hJ.1
    have hR1 := hR.1
    have hC1 := hC.1
    have hP2 := hP.2.1
    have hP3 := hP.2.2.1
    have hP4 := hP.2.2.2.1
    have hM2 := hM.2.1
    have hM3 := hM.2.2.1
    have hM4 := hM.2.2.2
    refine wp_iload_n (n := 11) dX5_adjust_10 rfl rfl ?_
    refine wp_aload_n (n := 12) dX5_adjust_11 rfl rfl ?_
    refine wp_getf (n := 15) dX5_adjust_12 rfl flX5_12 (by repeat first | assumption | exact ax_set_self _ _ _ | exact ax_newA_self _ _ _ | refine (ax_set_ne _ _ (by omega)).trans ?_ | refine (ax_newA_ne _ _ _ (by omega)).trans ?_) (by rfl) ?_
    refine wp_getf (n := 18) dX5_adjust_15 rfl flX5_167 (by repeat first | assumption | exact ax_set_self _ _ _ | exact ax_newA_self _ _ _ | refine (ax_set_ne _ _ (by omega)).trans ?_ | refine (ax_newA_ne _ _ _ (by omega)).trans ?_) (by rfl) ?_
    refine wp_icmp_ge (t := 47) (n := 21) dX5_adjust_18 (by decide) rfl (fun hc => ?_) (fun hc => ?_)
    · rw [nI_le9 (by omega) (by omega)] at hc
      obtain rfl : j = np := by omega
      refine wp_iconst (n := 48) (v := 0) dX5_adjust_47 rfl (by decide) ?_
      refine wp_istore_n (n := 49) dX5_adjust_48 rfl rfl rfl rfl ?_
      exact L2 8 0 (by omega) h1 rw ne bk su1 _ _ _ hF1 ⟨Nat.le_refl _, he⟩ hL0 hS1 hsu (fun e d h1 h2 => by rw [decide_eq_true h1, Bool.true_and]) rfl
    · rw [nI_le9 (by omega) (by omega)] at hc
      refine wp_aload_n (n := 22) dX5_adjust_21 rfl rfl ?_
      refine wp_getf (n := 25) dX5_adjust_22 rfl flX5_53 (by repeat first | assumption | exact ax_set_self _ _ _ | exact ax_newA_self _ _ _ | refine (ax_set_ne _ _ (by omega)).trans ?_ | refine (ax_newA_ne _ _ _ (by omega)).trans ?_) (by rfl) ?_
      refine wp_iload_n (n := 26) dX5_adjust_25 rfl rfl ?_
      refine wp_aload_n (n := 27) dX5_adjust_26 rfl rfl ?_
      refine wp_iload_n (n := 28) dX5_adjust_27 rfl rfl ?_
      refine wp_callV1 (n := 31) (rm' := (3, 70, 0, 0)) rfl dX5_adjust_28 rfl mlX5_200 (by repeat first | assumption | exact ax_set_self _ _ _ | exact ax_newA_self _ _ _ | refine (ax_set_ne _ _ (by omega)).trans ?_ | refine (ax_newA_ne _ _ _ (by omega)).trans ?_) rfl rfl rfl rfl rfl ?_
      refine s_X5_bookedIn hL0 he ?_
      show WP Γ _ _ _ _ _ _ _
      refine wp_aload_n (n := 32) dX5_adjust_31 rfl rfl ?_
      refine wp_getf (n := 35) dX5_adjust_32 rfl flX5_21 (by repeat first | assumption | exact ax_set_self _ _ _ | exact ax_newA_self _ _ _ | refine (ax_set_ne _ _ (by omega)).trans ?_ | refine (ax_newA_ne _ _ _ (by omega)).trans ?_) (by rfl) ?_
      refine wp_iload_n (n := 36) dX5_adjust_35 rfl rfl ?_
      refine wp_callV1 (n := 39) (rm' := (0, 0, 0, 0)) rfl dX5_adjust_36 rfl mlX5_83 (by repeat first | assumption | exact ax_set_self _ _ _ | exact ax_newA_self _ _ _ | refine (ax_set_ne _ _ (by omega)).trans ?_ | refine (ax_newA_ne _ _ _ (by omega)).trans ?_) rfl rfl rfl rfl rfl ?_
      refine s_X1_countIn hM hn ?_
      show WP Γ _ _ _ _ _ _ _
      refine wp_isub (n := 40) dX5_adjust_39 rfl ?_
      refine wp_iast (n := 41) j dX5_adjust_40 rfl hS1 (by omega) rfl (by omega) (by omega) ?_
      refine wp_iinc (n := 44) dX5_adjust_41 rfl rfl (nI_inc j) rfl rfl rfl ?_
      refine wp_goto (t := 10) dX5_adjust_44 (by decide) ?_
      refine ih (by omega) _ _ (hF1.put (by omega)) (hL0.sur _) (ax_set_self _ _ _) (fun i hi => ?_)
      simp only [upd]
      by_cases q : i = j
      · rw [if_pos q, q]; rfl
      · rw [if_neg q]; exact hsu i (by omega)
  exact L1 0 (Nat.zero_le _) h su ax_fr.rf hL0 hS (fun i hi => absurd hi (Nat.not_lt_zero _))
end
