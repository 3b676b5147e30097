/-! ===== the reference: the fitting run, all picks ===== -/
def fitO (f : Nat × Nat) : Option Nat := if f.2 = 201 then none else some f.1
section
variable {Γ : GE} {h : AH} {Q : PO} {m a nb y : Nat} {R : FI} {pl tm pk : FI} {x th tl at' bg er ea lr cm : Int32}
theorem s_X10_fittingRun {w : Nat} (hM : ModC h m a th tl at' bg er ea lr cm) (hR : h.2 a = some (.inl (.int, 5061, .inl R))) (hS0 : R 0 = nI nb) (hm : RowM R nb pl tm) (hn : nb ≤ 200) (hw : w ≤ 200) (hw1 : 1 ≤ w)
    (k : Q (.inl (some (.int (oI (fitO (fitS pl nb x w nb)))))) h) : WP Γ MX10_fittingRun (1, 22, 0, 0) 0 [some (.ref m), some (.int x), some (.int (nI w)), none, none, none, none] [] h Q := by
  have hM0 := hM
  unfold ModC at hM
  refine wp_iconst (n := 1) (v := (-1)) dX10_fittingRun_0 rfl (by decide) ?_
  refine wp_istore_n (n := 2) dX10_fittingRun_1 rfl rfl rfl rfl ?_
  refine wp_sipush (n := 5) (v := nI 201) dX10_fittingRun_2 rfl (by decide) ?_
  refine wp_istore (n := 7) dX10_fittingRun_5 rfl rfl rfl rfl ?_
  refine wp_iconst (n := 8) (v := 0) dX10_fittingRun_7 rfl (by decide) ?_
  refine wp_istore (n := 10) dX10_fittingRun_8 rfl rfl rfl rfl ?_
  refine wp_iconst (n := 11) (v := 0) dX10_fittingRun_10 rfl (by decide) ?_
  refine wp_istore (n := 13) dX10_fittingRun_11 rfl rfl rfl rfl ?_
  suffices L : ∀ j, j ≤ nb + 1 → ∀ bgn, bgn ≤ 1000 → (j ≤ nb → bgn + runL pl x j = j) → WP Γ MX10_fittingRun (1, 22, 0, 0) 13 [some (.ref m), some (.int x), some (.int (nI w)), some (.int (oI (fitO (fitS pl nb x w (j - 1))))), some (.int (nI (fitS pl nb x w (j - 1)).2)), some (.int (nI bgn)), some (.int (nI j))] [] h Q from L 0 (by omega) 0 (by omega) (fun _ => rfl)
  refine ax_up (nb + 1) (fun j hj ih => ?_)
  intro bgn hb0 hbg
  obtain ⟨g1, g2⟩ := fitS_le pl nb x w (j - 1)
  refine wp_iload (n := 15) dX10_fittingRun_13 rfl rfl ?_
  refine wp_aload_n (n := 16) dX10_fittingRun_15 rfl rfl ?_
  refine wp_getf (n := 19) dX10_fittingRun_16 rfl flX10_9 (by repeat first | assumption | exact ax_set_self _ _ _ | exact ax_newA_self _ _ _ | refine (ax_set_ne _ _ (by omega)).trans ?_ | refine (ax_newA_ne _ _ _ (by omega)).trans ?_) (by rfl) ?_
  refine wp_iconst (n := 20) (v := 0) dX10_fittingRun_19 rfl (by decide) ?_
  refine wp_iald (n := 21) 0 dX10_fittingRun_20 rfl hR rfl (by omega) (by omega) ?_
  rw [hS0]
  refine wp_icmp_gt (t := 78) (n := 24) dX10_fittingRun_21 (by decide) rfl (fun hc => ?_) (fun hc => ?_)
  · rw [nI_lt9 (by omega) (by omega)] at hc
    obtain rfl : j = nb + 1 := by omega
    refine wp_iload_n (n := 79) dX10_fittingRun_78 rfl rfl ?_
    exact wp_ireturn dX10_fittingRun_79 rfl rfl (k)
  · rw [nI_lt9 (by omega) (by omega)] at hc
    have hjn : j ≤ nb := by omega
    have hbg := hbg hjn
    have ih := ih (by omega)
    rw [Nat.add_sub_cancel] at ih
    refine wp_aload_n (n := 25) dX10_fittingRun_24 rfl rfl ?_
    refine wp_iload (n := 27) dX10_fittingRun_25 rfl rfl ?_
    refine wp_iload_n (n := 28) dX10_fittingRun_27 rfl rfl ?_
    refine wp_callV2 (n := 31) (rm' := (0, 0, 0, 0)) rfl dX10_fittingRun_28 rfl mlX10_72 (by repeat first | assumption | exact ax_set_self _ _ _ | exact ax_newA_self _ _ _ | refine (ax_set_ne _ _ (by omega)).trans ?_ | refine (ax_newA_ne _ _ _ (by omega)).trans ?_) rfl rfl rfl rfl rfl ?_
    refine s_X10_isIn hM0 hR hS0 hm hn (by omega) ?_
    show WP Γ _ _ _ _ _ _ _
    refine wp_if_eq (t := 37) (n := 34) dX10_fittingRun_31 (by decide) rfl (fun hq => ?_) (fun hq => ?_)
    · have hno := of_decide_eq_false (bI_eq hq)
      have tail : ∀ v1 v2, v1 = oI (fitO (fitS pl nb x w j)) → v2 = nI (fitS pl nb x w j).2 → WP Γ MX10_fittingRun (1, 22, 0, 0) 66 [some (.ref m), some (.int x), some (.int (nI w)), some (.int v1), some (.int v2), some (.int (nI bgn)), some (.int (nI j))] [] h Q := by
        intro v1 v2 e1 e2
        subst e1
        subst e2
        refine wp_iload (n := 68) dX10_fittingRun_66 rfl rfl ?_
        refine wp_iconst (n := 69) (v := nI 1) dX10_fittingRun_68 rfl (by decide) ?_
        refine wp_iadd (n := 70) dX10_fittingRun_69 rfl ?_
        rw [nI_add]
        refine wp_istore (n := 72) dX10_fittingRun_70 rfl rfl rfl rfl ?_
        refine wp_iinc (n := 75) dX10_fittingRun_72 rfl rfl (nI_inc j) rfl rfl rfl ?_
        refine wp_goto (t := 13) dX10_fittingRun_75 (by decide) ?_
        refine ih (j + 1) (by omega) (fun hj1 => ?_)
        have : ¬ pl j = x := fun z => hno ⟨by omega, z⟩
        simp only [runL, if_neg this]
      -- what the class does with the block ahead
      have stp : fitS pl nb x w j = if w ≤ runL pl x j ∧ runL pl x j < (fitS pl nb x w (j - 1)).2 then (j - runL pl x j, runL pl x j) else fitS pl nb x w (j - 1) := by
        cases j with
        | zero =>
          exact (if_neg (fun z => by have : runL pl x 0 = 0 := rfl; omega)).symm
        | succ i =>
          rw [Nat.add_sub_cancel]
          conv => lhs; unfold fitS
          by_cases e : pl i = x
          · have e2 : endsR pl nb x i = true := by
              refine decide_eq_true ⟨e, ?_⟩
              by_cases e3 : i + 1 < nb
              · exact Or.inr (fun z => hno ⟨e3, z⟩)
              · exact Or.inl (by omega)
            simp only [e2, true_and]
          · have e2 : endsR pl nb x i = false := by
              unfold endsR
              simp [e]
            have e3 : runL pl x (i + 1) = 0 := by simp only [runL, if_neg e]
            rw [e2, e3]
            simp only [Bool.false_eq_true, false_and, if_false]
            rw [if_neg (fun z => by omega)]
      refine wp_iload (n := 39) dX10_fittingRun_37 rfl rfl ?_
      refine wp_iload (n := 41) dX10_fittingRun_39 rfl rfl ?_
      refine wp_isub (n := 42) dX10_fittingRun_41 rfl ?_
      rw [nI_sub (by omega), show j - bgn = runL pl x j by omega]
      refine wp_iload_n (n := 43) dX10_fittingRun_42 rfl rfl ?_
      refine wp_icmp_lt (t := 66) (n := 46) dX10_fittingRun_43 (by decide) rfl (fun hr => ?_) (fun hr => ?_)
      · rw [nI_lt9 (by omega) (by omega)] at hr
        rw [if_neg (fun z => by omega)] at stp
        exact tail _ _ (by rw [stp]) (by rw [stp])
      · rw [nI_lt9 (by omega) (by omega)] at hr
        refine wp_iload (n := 48) dX10_fittingRun_46 rfl rfl ?_
        refine wp_iload (n := 50) dX10_fittingRun_48 rfl rfl ?_
        refine wp_isub (n := 51) dX10_fittingRun_50 rfl ?_
        rw [nI_sub (by omega), show j - bgn = runL pl x j by omega]
        refine wp_iload (n := 53) dX10_fittingRun_51 rfl rfl ?_
        refine wp_icmp_ge (t := 66) (n := 56) dX10_fittingRun_53 (by decide) rfl (fun hs => ?_) (fun hs => ?_)
        · rw [nI_le9 (by omega) (by omega)] at hs
          rw [if_neg (fun z => by omega)] at stp
          exact tail _ _ (by rw [stp]) (by rw [stp])
        · rw [nI_le9 (by omega) (by omega)] at hs
          rw [if_pos ⟨by omega, by omega⟩] at stp
          refine wp_iload (n := 58) dX10_fittingRun_56 rfl rfl ?_
          refine wp_istore_n (n := 59) dX10_fittingRun_58 rfl rfl rfl rfl ?_
          refine wp_iload (n := 61) dX10_fittingRun_59 rfl rfl ?_
          refine wp_iload (n := 63) dX10_fittingRun_61 rfl rfl ?_
          refine wp_isub (n := 64) dX10_fittingRun_63 rfl ?_
          rw [nI_sub (by omega), show j - bgn = runL pl x j by omega]
          refine wp_istore (n := 66) dX10_fittingRun_64 rfl rfl rfl rfl ?_
          refine tail _ _ ?_ (by rw [stp])
          rw [stp]
          unfold fitO
          rw [if_neg (by show ¬ runL pl x j = 201; omega)]
          show nI bgn = nI (j - runL pl x j)
          congr 1
          omega
    · obtain ⟨q1, q2⟩ := of_decide_eq_true (bI_ne hq)
      refine wp_goto (t := 72) dX10_fittingRun_34 (by decide) ?_
      refine wp_iinc (n := 75) dX10_fittingRun_72 rfl rfl (nI_inc j) rfl rfl rfl ?_
      refine wp_goto (t := 13) dX10_fittingRun_75 (by decide) ?_
      have stp : fitS pl nb x w j = fitS pl nb x w (j - 1) := by
        cases j with
        | zero => rfl
        | succ i =>
          rw [Nat.add_sub_cancel]
          conv => lhs; unfold fitS
          have e2 : endsR pl nb x i = false := by
            exact decide_eq_false (fun z => z.2.elim (fun q => by omega) (fun q => q q2))
          rw [e2]
          simp only [Bool.false_eq_true, false_and, if_false]
      rw [stp] at ih
      refine ih bgn hb0 (fun hj1 => ?_)
      simp only [runL, if_pos q2]
      omega
end
