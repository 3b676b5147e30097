/-! ===== the reference: all picks ===== -/
theorem runL_mem (pl : FI) (x : Int32) : ∀ j d, d < j → j ≤ d + runL pl x j → pl d = x
  | 0, d, h, _ => absurd h (Nat.not_lt_zero _)
  | j + 1, d, h1, h2 => by
    by_cases e : pl j = x
    · simp only [runL, if_pos e] at h2
      by_cases e2 : d = j
      · rw [e2]; exact e
      · exact runL_mem pl x j d (by omega) (by omega)
    · simp only [runL, if_neg e] at h2
      omega
theorem fitS_run (pl : FI) (n : Nat) (x : Int32) (w : Nat) (hn : n ≤ 200) : ∀ j, j ≤ n → ((fitS pl n x w j).2 = 201 ∧ (fitS pl n x w j).1 = 0) ∨ (¬ (fitS pl n x w j).2 = 201 ∧ w ≤ (fitS pl n x w j).2 ∧ (fitS pl n x w j).1 + (fitS pl n x w j).2 ≤ j ∧ ∀ d, (fitS pl n x w j).1 ≤ d → d < (fitS pl n x w j).1 + (fitS pl n x w j).2 → pl d = x)
  | 0, _ => Or.inl ⟨rfl, rfl⟩
  | j + 1, hj => by
    have hr := runL_le pl x (j + 1)
    unfold fitS
    by_cases e : endsR pl n x j = true ∧ w ≤ runL pl x (j + 1) ∧ runL pl x (j + 1) < (fitS pl n x w j).2
    · rw [if_pos e]
      refine Or.inr ⟨by show ¬ runL pl x (j + 1) = 201; omega, e.2.1, by show j + 1 - runL pl x (j + 1) + runL pl x (j + 1) ≤ j + 1; omega, fun d h1 h2 => ?_⟩
      have h1 : j + 1 - runL pl x (j + 1) ≤ d := h1
      have h2 : d < j + 1 - runL pl x (j + 1) + runL pl x (j + 1) := h2
      exact runL_mem pl x (j + 1) d (by omega) (by omega)
    · rw [if_neg e]
      rcases fitS_run pl n x w hn j (by omega) with h | ⟨h1, h2, h3, h4⟩
      · exact Or.inl h
      · exact Or.inr ⟨h1, h2, by omega, h4⟩
theorem cnt_run {pl : FI} {x : Int32} {s : Nat} : ∀ {k : Nat}, (∀ d, s ≤ d → d < s + k → pl d = x) → cnt pl x (s + k) = cnt pl x s + k
  | 0, _ => rfl
  | k + 1, h => by
    have e : cnt pl x (s + (k + 1)) = cnt pl x (s + k) + (if pl (s + k) = x then 1 else 0) := rfl
    rw [e, cnt_run (fun d h1 h2 => h d h1 (by omega)), if_pos (h (s + k) (by omega) (by omega))]
    omega
theorem selL_run {pl : FI} {n : Nat} {x : Int32} {w s d : Nat} (hd : d < n) (h : ∀ d, s ≤ d → d < s + w → pl d = x) (hs : s + w ≤ n) : selL pl n x w s d = decide (s ≤ d ∧ d < s + w) := by
  unfold selL
  rw [decide_eq_decide]
  constructor
  · rintro ⟨h1, _, _, h4⟩
    refine ⟨h1, ?_⟩
    by_cases q : d < s + w
    · exact q
    · have e1 := cnt_run h
      have e2 := cnt_mono pl x (i := s + w) (j := d) (by omega)
      omega
  · rintro ⟨h1, h2⟩
    refine ⟨h1, hd, h d h1 h2, ?_⟩
    have e1 := cnt_run (k := d - s) (s := s) (pl := pl) (x := x) (fun c c1 c2 => h c c1 (by omega))
    rw [show s + (d - s) = d by omega] at e1
    omega
section
variable {Γ : GE} {h : AH} {Q : PO} {m a nb y : Nat} {R : FI} {pl tm pk : FI} {x th tl at' bg er ea lr cm : Int32}
theorem s_X10_picks {w : Nat} (hM : ModC h m a th tl at' bg er ea lr cm) (hR : h.2 a = some (.inl (.int, 5061, .inl R))) (hP : h.2 (m + 9) = some (.inl (.boolean, 200, .inl pk))) (hS0 : R 0 = nI nb) (hm : RowM R nb pl tm) (hn : nb ≤ 200) (hy : y ≤ 3) (hw : w ≤ cnt pl x nb) (hw1 : 1 ≤ w) (hA : Γ.2.1 ≤ m) (ham9 : ¬ a = m + 9)
    (k : ∀ h' pk', ax_fr (m + 9) (m + 10) h h' → h'.2 (m + 9) = some (.inl (.boolean, 200, .inl pk')) → (∀ d, d < 200 → (¬ pk' d = 0 ↔ selW y pl tm nb x w d = true)) → Q (.inl none) h') : WP Γ MX10_picks (2, 48, 0, 0) 0 [some (.ref m), some (.int x), some (.int (nI w)), some (.int (nI y)), none, none] [] h Q := by
  have hM0 := hM
  unfold ModC at hM
  have hcn := cnt_le pl x nb
  refine wp_aload_n (n := 1) dX10_picks_0 rfl rfl ?_
  refine wp_callV0 (n := 4) (rm' := (0, 0, 0, 0)) rfl dX10_picks_1 rfl mlX10_76 (by repeat first | assumption | exact ax_set_self _ _ _ | exact ax_newA_self _ _ _ | refine (ax_set_ne _ _ (by omega)).trans ?_ | refine (ax_newA_ne _ _ _ (by omega)).trans ?_) rfl rfl rfl rfl rfl ?_
  refine s_X10_picksNone hM0 hP hA (fun h1 pk1 f1 hP1 z1 => ?_)
  show WP Γ _ _ _ _ _ _ _
  have hM1 := hM0.fr f1 (by omega)
  have hM1' := f1.get hM (by omega)
  have hR1 := f1.get hR (by omega)
  -- out of a run
  have A : ∀ s, (∀ d, s ≤ d → d < s + w → pl d = x) → s + w ≤ nb → (∀ d, d < 200 → selW y pl tm nb x w d = selL pl nb x w s d) → WP Γ MX10_picks (2, 48, 0, 0) 24 [some (.ref m), some (.int x), some (.int (nI w)), some (.int (nI y)), some (.int (nI s)), some (.int 0)] [] h1 Q := by
    intro s hs1 hs2 hs3
    suffices L : ∀ j, j ≤ w → ∀ h2 pk2, ax_fr (m + 9) (m + 10) h h2 → h2.2 (m + 9) = some (.inl (.boolean, 200, .inl pk2)) → (∀ d, d < 200 → (¬ pk2 d = 0 ↔ (s ≤ d ∧ d < s + j))) → WP Γ MX10_picks (2, 48, 0, 0) 24 [some (.ref m), some (.int x), some (.int (nI w)), some (.int (nI y)), some (.int (nI s)), some (.int (nI j))] [] h2 Q from L 0 (Nat.zero_le _) h1 pk1 f1 hP1 (fun d hd => ⟨fun q => absurd (z1 d hd) q, fun q => by omega⟩)
    refine ax_up w (fun j hj ih => ?_)
    intro h2 pk2 f2 hP2 hz
    have hM2 := f2.get hM (by omega)
    refine wp_iload (n := 26) dX10_picks_24 rfl rfl ?_
    refine wp_iload_n (n := 27) dX10_picks_26 rfl rfl ?_
    refine wp_icmp_ge (t := 62) (n := 30) dX10_picks_27 (by decide) rfl (fun hc => ?_) (fun hc => ?_)
    · rw [nI_le9 (by omega) (by omega)] at hc
      obtain rfl : j = w := by omega
      refine wp_return dX10_picks_62 rfl (k h2 pk2 f2 hP2 (fun d hd => ?_))
      rw [hz d hd, hs3 d hd]
      by_cases q : d < nb
      · rw [selL_run q hs1 hs2, decide_eq_true_iff]
      · constructor
        · intro z; omega
        · intro z; exact absurd (of_decide_eq_true z).2.1 q
    · rw [nI_le9 (by omega) (by omega)] at hc
      refine wp_aload_n (n := 31) dX10_picks_30 rfl rfl ?_
      refine wp_getf (n := 34) dX10_picks_31 rfl flX10_36 (by repeat first | assumption | exact ax_set_self _ _ _ | exact ax_newA_self _ _ _ | refine (ax_set_ne _ _ (by omega)).trans ?_ | refine (ax_newA_ne _ _ _ (by omega)).trans ?_) (by rfl) ?_
      refine wp_iload (n := 36) dX10_picks_34 rfl rfl ?_
      refine wp_iconst (n := 37) (v := (-1)) dX10_picks_36 rfl (by decide) ?_
      refine wp_icmp_ne (t := 49) (n := 40) dX10_picks_37 (by decide) rfl (fun hq => ?_) (fun hq => ?_)
      · refine wp_iload (n := 51) dX10_picks_49 rfl rfl ?_
        refine wp_iload (n := 53) dX10_picks_51 rfl rfl ?_
        refine wp_iadd (n := 54) dX10_picks_53 rfl ?_
        rw [nI_add]
        refine wp_iconst (n := 55) (v := nI 1) dX10_picks_54 rfl (by decide) ?_
        refine wp_zast (n := 56) _ dX10_picks_55 rfl (by repeat first | assumption | exact ax_set_self _ _ _ | exact ax_newA_self _ _ _ | refine (ax_set_ne _ _ (by omega)).trans ?_ | refine (ax_newA_ne _ _ _ (by omega)).trans ?_) (by omega) rfl (by omega) (by decide) rfl ?_
        refine wp_iinc (n := 59) dX10_picks_56 rfl rfl (nI_inc j) rfl rfl rfl ?_
        refine wp_goto (t := 24) dX10_picks_59 (by decide) ?_
        refine ih (by omega) _ _ (f2.put (by omega)) (ax_set_self _ _ _) (fun d hd => ?_)
        simp only [upd]
        by_cases e : d = s + j
        · rw [if_pos e]
          exact ⟨fun _ => by omega, fun _ => by decide⟩
        · rw [if_neg e, hz d hd]
          omega
      · exact absurd hq (nI_ne_neg (by omega))
  -- one by one
  have B : (∀ d, d < nb → selW y pl tm nb x w d = decide (pl d = x ∧ rkY y pl tm nb x d < w)) → WP Γ MX10_picks (2, 48, 0, 0) 24 [some (.ref m), some (.int x), some (.int (nI w)), some (.int (nI y)), some (.int (-1)), some (.int 0)] [] h1 Q := by
    intro hs
    suffices L : ∀ j, j ≤ w → ∀ h2 pk2, ax_fr (m + 9) (m + 10) h h2 → h2.2 (m + 9) = some (.inl (.boolean, 200, .inl pk2)) → clo y pl tm pk2 x nb → nPk pk2 nb = j → (∀ d, nb ≤ d → d < 200 → pk2 d = 0) → WP Γ MX10_picks (2, 48, 0, 0) 24 [some (.ref m), some (.int x), some (.int (nI w)), some (.int (nI y)), some (.int (-1)), some (.int (nI j))] [] h2 Q from L 0 (Nat.zero_le _) h1 pk1 f1 hP1 ⟨fun d hd q => absurd (z1 d (by omega)) q, fun c d hc hd q _ _ => absurd (z1 d (by omega)) q⟩ (cntB_0 (fun d hd => decide_eq_false (fun q => q (z1 d (by omega))))) (fun d _ hd => z1 d hd)
    refine ax_up w (fun j hj ih => ?_)
    intro h2 pk2 f2 hP2 hcl hct hout
    have hM2 := hM0.fr f2 (by omega)
    have hM2' := f2.get hM (by omega)
    have hR2 := f2.get hR (by omega)
    refine wp_iload (n := 26) dX10_picks_24 rfl rfl ?_
    refine wp_iload_n (n := 27) dX10_picks_26 rfl rfl ?_
    refine wp_icmp_ge (t := 62) (n := 30) dX10_picks_27 (by decide) rfl (fun hc => ?_) (fun hc => ?_)
    · rw [nI_le9 (by omega) (by omega)] at hc
      obtain rfl : j = w := by omega
      refine wp_return dX10_picks_62 rfl (k h2 pk2 f2 hP2 (fun d hd => ?_))
      by_cases q : d < nb
      · rw [hcl.sel hct q, hs d q, decide_eq_true_iff]
      · constructor
        · intro z; exact absurd (hout d (by omega) hd) z
        · intro z; exact absurd (selW_lt z) q
    · rw [nI_le9 (by omega) (by omega)] at hc
      refine wp_aload_n (n := 31) dX10_picks_30 rfl rfl ?_
      refine wp_getf (n := 34) dX10_picks_31 rfl flX10_36 (by repeat first | assumption | exact ax_set_self _ _ _ | exact ax_newA_self _ _ _ | refine (ax_set_ne _ _ (by omega)).trans ?_ | refine (ax_newA_ne _ _ _ (by omega)).trans ?_) (by rfl) ?_
      refine wp_iload (n := 36) dX10_picks_34 rfl rfl ?_
      refine wp_iconst (n := 37) (v := (-1)) dX10_picks_36 rfl (by decide) ?_
      refine wp_icmp_ne (t := 49) (n := 40) dX10_picks_37 (by decide) rfl (fun hq => ?_) (fun hq => ?_)
      · exact absurd rfl hq
      · refine wp_aload_n (n := 41) dX10_picks_40 rfl rfl ?_
        refine wp_iload_n (n := 42) dX10_picks_41 rfl rfl ?_
        refine wp_iload_n (n := 43) dX10_picks_42 rfl rfl ?_
        refine wp_callV2 (n := 46) (rm' := (1, 22, 0, 0)) rfl dX10_picks_43 rfl mlX10_82 (by repeat first | assumption | exact ax_set_self _ _ _ | exact ax_newA_self _ _ _ | refine (ax_set_ne _ _ (by omega)).trans ?_ | refine (ax_newA_ne _ _ _ (by omega)).trans ?_) rfl rfl rfl rfl rfl ?_
        refine s_X10_nextPick hM2 hR2 hP2 hS0 hm hn hy (fun o ho => ?_)
        show WP Γ _ _ _ _ _ _ _
        cases o with
        | none => exact (clo.full hct (by omega) ho).elim
        | some b =>
          have hb1 : b < nb := ho.1
          obtain ⟨c1, c2⟩ := hcl.step (v := nI 1) hct ho (by decide)
          show WP Γ _ _ _ _ (.int (nI b) :: _) _ _
          refine wp_goto (t := 54) dX10_picks_46 (by decide) ?_
          refine wp_iconst (n := 55) (v := nI 1) dX10_picks_54 rfl (by decide) ?_
          refine wp_zast (n := 56) _ dX10_picks_55 rfl (by repeat first | assumption | exact ax_set_self _ _ _ | exact ax_newA_self _ _ _ | refine (ax_set_ne _ _ (by omega)).trans ?_ | refine (ax_newA_ne _ _ _ (by omega)).trans ?_) (by omega) rfl (by omega) (by decide) rfl ?_
          refine wp_iinc (n := 59) dX10_picks_56 rfl rfl (nI_inc j) rfl rfl rfl ?_
          refine wp_goto (t := 24) dX10_picks_59 (by decide) ?_
          exact ih (by omega) _ _ (f2.put (by omega)) (ax_set_self _ _ _) c1 c2 (fun d h1 h2 => by simp only [upd]; rw [if_neg (by omega)]; exact hout d h1 h2)
  refine wp_iload_n (n := 5) dX10_picks_4 rfl rfl ?_
  refine wp_iconst (n := 6) (v := nI 3) dX10_picks_5 rfl (by decide) ?_
  refine wp_icmp_ne (t := 18) (n := 9) dX10_picks_6 (by decide) rfl (fun hc => ?_) (fun hc => ?_)
  · have e3 : ¬ y = 3 := fun z => hc (by rw [z])
    refine wp_iconst (n := 19) (v := (-1)) dX10_picks_18 rfl (by decide) ?_
    refine wp_istore (n := 21) dX10_picks_19 rfl rfl rfl rfl ?_
    refine wp_iconst (n := 22) (v := 0) dX10_picks_21 rfl (by decide) ?_
    refine wp_istore (n := 24) dX10_picks_22 rfl rfl rfl rfl ?_
    exact B (fun d hd => sel_rk hd hy (fun z => absurd z e3))
  · have e3 : y = 3 := (nI_eq9 (by omega) (by omega)).mp hc
    refine wp_aload_n (n := 10) dX10_picks_9 rfl rfl ?_
    refine wp_iload_n (n := 11) dX10_picks_10 rfl rfl ?_
    refine wp_iload_n (n := 12) dX10_picks_11 rfl rfl ?_
    refine wp_callV2 (n := 15) (rm' := (1, 22, 0, 0)) rfl dX10_picks_12 rfl mlX10_79 (by repeat first | assumption | exact ax_set_self _ _ _ | exact ax_newA_self _ _ _ | refine (ax_set_ne _ _ (by omega)).trans ?_ | refine (ax_newA_ne _ _ _ (by omega)).trans ?_) rfl rfl rfl rfl rfl ?_
    refine s_X10_fittingRun hM1 hR1 hS0 hm hn (by omega) hw1 ?_
    show WP Γ _ _ _ _ _ _ _
    refine wp_goto (t := 19) dX10_picks_15 (by decide) ?_
    rcases fitS_run pl nb x w hn nb (Nat.le_refl _) with ⟨q1, q2⟩ | ⟨q1, q2, q3, q4⟩
    · rw [show fitO (fitS pl nb x w nb) = none from if_pos q1]
      refine wp_istore (n := 21) dX10_picks_19 rfl rfl rfl rfl ?_
      refine wp_iconst (n := 22) (v := 0) dX10_picks_21 rfl (by decide) ?_
      refine wp_istore (n := 24) dX10_picks_22 rfl rfl rfl rfl ?_
      exact B (fun d hd => sel_rk hd hy (fun _ => q2))
    · rw [show fitO (fitS pl nb x w nb) = some (fitS pl nb x w nb).1 from if_neg q1]
      refine wp_istore (n := 21) dX10_picks_19 rfl rfl rfl rfl ?_
      refine wp_iconst (n := 22) (v := 0) dX10_picks_21 rfl (by decide) ?_
      refine wp_istore (n := 24) dX10_picks_22 rfl rfl rfl rfl ?_
      exact A _ (fun d h1 h2 => q4 d h1 (by omega)) (by omega) (fun d hd => by subst e3; rfl)
end
