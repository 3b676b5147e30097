/-! ===== the reference: picksBack ===== -/
section
variable {Γ : GE} {h : AH} {Q : PO} {m a np nb ne nh nc y : Nat} {R : FI} {qu ra le ln pl tm rw hw cw pk : FI} {re : Nat → UInt32} {bk : Nat → Int64} {t x z w v th tl at' bg er ea lr cm : Int32}
theorem s_X10_picksBack {e : Nat} (hM : ModC h m a th tl at' bg er ea lr cm) (hR : h.2 a = some (.inl (.int, 5061, .inl R))) (hP : h.2 (m + 9) = some (.inl (.boolean, 200, .inl pk))) (hr : RowR R np qu ra re le ln nb pl tm ne rw bk nh hw nc cw t y) (hn : nb ≤ 200) (hne : ne ≤ 300) (he : e < ne) (hA : Γ.2.1 ≤ m) (ham9 : ¬ a = m + 9) (hbn : ∀ d, d < 200 → blk bk e d = true → d < nb)
    (k : ∀ h' pk' v, ax_fr (m + 9) (m + 10) h h' → h'.2 (m + 9) = some (.inl (.boolean, 200, .inl pk')) → (∀ d, d < 200 → pk' d = bI (blk bk e d)) → ((v = nI 1 ∧ inAll pl nb bk e (rw (e * 7 + 1))) ∨ (v = 0 ∧ ¬ inAll pl nb bk e (rw (e * 7 + 1)))) → Q (.inl (some (.int v))) h') : WP Γ MX10_picksBack (2, 44, 0, 0) 0 [some (.ref m), some (.int (nI e)), none, none] [] h Q := by
  have hM0 := hM
  unfold ModC at hM
  obtain ⟨⟨r0, r1, r2, r3, r4, r5, r6⟩, rM, rP, rJ, rH, rC⟩ := hr
  refine wp_iconst (n := 1) (v := nI 1) dX10_picksBack_0 rfl (by decide) ?_
  refine wp_istore_n (n := 2) dX10_picksBack_1 rfl rfl rfl rfl ?_
  refine wp_iconst (n := 3) (v := 0) dX10_picksBack_2 rfl (by decide) ?_
  refine wp_istore_n (n := 4) dX10_picksBack_3 rfl rfl rfl rfl ?_
  suffices L : ∀ j, j ≤ 200 → ∀ h1 pk1 v, ax_fr (m + 9) (m + 10) h h1 → h1.2 (m + 9) = some (.inl (.boolean, 200, .inl pk1)) → (∀ d, d < j → pk1 d = bI (blk bk e d)) → ((v = nI 1 ∧ ∀ d, d < j → blk bk e d = true → pl d = rw (e * 7 + 1)) ∨ (v = 0 ∧ ¬ ∀ d, d < j → blk bk e d = true → pl d = rw (e * 7 + 1))) → WP Γ MX10_picksBack (2, 44, 0, 0) 4 [some (.ref m), some (.int (nI e)), some (.int v), some (.int (nI j))] [] h1 Q from L 0 (Nat.zero_le _) h pk _ ax_fr.rf hP (fun d hd => absurd hd (Nat.not_lt_zero _)) (Or.inl ⟨rfl, fun d hd => absurd hd (Nat.not_lt_zero _)⟩)
  refine ax_up 200 (fun j hj ih => ?_)
  intro h1 pk1 v f1 hP1 hz hv
  have m1 := hM0.fr f1 (by omega)
  have m1' := f1.get hM (by omega)
  have hR1 := f1.get hR (by omega)
  refine wp_iload_n (n := 5) dX10_picksBack_4 rfl rfl ?_
  refine wp_sipush (n := 8) (v := nI 200) dX10_picksBack_5 rfl (by decide) ?_
  refine wp_icmp_ge (t := 62) (n := 11) dX10_picksBack_8 (by decide) rfl (fun hc => ?_) (fun hc => ?_)
  · rw [nI_le9 (by omega) (by omega)] at hc
    obtain rfl : j = 200 := by omega
    refine wp_iload_n (n := 63) dX10_picksBack_62 rfl rfl ?_
    refine wp_ireturn dX10_picksBack_63 rfl ?_ (k h1 pk1 v f1 hP1 hz ?_)
    · rcases hv with ⟨rfl, _⟩ | ⟨rfl, _⟩ <;> rfl
    · rcases hv with ⟨q1, q2⟩ | ⟨q1, q2⟩
      · exact Or.inl ⟨q1, fun d hd hb => q2 d (by omega) hb⟩
      · exact Or.inr ⟨q1, fun z => q2 (fun d hd hb => z d (hbn d hd hb) hb)⟩
  · rw [nI_le9 (by omega) (by omega)] at hc
    have hlt : j < 200 := by omega
    have ih := ih hlt
    refine wp_aload_n (n := 12) dX10_picksBack_11 rfl rfl ?_
    refine wp_getf (n := 15) dX10_picksBack_12 rfl flX10_36 (by repeat first | assumption | exact ax_set_self _ _ _ | exact ax_newA_self _ _ _ | refine (ax_set_ne _ _ (by omega)).trans ?_ | refine (ax_newA_ne _ _ _ (by omega)).trans ?_) (by rfl) ?_
    refine wp_iload_n (n := 16) dX10_picksBack_15 rfl rfl ?_
    refine wp_aload_n (n := 17) dX10_picksBack_16 rfl rfl ?_
    refine wp_iload_n (n := 18) dX10_picksBack_17 rfl rfl ?_
    refine wp_iload_n (n := 19) dX10_picksBack_18 rfl rfl ?_
    refine wp_callV2 (n := 22) (rm' := (1, 22, 0, 0)) rfl dX10_picksBack_19 rfl mlX10_124 (by repeat first | assumption | exact ax_set_self _ _ _ | exact ax_newA_self _ _ _ | refine (ax_set_ne _ _ (by omega)).trans ?_ | refine (ax_newA_ne _ _ _ (by omega)).trans ?_) rfl rfl rfl rfl rfl ?_
    refine s_X10_hasBlock m1 hR1 rJ hne he hlt ?_
    show WP Γ _ _ _ _ _ _ _
    refine wp_zast (n := 23) j dX10_picksBack_22 rfl (by assumption) (by omega) rfl (by omega) (by decide) (by cases blk bk e j <;> rfl) ?_
    have f2 := f1.put (a := m + 9) (e := .inl (.boolean, 200, .inl (upd pk1 j (bI (blk bk e j))))) (by omega)
    have hP2 : (ax_set h1 (m + 9) (.inl (.boolean, 200, .inl (upd pk1 j (bI (blk bk e j)))))).2 (m + 9) = some (.inl (.boolean, 200, .inl (upd pk1 j (bI (blk bk e j))))) := ax_set_self _ _ _
    generalize ax_set h1 (m + 9) (.inl (.boolean, 200, .inl (upd pk1 j (bI (blk bk e j))))) = h2 at *
    have m2 := hM0.fr f2 (by omega)
    have m2' := f2.get hM (by omega)
    have hR2 := f2.get hR (by omega)
    have hz2 : ∀ d, d < j + 1 → upd pk1 j (bI (blk bk e j)) d = bI (blk bk e d) := fun d hd => by
      simp only [upd]
      by_cases q : d = j
      · rw [if_pos q, q]
      · rw [if_neg q]; exact hz d (by omega)
    have yes : (∀ d, d < j + 1 → blk bk e d = true → pl d = rw (e * 7 + 1)) → WP Γ MX10_picksBack (2, 44, 0, 0) 50 [some (.ref m), some (.int (nI e)), some (.int v), some (.int (nI j))] [] h2 Q := by
      intro q
      refine wp_iconst (n := 51) (v := nI 1) dX10_picksBack_50 rfl (by decide) ?_
      refine wp_goto (t := 55) dX10_picksBack_51 (by decide) ?_
      refine wp_istore_n (n := 56) dX10_picksBack_55 rfl rfl rfl rfl ?_
      refine wp_iinc (n := 59) dX10_picksBack_56 rfl rfl (nI_inc j) rfl rfl rfl ?_
      refine wp_goto (t := 4) dX10_picksBack_59 (by decide) ?_
      exact ih h2 _ _ f2 hP2 hz2 (Or.inl ⟨rfl, q⟩)
    have no : ¬ (∀ d, d < j + 1 → blk bk e d = true → pl d = rw (e * 7 + 1)) → WP Γ MX10_picksBack (2, 44, 0, 0) 54 [some (.ref m), some (.int (nI e)), some (.int v), some (.int (nI j))] [] h2 Q := by
      intro q
      refine wp_iconst (n := 55) (v := 0) dX10_picksBack_54 rfl (by decide) ?_
      refine wp_istore_n (n := 56) dX10_picksBack_55 rfl rfl rfl rfl ?_
      refine wp_iinc (n := 59) dX10_picksBack_56 rfl rfl (nI_inc j) rfl rfl rfl ?_
      refine wp_goto (t := 4) dX10_picksBack_59 (by decide) ?_
      exact ih h2 _ _ f2 hP2 hz2 (Or.inr ⟨rfl, q⟩)
    refine wp_iload_n (n := 24) dX10_picksBack_23 rfl rfl ?_
    refine wp_if_eq (t := 54) (n := 27) dX10_picksBack_24 (by decide) rfl (fun hq => ?_) (fun hq => ?_)
    · rcases hv with ⟨q1, q2⟩ | ⟨q1, q2⟩
      · rw [q1] at hq; exact absurd hq (by decide)
      · exact no (fun z => q2 (fun d hd => z d (by omega)))
    · have hall : ∀ d, d < j → blk bk e d = true → pl d = rw (e * 7 + 1) := by
        rcases hv with ⟨q1, q2⟩ | ⟨q1, q2⟩
        · exact q2
        · exact absurd q1 hq
      refine wp_aload_n (n := 28) dX10_picksBack_27 rfl rfl ?_
      refine wp_getf (n := 31) dX10_picksBack_28 rfl flX10_36 (by repeat first | assumption | exact ax_set_self _ _ _ | exact ax_newA_self _ _ _ | refine (ax_set_ne _ _ (by omega)).trans ?_ | refine (ax_newA_ne _ _ _ (by omega)).trans ?_) (by rfl) ?_
      refine wp_iload_n (n := 32) dX10_picksBack_31 rfl rfl ?_
      refine wp_zald (n := 33) _ dX10_picksBack_32 rfl (by repeat first | assumption | exact ax_set_self _ _ _ | exact ax_newA_self _ _ _ | refine (ax_set_ne _ _ (by omega)).trans ?_ | refine (ax_newA_ne _ _ _ (by omega)).trans ?_) rfl (by omega) (by decide) ?_
      rw [show upd pk1 j (bI (blk bk e j)) j = bI (blk bk e j) from hz2 j (by omega)]
      refine wp_if_eq (t := 50) (n := 36) dX10_picksBack_33 (by decide) rfl (fun hu => ?_) (fun hu => ?_)
      · have hu := bI_eq hu
        refine yes (fun d hd hb => ?_)
        by_cases q : d = j
        · subst q; rw [hu] at hb; cases hb
        · exact hall d (by omega) hb
      · have hu := bI_ne hu
        have hjn := hbn j hlt hu
        refine wp_aload_n (n := 37) dX10_picksBack_36 rfl rfl ?_
        refine wp_iload_n (n := 38) dX10_picksBack_37 rfl rfl ?_
        refine wp_aload_n (n := 39) dX10_picksBack_38 rfl rfl ?_
        refine wp_iload_n (n := 40) dX10_picksBack_39 rfl rfl ?_
        refine wp_iconst (n := 41) (v := nI 1) dX10_picksBack_40 rfl (by decide) ?_
        refine wp_callV2 (n := 44) (rm' := (0, 0, 0, 0)) rfl dX10_picksBack_41 rfl mlX10_85 (by repeat first | assumption | exact ax_set_self _ _ _ | exact ax_newA_self _ _ _ | refine (ax_set_ne _ _ (by omega)).trans ?_ | refine (ax_newA_ne _ _ _ (by omega)).trans ?_) rfl rfl rfl rfl rfl ?_
        refine s_X10_entry m2 hR2 (by omega) (by omega) ?_
        show WP Γ _ _ _ _ _ _ _
        rw [(rJ e he).1 1 (by omega)]
        refine wp_callV2 (n := 47) (rm' := (0, 0, 0, 0)) rfl dX10_picksBack_44 rfl mlX10_72 (by repeat first | assumption | exact ax_set_self _ _ _ | exact ax_newA_self _ _ _ | refine (ax_set_ne _ _ (by omega)).trans ?_ | refine (ax_newA_ne _ _ _ (by omega)).trans ?_) rfl rfl rfl rfl rfl ?_
        refine s_X10_isIn m2 hR2 r0 rM hn (by omega) ?_
        show WP Γ _ _ _ _ _ _ _
        refine wp_if_eq (t := 54) (n := 50) dX10_picksBack_47 (by decide) rfl (fun hw => ?_) (fun hw => ?_)
        · exact no (fun z => of_decide_eq_false (bI_eq hw) ⟨hjn, z j (by omega) hu⟩)
        · have hw := (of_decide_eq_true (bI_ne hw)).2
          refine yes (fun d hd hb => ?_)
          by_cases q : d = j
          · subst q; exact hw
          · exact hall d (by omega) hb
end
