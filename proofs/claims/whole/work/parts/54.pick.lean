/-! ===== the reference: picks ===== -/
/-- c is picked ahead of d, by a way -/
def bef (y : Nat) (tm : FI) (c d : Nat) : Prop := if y = 1 then d < c else if y = 2 then (tm c < tm d ∨ (tm c = tm d ∧ c < d)) else c < d
theorem bef_irr (y : Nat) (tm : FI) (c : Nat) : ¬ bef y tm c c := by
  unfold bef
  split
  · omega
  · split
    · rintro (h | h)
      · exact i32_lt_irrefl _ h
      · omega
    · omega
theorem bef_trans {y : Nat} {tm : FI} {c d e : Nat} (h1 : bef y tm c d) (h2 : bef y tm d e) : bef y tm c e := by
  unfold bef at *
  split
  · rename_i q; rw [if_pos q] at h1 h2; omega
  · rename_i q
    rw [if_neg q] at h1 h2
    split
    · rename_i r
      rw [if_pos r] at h1 h2
      rcases h1 with h1 | ⟨h1, h3⟩
      · rcases h2 with h2 | ⟨h2, h4⟩
        · exact Or.inl (i32_lt_trans h1 h2)
        · exact Or.inl (by rw [← h2]; exact h1)
      · rcases h2 with h2 | ⟨h2, h4⟩
        · exact Or.inl (by rw [h1]; exact h2)
        · exact Or.inr ⟨h1.trans h2, by omega⟩
    · rename_i r; rw [if_neg r] at h1 h2; omega
theorem bef_tot (y : Nat) (tm : FI) {c d : Nat} (h : ¬ c = d) : bef y tm c d ∨ bef y tm d c := by
  unfold bef
  split
  · omega
  · split
    · rcases i32_tri (tm c) (tm d) with q | q | q
      · exact Or.inl (Or.inl q)
      · by_cases r : c < d
        · exact Or.inl (Or.inr ⟨q, r⟩)
        · exact Or.inr (Or.inr ⟨q.symm, by omega⟩)
      · exact Or.inr (Or.inl q)
    · omega
/-- a later block is better -/
theorem bef_new {y : Nat} {tm : FI} {n b : Nat} (h : b < n) : bef y tm n b ↔ (y = 1 ∨ (y = 2 ∧ tm n < tm b)) := by
  unfold bef
  by_cases q : y = 1
  · rw [if_pos q]; exact ⟨fun _ => Or.inl q, fun _ => h⟩
  · rw [if_neg q]
    by_cases r : y = 2
    · rw [if_pos r]
      constructor
      · rintro (z | z)
        · exact Or.inr ⟨r, z⟩
        · omega
      · rintro (z | z)
        · exact absurd z q
        · exact Or.inl z.2
    · rw [if_neg r]
      constructor
      · intro z; omega
      · rintro (z | z)
        · exact absurd z q
        · exact absurd z.1 r
section
variable {Γ : GE} {h : AH} {Q : PO} {m a nb y : Nat} {R : FI} {pl tm pk : FI} {x th tl at' bg er ea lr cm : Int32}
/-- the best of the first n -/
def bstP (y : Nat) (pl tm pk : FI) (x : Int32) (n : Nat) (o : Option Nat) : Prop := match o with
  | none => ∀ c, c < n → ¬ (pl c = x ∧ pk c = 0)
  | some b => b < n ∧ pl b = x ∧ pk b = 0 ∧ ∀ c, c < n → pl c = x → pk c = 0 → ¬ bef y tm c b
theorem s_X10_nextPick (hM : ModC h m a th tl at' bg er ea lr cm) (hR : h.2 a = some (.inl (.int, 5061, .inl R))) (hP : h.2 (m + 9) = some (.inl (.boolean, 200, .inl pk))) (hS0 : R 0 = nI nb) (hm : RowM R nb pl tm) (hn : nb ≤ 200) (hy : y ≤ 3)
    (k : ∀ o, bstP y pl tm pk x nb o → Q (.inl (some (.int (oI o)))) h) : WP Γ MX10_nextPick (1, 22, 0, 0) 0 [some (.ref m), some (.int x), some (.int (nI y)), none, none, none] [] h Q := by
  have hM0 := hM
  unfold ModC at hM
  refine wp_iconst (n := 1) (v := (-1)) dX10_nextPick_0 rfl (by decide) ?_
  refine wp_istore_n (n := 2) dX10_nextPick_1 rfl rfl rfl rfl ?_
  refine wp_iconst (n := 3) (v := 0) dX10_nextPick_2 rfl (by decide) ?_
  refine wp_istore (n := 5) dX10_nextPick_3 rfl rfl rfl rfl ?_
  suffices L : ∀ j, j ≤ nb → ∀ o q5, bstP y pl tm pk x j o → WP Γ MX10_nextPick (1, 22, 0, 0) 5 [some (.ref m), some (.int x), some (.int (nI y)), some (.int (oI o)), some (.int (nI j)), q5] [] h Q from L 0 (Nat.zero_le _) none none (fun c hc => absurd hc (Nat.not_lt_zero _))
  refine ax_up nb (fun j hj ih => ?_)
  intro o q5 hb
  refine wp_lo (lo' := [some (.ref m), some (.int x), some (.int (nI y)), some (.int (oI o)), some (.int (nI j)), none]) (fun k v hk => ?_) ?_
  · match k, hk with
    | 0, hk => exact hk
    | 1, hk => exact hk
    | 2, hk => exact hk
    | 3, hk => exact hk
    | 4, hk => exact hk
    | 5, hk => exact absurd hk (by simp [ax_gl])
    | k + 6, hk => exact absurd hk (by simp [ax_gl])
  refine wp_iload (n := 7) dX10_nextPick_5 rfl rfl ?_
  refine wp_aload_n (n := 8) dX10_nextPick_7 rfl rfl ?_
  refine wp_getf (n := 11) dX10_nextPick_8 rfl flX10_9 (by repeat first | assumption | exact ax_set_self _ _ _ | exact ax_newA_self _ _ _ | refine (ax_set_ne _ _ (by omega)).trans ?_ | refine (ax_newA_ne _ _ _ (by omega)).trans ?_) (by rfl) ?_
  refine wp_iconst (n := 12) (v := 0) dX10_nextPick_11 rfl (by decide) ?_
  refine wp_iald (n := 13) 0 dX10_nextPick_12 rfl hR rfl (by omega) (by omega) ?_
  rw [hS0]
  refine wp_icmp_ge (t := 103) (n := 16) dX10_nextPick_13 (by decide) rfl (fun hc => ?_) (fun hc => ?_)
  · rw [nI_le9 (by omega) (by omega)] at hc
    obtain rfl : j = nb := by omega
    refine wp_iload_n (n := 104) dX10_nextPick_103 rfl rfl ?_
    exact wp_ireturn dX10_nextPick_104 rfl rfl (k o hb)
  · rw [nI_le9 (by omega) (by omega)] at hc
    have hlt : j < nb := by omega
    have ih := ih hlt
    have same : ¬ (pl j = x ∧ pk j = 0) → ∀ q5, WP Γ MX10_nextPick (1, 22, 0, 0) 97 [some (.ref m), some (.int x), some (.int (nI y)), some (.int (oI o)), some (.int (nI j)), q5] [] h Q := by
      intro hno q5
      refine wp_iinc (n := 100) dX10_nextPick_97 rfl rfl (nI_inc j) rfl rfl rfl ?_
      refine wp_goto (t := 5) dX10_nextPick_100 (by decide) ?_
      refine ih o q5 ?_
      cases o with
      | none =>
        intro c hc
        by_cases e : c = j
        · rw [e]; exact hno
        · exact hb c (by omega)
      | some b =>
        obtain ⟨b1, b2, b3, b4⟩ := hb
        refine ⟨by omega, b2, b3, fun c hc h1 h2 => ?_⟩
        by_cases e : c = j
        · subst e; exact absurd ⟨h1, h2⟩ hno
        · exact b4 c (by omega) h1 h2
    refine wp_aload_n (n := 17) dX10_nextPick_16 rfl rfl ?_
    refine wp_iload (n := 19) dX10_nextPick_17 rfl rfl ?_
    refine wp_iload_n (n := 20) dX10_nextPick_19 rfl rfl ?_
    refine wp_callV2 (n := 23) (rm' := (0, 0, 0, 0)) rfl dX10_nextPick_20 rfl mlX10_72 (by repeat first | assumption | exact ax_set_self _ _ _ | exact ax_newA_self _ _ _ | refine (ax_set_ne _ _ (by omega)).trans ?_ | refine (ax_newA_ne _ _ _ (by omega)).trans ?_) rfl rfl rfl rfl rfl ?_
    refine s_X10_isIn hM0 hR hS0 hm hn (by omega) ?_
    show WP Γ _ _ _ _ _ _ _
    refine wp_if_eq (t := 97) (n := 26) dX10_nextPick_23 (by decide) rfl (fun hq => ?_) (fun hq => ?_)
    · exact same (fun z => of_decide_eq_false (bI_eq hq) ⟨hlt, z.1⟩) _
    · have hin := (of_decide_eq_true (bI_ne hq)).2
      refine wp_aload_n (n := 27) dX10_nextPick_26 rfl rfl ?_
      refine wp_getf (n := 30) dX10_nextPick_27 rfl flX10_36 (by repeat first | assumption | exact ax_set_self _ _ _ | exact ax_newA_self _ _ _ | refine (ax_set_ne _ _ (by omega)).trans ?_ | refine (ax_newA_ne _ _ _ (by omega)).trans ?_) (by rfl) ?_
      refine wp_iload (n := 32) dX10_nextPick_30 rfl rfl ?_
      refine wp_zald (n := 33) _ dX10_nextPick_32 rfl (by repeat first | assumption | exact ax_set_self _ _ _ | exact ax_newA_self _ _ _ | refine (ax_set_ne _ _ (by omega)).trans ?_ | refine (ax_newA_ne _ _ _ (by omega)).trans ?_) rfl (by omega) (by decide) ?_
      refine wp_if_eq (t := 39) (n := 36) dX10_nextPick_33 (by decide) rfl (fun hr => ?_) (fun hr => ?_)
      · -- not picked
        have yes : (∀ b, o = some b → bef y tm j b) → ∀ q5, WP Γ MX10_nextPick (1, 22, 0, 0) 78 [some (.ref m), some (.int x), some (.int (nI y)), some (.int (oI o)), some (.int (nI j)), q5] [] h Q := by
          intro hbef q5
          refine wp_iconst (n := 79) (v := nI 1) dX10_nextPick_78 rfl (by decide) ?_
          refine wp_goto (t := 83) dX10_nextPick_79 (by decide) ?_
          refine wp_istore (n := 85) dX10_nextPick_83 rfl rfl rfl rfl ?_
          refine wp_iload (n := 87) dX10_nextPick_85 rfl rfl ?_
          refine wp_if_eq (t := 95) (n := 90) dX10_nextPick_87 (by decide) rfl (fun hs => ?_) (fun hs => ?_)
          · exact absurd hs (by decide)
          · refine wp_iload (n := 92) dX10_nextPick_90 rfl rfl ?_
            refine wp_goto (t := 96) dX10_nextPick_92 (by decide) ?_
            refine wp_istore_n (n := 97) dX10_nextPick_96 rfl rfl rfl rfl ?_
            refine wp_iinc (n := 100) dX10_nextPick_97 rfl rfl (nI_inc j) rfl rfl rfl ?_
            refine wp_goto (t := 5) dX10_nextPick_100 (by decide) ?_
            refine ih (some j) _ ⟨by omega, hin, hr, fun c hc h1 h2 => ?_⟩
            by_cases e : c = j
            · subst e; exact bef_irr _ _ _
            · cases o with
              | none => exact absurd ⟨h1, h2⟩ (hb c (by omega))
              | some b =>
                obtain ⟨b1, b2, b3, b4⟩ := hb
                intro z
                exact b4 c (by omega) h1 h2 (bef_trans z (hbef b rfl))
        have no : ∀ b, o = some b → ¬ bef y tm j b → ∀ q5, WP Γ MX10_nextPick (1, 22, 0, 0) 82 [some (.ref m), some (.int x), some (.int (nI y)), some (.int (oI o)), some (.int (nI j)), q5] [] h Q := by
          intro b ho hnb q5
          subst ho
          refine wp_iconst (n := 83) (v := 0) dX10_nextPick_82 rfl (by decide) ?_
          refine wp_istore (n := 85) dX10_nextPick_83 rfl rfl rfl rfl ?_
          refine wp_iload (n := 87) dX10_nextPick_85 rfl rfl ?_
          refine wp_if_eq (t := 95) (n := 90) dX10_nextPick_87 (by decide) rfl (fun hs => ?_) (fun hs => ?_)
          · refine wp_iload_n (n := 96) dX10_nextPick_95 rfl rfl ?_
            refine wp_istore_n (n := 97) dX10_nextPick_96 rfl rfl rfl rfl ?_
            refine wp_iinc (n := 100) dX10_nextPick_97 rfl rfl (nI_inc j) rfl rfl rfl ?_
            refine wp_goto (t := 5) dX10_nextPick_100 (by decide) ?_
            obtain ⟨b1, b2, b3, b4⟩ := hb
            refine ih (some b) _ ⟨by omega, b2, b3, fun c hc h1 h2 => ?_⟩
            by_cases e : c = j
            · subst e; exact hnb
            · exact b4 c (by omega) h1 h2
          · exact absurd rfl hs
        refine wp_iload_n (n := 40) dX10_nextPick_39 rfl rfl ?_
        refine wp_iconst (n := 41) (v := (-1)) dX10_nextPick_40 rfl (by decide) ?_
        cases o with
        | none =>
          refine wp_icmp_eq (t := 78) (n := 44) dX10_nextPick_41 (by decide) rfl (fun hs => ?_) (fun hs => ?_)
          · exact yes (fun b z => by cases z) _
          · exact absurd rfl hs
        | some b =>
          have hb0 : b < j := hb.1
          refine wp_icmp_eq (t := 78) (n := 44) dX10_nextPick_41 (by decide) rfl (fun hs => ?_) (fun hs => ?_)
          · exact absurd hs (nI_ne_neg (by omega))
          · refine wp_iload_n (n := 45) dX10_nextPick_44 rfl rfl ?_
            refine wp_iconst (n := 46) (v := nI 1) dX10_nextPick_45 rfl (by decide) ?_
            refine wp_icmp_eq (t := 78) (n := 49) dX10_nextPick_46 (by decide) rfl (fun hu => ?_) (fun hu => ?_)
            · have e1 : y = 1 := (nI_eq9 (by omega) (by omega)).mp hu
              exact yes (fun b' z => by cases z; exact (bef_new hb0).mpr (Or.inl e1)) _
            · have e1 : ¬ y = 1 := fun z => hu (by rw [z])
              refine wp_iload_n (n := 50) dX10_nextPick_49 rfl rfl ?_
              refine wp_iconst (n := 51) (v := nI 2) dX10_nextPick_50 rfl (by decide) ?_
              refine wp_icmp_ne (t := 82) (n := 54) dX10_nextPick_51 (by decide) rfl (fun hv => ?_) (fun hv => ?_)
              · have e2 : ¬ y = 2 := fun z => hv (by rw [z])
                exact no b rfl (fun z => (bef_new hb0).mp z |>.elim e1 (fun q => e2 q.1)) _
              · have e2 : y = 2 := (nI_eq9 (by omega) (by omega)).mp hv
                show WP Γ _ _ _ [some (.ref m), some (.int x), some (.int (nI y)), some (.int (nI b)), some (.int (nI j)), none] _ _ _
                refine wp_aload_n (n := 55) dX10_nextPick_54 rfl rfl ?_
                refine wp_getf (n := 58) dX10_nextPick_55 rfl flX10_9 (by repeat first | assumption | exact ax_set_self _ _ _ | exact ax_newA_self _ _ _ | refine (ax_set_ne _ _ (by omega)).trans ?_ | refine (ax_newA_ne _ _ _ (by omega)).trans ?_) (by rfl) ?_
                refine wp_sipush (n := 61) (v := nI 207) dX10_nextPick_58 rfl (by decide) ?_
                refine wp_iload (n := 63) dX10_nextPick_61 rfl rfl ?_
                refine wp_iadd (n := 64) dX10_nextPick_63 rfl ?_
                refine wp_iald (n := 65) (207 + j) dX10_nextPick_64 rfl (by repeat first | assumption | exact ax_set_self _ _ _ | exact ax_newA_self _ _ _ | refine (ax_set_ne _ _ (by omega)).trans ?_ | refine (ax_newA_ne _ _ _ (by omega)).trans ?_) (by simp only [nI_zero, nI_mul, nI_add]) (by omega) (by omega) ?_
                refine wp_aload_n (n := 66) dX10_nextPick_65 rfl rfl ?_
                refine wp_getf (n := 69) dX10_nextPick_66 rfl flX10_9 (by repeat first | assumption | exact ax_set_self _ _ _ | exact ax_newA_self _ _ _ | refine (ax_set_ne _ _ (by omega)).trans ?_ | refine (ax_newA_ne _ _ _ (by omega)).trans ?_) (by rfl) ?_
                refine wp_sipush (n := 72) (v := nI 207) dX10_nextPick_69 rfl (by decide) ?_
                refine wp_iload_n (n := 73) dX10_nextPick_72 rfl rfl ?_
                refine wp_iadd (n := 74) dX10_nextPick_73 rfl ?_
                refine wp_iald (n := 75) (207 + b) dX10_nextPick_74 rfl (by repeat first | assumption | exact ax_set_self _ _ _ | exact ax_newA_self _ _ _ | refine (ax_set_ne _ _ (by omega)).trans ?_ | refine (ax_newA_ne _ _ _ (by omega)).trans ?_) (by simp only [nI_zero, nI_mul, nI_add]) (by omega) (by omega) ?_
                rw [(hm j hlt).2, (hm b (by omega)).2]
                refine wp_icmp_ge (t := 82) (n := 78) dX10_nextPick_75 (by decide) rfl (fun hw => ?_) (fun hw => ?_)
                · exact no b rfl (fun z => (bef_new hb0).mp z |>.elim e1 (fun q => absurd q.2 (Int32.not_lt.mpr hw))) _
                · exact yes (fun b' z => by cases z; exact (bef_new hb0).mpr (Or.inr ⟨e2, i32_not_le hw⟩)) _
      · refine wp_goto (t := 97) dX10_nextPick_36 (by decide) ?_
        exact same (fun z => hr z.2) _
end
