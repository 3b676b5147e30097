/-! ===== the reference: reading on, pick ===== -/

/-- reading touches the object, the row that is read, and what is picked -/
def fr3 (m : Nat) (h h' : AH) : Prop := h'.1 = h.1 ∧ ∀ c, ¬ c = m → ¬ c = m + 2 → ¬ c = m + 9 → h'.2 c = h.2 c
theorem fr3.rf {m : Nat} {h : AH} : fr3 m h h := ⟨rfl, fun _ _ _ _ => rfl⟩
theorem fr3.tr {m : Nat} {h h1 h2 : AH} (a : fr3 m h h1) (b : fr3 m h1 h2) : fr3 m h h2 := ⟨b.1.trans a.1, fun c c1 c2 c3 => (b.2 c c1 c2 c3).trans (a.2 c c1 c2 c3)⟩
theorem fr3.of {m lo hi : Nat} {h h1 : AH} (a : ax_fr lo hi h h1) (q : (lo = m ∨ lo = m + 2 ∨ lo = m + 9) ∧ hi = lo + 1) : fr3 m h h1 := ⟨a.1, fun c c1 c2 c3 => a.2 c (by omega)⟩
/-- reading ended with an error -/
def PE (h h' : AH) (m a : Nat) (th tl e : Int32) (pos : Nat) (lr cm : Int32) : Prop := fr3 m h h' ∧ ModE h' m a th tl e pos lr cm ∧ (∃ R', h'.2 (m + 2) = some (.inl (.int, 5061, .inl R'))) ∧ ∃ pk', h'.2 (m + 9) = some (.inl (.boolean, 200, .inl pk'))
/-- reading has come to b -/
def PG (h h' : AH) (m a : Nat) (th tl : Int32) (b : Nat) (lr cm : Int32) (R' : FI) : Prop := fr3 m h h' ∧ ModG h' m a th tl b lr cm ∧ h'.2 (m + 2) = some (.inl (.int, 5061, .inl R')) ∧ ∃ pk', h'.2 (m + 9) = some (.inl (.boolean, 200, .inl pk'))
theorem wrdB_0 {bs : FI} {s : Nat} {w : List Int32} (h : ¬ w.length = 0) : wrdB bs s 0 w = false := decide_eq_false (fun z => h z.1.symm)
theorem rdW_or {bs : FI} {len b : Nat} (hb : b ≤ len) : (rdW bs len b = .inl (nI 1, tS bs len b) ∧ tA bs len (tS bs len b) = tS bs len b) ∨ (rdW bs len b = .inr (tS bs len b, tA bs len (tS bs len b)) ∧ tS bs len b < tA bs len (tS bs len b)) := by
  obtain ⟨a1, a2⟩ := tS_le (bs := bs) hb
  obtain ⟨b1, b2⟩ := tA_le (bs := bs) a2
  by_cases q : tS bs len b < tA bs len (tS bs len b)
  · have hk := tK1_iff.mpr q
    exact Or.inr ⟨by unfold rdW; rw [if_pos hk, (tK1 hk).2], q⟩
  · exact Or.inl ⟨by unfold rdW; rw [if_neg (fun z => q (tK1_iff.mp z))], by omega⟩

section
variable {Γ : GE} {h : AH} {Q : PO} {m a len b s0 np nb ne nh nc y : Nat} {bs B R qu ra le ln pl tm rw hw cw pk : FI} {re : Nat → UInt32} {bk : Nat → Int64} {t x z w th bg er ea lr cm : Int32}

theorem s_X10_isMoreE {tl at' : Int32} (hM : ModC h m a th tl at' bg er ea lr cm) (he : ¬ er = 0) (k : Q (.inl (some (.int 0))) h) : WP Γ MX10_isMore (2, 40, 0, 0) 0 [some (.ref m)] [] h Q := by
  unfold ModC at hM
  refine wp_aload_n (n := 1) dX10_isMore_0 rfl rfl ?_
  refine wp_getf (n := 4) dX10_isMore_1 rfl flX10_167 (by repeat first | assumption | exact ax_set_self _ _ _ | exact ax_newA_self _ _ _ | refine (ax_set_ne _ _ (by omega)).trans ?_ | refine (ax_newA_ne _ _ _ (by omega)).trans ?_) (by rfl) ?_
  refine wp_if_ne (t := 14) (n := 7) dX10_isMore_4 (by decide) rfl (fun hc => ?_) (fun hc => ?_)
  · refine wp_iconst (n := 15) (v := 0) dX10_isMore_14 rfl (by decide) ?_
    exact wp_ireturn dX10_isMore_15 rfl rfl (k)
  · exact absurd hc he
theorem s_X10_isMore (hA : Γ.2.1 ≤ m) (hU : h.2 (m + 10) = some (.inl (.byte, 500, .inl B))) (hB : BufR bs B len) (hl : len ≤ 500) (hb : b ≤ len) (hM : ModC h m a th (nI len) (nI b) bg 0 ea lr cm)
    (k3 : tK bs len b = 3 → ∀ h', ax_fr m (m + 1) h h' → ModG h' m a th (nI len) (tB bs len b) lr cm → Q (.inl (some (.int (nI 1)))) h')
    (k0 : tK bs len b = 0 → ∀ h', ax_fr m (m + 1) h h' → (∃ b', ModG h' m a th (nI len) b' lr cm) → Q (.inl (some (.int 0))) h')
    (kX : ¬ tK bs len b = 3 → ¬ tK bs len b = 0 → ∀ h', ax_fr m (m + 1) h h' → ModE h' m a th (nI len) (nI 1) (tS bs len b) lr cm → Q (.inl (some (.int 0))) h') : WP Γ MX10_isMore (2, 40, 0, 0) 0 [some (.ref m)] [] h Q := by
  have hM0 := hM
  unfold ModC at hM
  obtain ⟨a1, a2⟩ := tS_le (bs := bs) hb
  refine wp_aload_n (n := 1) dX10_isMore_0 rfl rfl ?_
  refine wp_getf (n := 4) dX10_isMore_1 rfl flX10_167 (by repeat first | assumption | exact ax_set_self _ _ _ | exact ax_newA_self _ _ _ | refine (ax_set_ne _ _ (by omega)).trans ?_ | refine (ax_newA_ne _ _ _ (by omega)).trans ?_) (by rfl) ?_
  refine wp_if_ne (t := 14) (n := 7) dX10_isMore_4 (by decide) rfl (fun hc => ?_) (fun hc => ?_)
  · exact absurd rfl hc
  · refine wp_aload_n (n := 8) dX10_isMore_7 rfl rfl ?_
    refine wp_callV0 (n := 11) (rm' := (1, 20, 0, 0)) rfl dX10_isMore_8 rfl mlX10_173 (by repeat first | assumption | exact ax_set_self _ _ _ | exact ax_newA_self _ _ _ | refine (ax_set_ne _ _ (by omega)).trans ?_ | refine (ax_newA_ne _ _ _ (by omega)).trans ?_) rfl rfl rfl rfl rfl ?_
    refine s_X10_next hA hM0 hU hB hl hb (fun h1 f1 m1 => ?_)
    show WP Γ _ _ _ _ _ _ _
    have m1' := m1
    unfold ModC at m1'
    have hU1 := f1.get hU (by omega)
    by_cases hs : tS bs len b < len
    · obtain ⟨v, v1, v2, v3⟩ := hB _ hs
      have eh : hrV bs len (tS bs len b) = nI v := (if_pos hs).trans v2
      rw [eh]
      refine wp_if_ge (t := 16) (n := 14) dX10_isMore_11 (by decide) rfl (fun hq => ?_) (fun hq => ?_)
      · refine wp_aload_n (n := 17) dX10_isMore_16 rfl rfl ?_
        refine wp_callV0 (n := 20) (rm' := (0, 0, 0, 0)) rfl dX10_isMore_17 rfl mlX10_160 (by repeat first | assumption | exact ax_set_self _ _ _ | exact ax_newA_self _ _ _ | refine (ax_set_ne _ _ (by omega)).trans ?_ | refine (ax_newA_ne _ _ _ (by omega)).trans ?_) rfl rfl rfl rfl rfl ?_
        refine s_X10_here m1 hU1 hB hl (by omega) ?_
        show WP Γ _ _ _ _ _ _ _
        rw [eh]
        refine wp_bipush (n := 22) (v := nI 59) dX10_isMore_20 rfl (by decide) ?_
        by_cases h59 : v = 59
        · subst h59
          have hal : isAl (nI 59) = false := by decide
          have hdg : isDg (nI 59) = false := by decide
          have n1 : ¬ tS bs len b < tA bs len (tS bs len b) := by
            unfold tA; rw [scn_pos, v2]; exact fun z => absurd z.2 (by decide)
          have n2 : ¬ tS bs len b < tD bs len (tS bs len b) := by
            unfold tD; rw [scn_pos, v2]; exact fun z => absurd z.2 (by decide)
          have hk : tK bs len b = 3 := by unfold tK; rw [if_neg n1, if_neg n2, if_neg (by omega), if_pos v2]
          refine wp_icmp_eq (t := 36) (n := 25) dX10_isMore_22 (by decide) rfl (fun hr => ?_) (fun hr => ?_)
          · refine wp_aload_n (n := 37) dX10_isMore_36 rfl rfl ?_
            refine wp_dup (n := 38) dX10_isMore_37 rfl rfl ?_
            refine wp_getf (n := 41) dX10_isMore_38 rfl flX10_157 (by repeat first | assumption | exact ax_set_self _ _ _ | exact ax_newA_self _ _ _ | refine (ax_set_ne _ _ (by omega)).trans ?_ | refine (ax_newA_ne _ _ _ (by omega)).trans ?_) (by rfl) ?_
            refine wp_iconst (n := 42) (v := nI 1) dX10_isMore_41 rfl (by decide) ?_
            refine wp_iadd (n := 43) dX10_isMore_42 rfl ?_
            rw [nI_add]
            refine wp_putf (n := 46) dX10_isMore_43 rfl flX10_157 (by repeat first | assumption | exact ax_set_self _ _ _ | exact ax_newA_self _ _ _ | refine (ax_set_ne _ _ (by omega)).trans ?_ | refine (ax_newA_ne _ _ _ (by omega)).trans ?_) (by omega) (by rfl) rfl rfl ?_
            refine wp_iconst (n := 47) (v := nI 1) dX10_isMore_46 rfl (by decide) ?_
            exact wp_ireturn dX10_isMore_47 rfl rfl (k3 hk _ (f1.put (by omega)) (by rw [tK3 hk]; exact ⟨_, _, ax_set_self _ _ _⟩))
          · exact absurd rfl hr
        · have hk3 : ¬ tK bs len b = 3 := by
            unfold tK
            split
            · omega
            · split
              · omega
              · split
                · omega
                · rw [if_neg (fun z => h59 ((nI_eq9 (by omega) (by omega)).mp (v2.symm.trans z)))]
                  omega
          have hk0 : ¬ tK bs len b = 0 := by
            unfold tK
            split
            · omega
            · split
              · omega
              · rw [if_neg (by omega)]
                split <;> omega
          refine wp_icmp_eq (t := 36) (n := 25) dX10_isMore_22 (by decide) rfl (fun hr => ?_) (fun hr => ?_)
          · exact absurd ((nI_eq9 (by omega) (by omega)).mp hr) h59
          · refine wp_aload_n (n := 26) dX10_isMore_25 rfl rfl ?_
            refine wp_iconst (n := 27) (v := nI 1) dX10_isMore_26 rfl (by decide) ?_
            refine wp_aload_n (n := 28) dX10_isMore_27 rfl rfl ?_
            refine wp_getf (n := 31) dX10_isMore_28 rfl flX10_157 (by repeat first | assumption | exact ax_set_self _ _ _ | exact ax_newA_self _ _ _ | refine (ax_set_ne _ _ (by omega)).trans ?_ | refine (ax_newA_ne _ _ _ (by omega)).trans ?_) (by rfl) ?_
            refine wp_callV2 (n := 34) (rm' := (0, 0, 0, 0)) rfl dX10_isMore_31 rfl mlX10_184 (by repeat first | assumption | exact ax_set_self _ _ _ | exact ax_newA_self _ _ _ | refine (ax_set_ne _ _ (by omega)).trans ?_ | refine (ax_newA_ne _ _ _ (by omega)).trans ?_) rfl rfl rfl rfl rfl ?_
            refine s_X10_fails0 m1 hA (fun h2 f2 m2 => ?_)
            show WP Γ _ _ _ _ _ _ _
            refine wp_iconst (n := 35) (v := 0) dX10_isMore_34 rfl (by decide) ?_
            exact wp_ireturn dX10_isMore_35 rfl rfl (kX hk3 hk0 h2 (f1.tr (lo := m) (hi := m + 1) f2 (by omega) (by omega)) ⟨by decide, _, _, m2⟩)
      · exact absurd (nI_ge0 v (by omega)) hq
    · have eh : hrV bs len (tS bs len b) = -1 := if_neg hs
      have hk : tK bs len b = 0 := by
        have n1 : ¬ tS bs len b < tA bs len (tS bs len b) := by
          unfold tA; rw [scn_pos]; exact fun z => by omega
        have n2 : ¬ tS bs len b < tD bs len (tS bs len b) := by
          unfold tD; rw [scn_pos]; exact fun z => by omega
        unfold tK; rw [if_neg n1, if_neg n2, if_pos (by omega)]
      rw [eh]
      refine wp_if_ge (t := 16) (n := 14) dX10_isMore_11 (by decide) rfl (fun hq => ?_) (fun hq => ?_)
      · exact absurd hq (by decide)
      · refine wp_iconst (n := 15) (v := 0) dX10_isMore_14 rfl (by decide) ?_
        exact wp_ireturn dX10_isMore_15 rfl rfl (k0 hk h1 f1 ⟨_, _, _, m1⟩)

theorem s_X10_pickPart (hM : ModC h m a th (nI len) (nI b) (nI s0) 0 ea lr cm) (hA : Γ.2.1 ≤ m) (hU : h.2 (m + 10) = some (.inl (.byte, 500, .inl B))) (hB : BufR bs B len) (hl : len ≤ 500) (hb : b ≤ len) (hC : h.2 (m + 2) = some (.inl (.int, 5061, .inl R))) (hP9 : h.2 (m + 9) = some (.inl (.boolean, 200, .inl pk))) (hr : RowR R np qu ra re le ln nb pl tm ne rw bk 0 hw 0 cw t y)
    (kF : ∀ e pos h', pikR bs len b = .inl (e, pos) → PE h h' m a th (nI len) e pos lr cm → Q (.inl none) h')
    (kO : ∀ u w h' R', pikR bs len b = .inr (u, w) → b < w → w ≤ len → PG h h' m a th (nI len) w lr cm R' → RowR R' np qu ra re le ln nb pl tm ne rw bk 0 hw 0 cw t u → Q (.inl none) h') : WP Γ MX10_pickPart (5, 108, 0, 0) 0 [some (.ref m), none] [] h Q := by
  have hM0 := hM
  unfold ModC at hM
  obtain ⟨a1, a2⟩ := tS_le (bs := bs) hb
  obtain ⟨b1, b2⟩ := tA_le (bs := bs) a2
  refine wp_aload_n (n := 1) dX10_pickPart_0 rfl rfl ?_
  refine wp_callV0 (n := 4) (rm' := (2, 40, 0, 0)) rfl dX10_pickPart_1 rfl mlX10_198 (by repeat first | assumption | exact ax_set_self _ _ _ | exact ax_newA_self _ _ _ | refine (ax_set_ne _ _ (by omega)).trans ?_ | refine (ax_newA_ne _ _ _ (by omega)).trans ?_) rfl rfl rfl rfl rfl ?_
  refine s_X10_reads hA hM0 hU hB hl hb (fun h1 f1 m1 => ?_)
  show WP Γ _ _ _ _ _ _ _
  have m1' := m1
  unfold ModC at m1'
  have hU1 := f1.get hU (by omega)
  have hC1 := f1.get hC (by omega)
  have hP1 := f1.get hP9 (by omega)
  have bad : pikR bs len b = .inl (nI 1, tS bs len b) → WP Γ MX10_pickPart (5, 108, 0, 0) 56 [some (.ref m), none] [] h1 Q := by
    intro hp
    refine wp_iconst (n := 57) (v := (-1)) dX10_pickPart_56 rfl (by decide) ?_
    refine wp_istore_n (n := 58) dX10_pickPart_57 rfl rfl rfl rfl ?_
    refine wp_iload_n (n := 59) dX10_pickPart_58 rfl rfl ?_
    refine wp_iconst (n := 60) (v := (-1)) dX10_pickPart_59 rfl (by decide) ?_
    refine wp_icmp_ne (t := 72) (n := 63) dX10_pickPart_60 (by decide) rfl (fun hc => ?_) (fun hc => ?_)
    · exact absurd rfl hc
    · refine wp_aload_n (n := 64) dX10_pickPart_63 rfl rfl ?_
      refine wp_iconst (n := 65) (v := nI 1) dX10_pickPart_64 rfl (by decide) ?_
      refine wp_aload_n (n := 66) dX10_pickPart_65 rfl rfl ?_
      refine wp_getf (n := 69) dX10_pickPart_66 rfl flX10_164 (by repeat first | assumption | exact ax_set_self _ _ _ | exact ax_newA_self _ _ _ | refine (ax_set_ne _ _ (by omega)).trans ?_ | refine (ax_newA_ne _ _ _ (by omega)).trans ?_) (by rfl) ?_
      refine wp_callV2 (n := 72) (rm' := (0, 0, 0, 0)) rfl dX10_pickPart_69 rfl mlX10_184 (by repeat first | assumption | exact ax_set_self _ _ _ | exact ax_newA_self _ _ _ | refine (ax_set_ne _ _ (by omega)).trans ?_ | refine (ax_newA_ne _ _ _ (by omega)).trans ?_) rfl rfl rfl rfl rfl ?_
      refine s_X10_fails0 m1 hA (fun h2 f2 m2 => ?_)
      show WP Γ _ _ _ _ _ _ _
      have m2' := m2
      unfold ModC at m2'
      have hC2 := f2.get hC1 (by omega)
      refine wp_aload_n (n := 73) dX10_pickPart_72 rfl rfl ?_
      refine wp_getf (n := 76) dX10_pickPart_73 rfl flX10_13 (by repeat first | assumption | exact ax_set_self _ _ _ | exact ax_newA_self _ _ _ | refine (ax_set_ne _ _ (by omega)).trans ?_ | refine (ax_newA_ne _ _ _ (by omega)).trans ?_) (by rfl) ?_
      refine wp_iconst (n := 77) (v := nI 3) dX10_pickPart_76 rfl (by decide) ?_
      refine wp_iload_n (n := 78) dX10_pickPart_77 rfl rfl ?_
      refine wp_iast (n := 79) _ dX10_pickPart_78 rfl (by repeat first | assumption | exact ax_set_self _ _ _ | exact ax_newA_self _ _ _ | refine (ax_set_ne _ _ (by omega)).trans ?_ | refine (ax_newA_ne _ _ _ (by omega)).trans ?_) (by omega) rfl (by omega) (by decide) ?_
      exact wp_return dX10_pickPart_79 rfl (kF _ _ _ hp ⟨(fr3.of f1 (by omega)).tr ((fr3.of f2 (by omega)).tr (fr3.of (ax_fr.set (lo := m + 2) (hi := m + 3) (by omega)) (by omega))), ⟨by decide, _, _, (ax_set_ne _ _ (by omega)).trans m2⟩, ⟨_, ax_set_self _ _ _⟩, _, (ax_set_ne _ _ (by omega)).trans (f2.get hP1 (by omega))⟩)
  have good : ∀ u, u ≤ 3 → tS bs len b < tA bs len (tS bs len b) → pikR bs len b = .inr (u, tA bs len (tS bs len b)) → WP Γ MX10_pickPart (5, 108, 0, 0) 57 [some (.ref m), none] [.int (nI u)] h1 Q := by
    intro u hu hlt hp
    refine wp_istore_n (n := 58) dX10_pickPart_57 rfl rfl rfl rfl ?_
    refine wp_iload_n (n := 59) dX10_pickPart_58 rfl rfl ?_
    refine wp_iconst (n := 60) (v := (-1)) dX10_pickPart_59 rfl (by decide) ?_
    refine wp_icmp_ne (t := 72) (n := 63) dX10_pickPart_60 (by decide) rfl (fun hc => ?_) (fun hc => ?_)
    · refine wp_aload_n (n := 73) dX10_pickPart_72 rfl rfl ?_
      refine wp_getf (n := 76) dX10_pickPart_73 rfl flX10_13 (by repeat first | assumption | exact ax_set_self _ _ _ | exact ax_newA_self _ _ _ | refine (ax_set_ne _ _ (by omega)).trans ?_ | refine (ax_newA_ne _ _ _ (by omega)).trans ?_) (by rfl) ?_
      refine wp_iconst (n := 77) (v := nI 3) dX10_pickPart_76 rfl (by decide) ?_
      refine wp_iload_n (n := 78) dX10_pickPart_77 rfl rfl ?_
      refine wp_iast (n := 79) _ dX10_pickPart_78 rfl (by repeat first | assumption | exact ax_set_self _ _ _ | exact ax_newA_self _ _ _ | refine (ax_set_ne _ _ (by omega)).trans ?_ | refine (ax_newA_ne _ _ _ (by omega)).trans ?_) (by omega) rfl (by omega) (by decide) ?_
      exact wp_return dX10_pickPart_79 rfl (kO u _ _ _ hp (by omega) b2 ⟨(fr3.of f1 (by omega)).tr (fr3.of (ax_fr.set (lo := m + 2) (hi := m + 3) (by omega)) (by omega)), ⟨_, _, (ax_set_ne _ _ (by omega)).trans m1⟩, ax_set_self _ _ _, _, (ax_set_ne _ _ (by omega)).trans hP1⟩ hr.way)
    · exact absurd hc (nI_ne_neg (by omega))
  have eP : ∀ q : (Int32 × Nat) ⊕ (Nat × Nat), rdW bs len b = .inr (tS bs len b, tA bs len (tS bs len b)) → (if wrdB bs (tS bs len b) (tA bs len (tS bs len b) - tS bs len b) w_lowest = true then .inr (0, tA bs len (tS bs len b)) else if wrdB bs (tS bs len b) (tA bs len (tS bs len b) - tS bs len b) w_highest = true then .inr (1, tA bs len (tS bs len b)) else if wrdB bs (tS bs len b) (tA bs len (tS bs len b) - tS bs len b) w_oldest = true then .inr (2, tA bs len (tS bs len b)) else if wrdB bs (tS bs len b) (tA bs len (tS bs len b) - tS bs len b) w_fitting = true then .inr (3, tA bs len (tS bs len b)) else .inl (nI 1, tS bs len b)) = q → pikR bs len b = q := fun q hq e => (mrR_r hq).trans e
  have W : ∀ (wd : List Int32), ¬ wd.length = 0 → wrdB bs (tS bs len b) (tA bs len (tS bs len b) - tS bs len b) wd = true → tS bs len b < tA bs len (tS bs len b) := by
    intro wd hw h9
    have := (of_decide_eq_true h9).1
    omega
  refine wp_aload_n (n := 5) dX10_pickPart_4 rfl rfl ?_
  refine wp_ldcS (n := 7) 33 dX10_pickPart_5 rfl rfl ?_
  refine wp_callV1 (n := 10) (rm' := (4, 85, 0, 0)) rfl dX10_pickPart_7 rfl mlX10_207 (by repeat first | assumption | exact ax_set_self _ _ _ | exact ax_newA_self _ _ _ | refine (ax_set_ne _ _ (by omega)).trans ?_ | refine (ax_newA_ne _ _ _ (by omega)).trans ?_) rfl rfl rfl rfl rfl ?_
  refine s_X10_isW 33 w_lowest rfl rfl rfl (by decide) m1 hU1 hB hl b1 b2 ?_
  show WP Γ _ _ _ _ _ _ _
  refine wp_if_eq (t := 17) (n := 13) dX10_pickPart_10 (by decide) rfl (fun hc => ?_) (fun hc => ?_)
  · have n1 := bI_eq hc
    refine wp_aload_n (n := 18) dX10_pickPart_17 rfl rfl ?_
    refine wp_ldcS (n := 20) 34 dX10_pickPart_18 rfl rfl ?_
    refine wp_callV1 (n := 23) (rm' := (4, 85, 0, 0)) rfl dX10_pickPart_20 rfl mlX10_207 (by repeat first | assumption | exact ax_set_self _ _ _ | exact ax_newA_self _ _ _ | refine (ax_set_ne _ _ (by omega)).trans ?_ | refine (ax_newA_ne _ _ _ (by omega)).trans ?_) rfl rfl rfl rfl rfl ?_
    refine s_X10_isW 34 w_highest rfl rfl rfl (by decide) m1 hU1 hB hl b1 b2 ?_
    show WP Γ _ _ _ _ _ _ _
    refine wp_if_eq (t := 30) (n := 26) dX10_pickPart_23 (by decide) rfl (fun hq => ?_) (fun hq => ?_)
    · have n2 := bI_eq hq
      refine wp_aload_n (n := 31) dX10_pickPart_30 rfl rfl ?_
      refine wp_ldcS (n := 33) 35 dX10_pickPart_31 rfl rfl ?_
      refine wp_callV1 (n := 36) (rm' := (4, 85, 0, 0)) rfl dX10_pickPart_33 rfl mlX10_207 (by repeat first | assumption | exact ax_set_self _ _ _ | exact ax_newA_self _ _ _ | refine (ax_set_ne _ _ (by omega)).trans ?_ | refine (ax_newA_ne _ _ _ (by omega)).trans ?_) rfl rfl rfl rfl rfl ?_
      refine s_X10_isW 35 w_oldest rfl rfl rfl (by decide) m1 hU1 hB hl b1 b2 ?_
      show WP Γ _ _ _ _ _ _ _
      refine wp_if_eq (t := 43) (n := 39) dX10_pickPart_36 (by decide) rfl (fun hr9 => ?_) (fun hr9 => ?_)
      · have n3 := bI_eq hr9
        refine wp_aload_n (n := 44) dX10_pickPart_43 rfl rfl ?_
        refine wp_ldcS (n := 46) 36 dX10_pickPart_44 rfl rfl ?_
        refine wp_callV1 (n := 49) (rm' := (4, 85, 0, 0)) rfl dX10_pickPart_46 rfl mlX10_207 (by repeat first | assumption | exact ax_set_self _ _ _ | exact ax_newA_self _ _ _ | refine (ax_set_ne _ _ (by omega)).trans ?_ | refine (ax_newA_ne _ _ _ (by omega)).trans ?_) rfl rfl rfl rfl rfl ?_
        refine s_X10_isW 36 w_fitting rfl rfl rfl (by decide) m1 hU1 hB hl b1 b2 ?_
        show WP Γ _ _ _ _ _ _ _
        refine wp_if_eq (t := 56) (n := 52) dX10_pickPart_49 (by decide) rfl (fun hs => ?_) (fun hs => ?_)
        · have n4 := bI_eq hs
          rcases rdW_or (bs := bs) hb with ⟨q1, q2⟩ | ⟨q1, q2⟩
          · exact bad (mrR_l q1)
          · exact bad (eP _ q1 (by rw [n1, n2, n3, n4]; rfl))
        · have n4 := bI_ne hs
          have hlt := W _ (by decide) n4
          rcases rdW_or (bs := bs) hb with ⟨q1, q2⟩ | ⟨q1, q2⟩
          · omega
          · refine wp_iconst (n := 53) (v := nI 3) dX10_pickPart_52 rfl (by decide) ?_
            refine wp_goto (t := 57) dX10_pickPart_53 (by decide) ?_
            exact good 3 (by omega) hlt (eP _ q1 (by rw [n1, n2, n3, n4]; rfl))
      · have n3 := bI_ne hr9
        have hlt := W _ (by decide) n3
        rcases rdW_or (bs := bs) hb with ⟨q1, q2⟩ | ⟨q1, q2⟩
        · omega
        · refine wp_iconst (n := 40) (v := nI 2) dX10_pickPart_39 rfl (by decide) ?_
          refine wp_goto (t := 57) dX10_pickPart_40 (by decide) ?_
          exact good 2 (by omega) hlt (eP _ q1 (by rw [n1, n2, n3]; rfl))
    · have n2 := bI_ne hq
      have hlt := W _ (by decide) n2
      rcases rdW_or (bs := bs) hb with ⟨q1, q2⟩ | ⟨q1, q2⟩
      · omega
      · refine wp_iconst (n := 27) (v := nI 1) dX10_pickPart_26 rfl (by decide) ?_
        refine wp_goto (t := 57) dX10_pickPart_27 (by decide) ?_
        exact good 1 (by omega) hlt (eP _ q1 (by rw [n1, n2]; rfl))
  · have n1 := bI_ne hc
    have hlt := W _ (by decide) n1
    rcases rdW_or (bs := bs) hb with ⟨q1, q2⟩ | ⟨q1, q2⟩
    · omega
    · refine wp_iconst (n := 14) (v := 0) dX10_pickPart_13 rfl (by decide) ?_
      refine wp_goto (t := 57) dX10_pickPart_14 (by decide) ?_
      exact good 0 (by omega) hlt (eP _ q1 (by rw [n1]; rfl))

end
