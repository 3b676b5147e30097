/-! ===== the reference: names ===== -/

theorem byt_sm : ∀ v, v < 128 → (nI v).toInt8.toInt32 = nI v := by decide +kernel
theorem al_ne {c : Int32} (h : isAl c = true) : ¬ c = 0 := fun q => by rw [q] at h; exact absurd h (by decide)
theorem BufR.al {bs B : FI} {len i : Nat} (h : BufR bs B len) (hi : i < len) (ha : isAl (bs i) = true) : B i = bs i := by
  obtain ⟨v, v1, v2, v3⟩ := h i hi
  rw [v2] at ha
  have := (nI_le9 (by omega) (by omega)).mp (of_decide_eq_true ha).2
  rw [v3, v2, byt_sm v (by omega)]
theorem fstG_0 {P : Nat → Bool} : ∀ {g j : Nat}, (∀ i, j ≤ i → i < j + g → P i = false) → fstG P g j = none
  | 0, _, _ => rfl
  | g + 1, j, h => by
    unfold fstG
    rw [h j (Nat.le_refl _) (by omega), if_neg (by decide)]
    exact fstG_0 (fun i h1 h2 => h i (by omega) (by omega))
/-- the letters of a pool in the row, against a word -/
theorem name_iff {bs R qu ra le ln : FI} {re : Nat → UInt32} {np j s l : Nat} (hP : RowP R np qu ra le ln) (hI : InvP np qu ra re le ln) (hj : j < np) (h1 : 1 ≤ l) (hb : l < 2147483648) (hw : ∀ i, i < l → isAl (bs (s + i)) = true) : nameB le ln bs s l j = true ↔ (l ≤ 6 ∧ ∀ k, k < 6 → R (407 + 8 * j + 2 + k) = if k < l then bs (s + k) else 0) := by
  obtain ⟨_, _, _, u, u1, u2, u3, u4⟩ := hI j hj
  have rp := (hP j hj).2.2
  have lt : ∀ k, k < 6 → (nI k < ln j ↔ k < u) := fun k hk => by rw [u3]; exact nI_lt9 (by omega) (by omega)
  unfold nameB
  rw [decide_eq_true_eq]
  constructor
  · rintro ⟨a, b⟩
    rw [u3] at a
    obtain rfl : u = l := (nI_eq9 (by omega) hb).mp a
    refine ⟨u2, fun k hk => ?_⟩
    rw [rp k hk]
    by_cases q : k < u
    · rw [if_pos ((lt k hk).mpr q), if_pos q]; exact b k q
    · rw [if_neg (fun z => q ((lt k hk).mp z)), if_neg q]
  · rintro ⟨a, b⟩
    have e : u = l := by
      rcases Nat.lt_trichotomy u l with q | q | q
      · have := b u (by omega)
        rw [rp u (by omega), if_neg (fun z => by have := (lt u (by omega)).mp z; omega), if_pos q] at this
        exact absurd this.symm (al_ne (hw u q))
      · exact q
      · have := b l (by omega)
        rw [rp l (by omega), if_pos ((lt l (by omega)).mpr q), if_neg (by omega)] at this
        exact absurd this (al_ne (u4 l q))
    subst e
    refine ⟨u3, fun i hi => ?_⟩
    have := b i (by omega)
    rw [rp i (by omega), if_pos ((lt i (by omega)).mpr hi), if_pos hi] at this
    exact this

section
variable {Γ : GE} {h : AH} {Q : PO} {m a len b s9 e9 c np : Nat} {bs B R qu ra le ln : FI} {re : Nat → UInt32} {x z w th bg er ea lr cm : Int32}

theorem s_X10_isNameOf {j : Nat} (hM : ModC h m a th (nI len) (nI e9) (nI s9) er ea lr cm) (hU : h.2 (m + 10) = some (.inl (.byte, 500, .inl B))) (hB : BufR bs B len) (hl : len ≤ 500) (hR : h.2 c = some (.inl (.int, 5061, .inl R))) (r1 : R 1 = nI np) (hn : np ≤ 8) (hP : RowP R np qu ra le ln) (hI : InvP np qu ra re le ln) (hj : j < np) (hs : s9 < e9) (he : e9 ≤ len) (hw : ∀ i, s9 ≤ i → i < e9 → isAl (bs i) = true)
    (k : Q (.inl (some (.int (bI (nameB le ln bs s9 (e9 - s9) j))))) h) : WP Γ MX10_isNameOf (0, 0, 0, 0) 0 [some (.ref m), some (.ref c), some (.int (nI j)), none, none] [] h Q := by
  unfold ModC at hM
  have hiff := name_iff (bs := bs) (s := s9) (l := e9 - s9) hP hI hj (by omega) (by omega) (fun i hi => hw (s9 + i) (by omega) (by omega))
  have no : ¬ nameB le ln bs s9 (e9 - s9) j = true → ∀ q4, WP Γ MX10_isNameOf (0, 0, 0, 0) 23 [some (.ref m), some (.ref c), some (.int (nI j)), some (.int 0), q4] [] h Q := by
    intro hn q4
    rw [Bool.eq_false_iff.mpr hn] at k
    refine wp_iload_n (n := 24) dX10_isNameOf_23 rfl rfl ?_
    refine wp_if_eq (t := 94) (n := 27) dX10_isNameOf_24 (by decide) rfl (fun hc => ?_) (fun hc => ?_)
    · refine wp_iload_n (n := 95) dX10_isNameOf_94 rfl rfl ?_
      exact wp_ireturn dX10_isNameOf_95 rfl rfl (k)
    · exact absurd rfl hc
  refine wp_aload_n (n := 1) dX10_isNameOf_0 rfl rfl ?_
  refine wp_getf (n := 4) dX10_isNameOf_1 rfl flX10_157 (by repeat first | assumption | exact ax_set_self _ _ _ | exact ax_newA_self _ _ _ | refine (ax_set_ne _ _ (by omega)).trans ?_ | refine (ax_newA_ne _ _ _ (by omega)).trans ?_) (by rfl) ?_
  refine wp_aload_n (n := 5) dX10_isNameOf_4 rfl rfl ?_
  refine wp_getf (n := 8) dX10_isNameOf_5 rfl flX10_164 (by repeat first | assumption | exact ax_set_self _ _ _ | exact ax_newA_self _ _ _ | refine (ax_set_ne _ _ (by omega)).trans ?_ | refine (ax_newA_ne _ _ _ (by omega)).trans ?_) (by rfl) ?_
  refine wp_isub (n := 9) dX10_isNameOf_8 rfl ?_
  rw [nI_sub (by omega)]
  refine wp_bipush (n := 11) (v := nI 6) dX10_isNameOf_9 rfl (by decide) ?_
  refine wp_icmp_gt (t := 18) (n := 14) dX10_isNameOf_11 (by decide) rfl (fun hc => ?_) (fun hc => ?_)
  · have h6 := (nI_lt9 (by omega) (by omega)).mp hc
    refine wp_iconst (n := 19) (v := 0) dX10_isNameOf_18 rfl (by decide) ?_
    refine wp_istore_n (n := 20) dX10_isNameOf_19 rfl rfl rfl rfl ?_
    refine wp_iconst (n := 21) (v := 0) dX10_isNameOf_20 rfl (by decide) ?_
    refine wp_istore (n := 23) dX10_isNameOf_21 rfl rfl rfl rfl ?_
    exact no (fun z => by have := (hiff.mp z).1; omega) _
  · have h6 : e9 - s9 ≤ 6 := by
      by_cases q : 6 < e9 - s9
      · exact absurd ((nI_lt9 (by omega) (by omega)).mpr q) hc
      · omega
    refine wp_iconst (n := 15) (v := nI 1) dX10_isNameOf_14 rfl (by decide) ?_
    refine wp_goto (t := 19) dX10_isNameOf_15 (by decide) ?_
    refine wp_istore_n (n := 20) dX10_isNameOf_19 rfl rfl rfl rfl ?_
    refine wp_iconst (n := 21) (v := 0) dX10_isNameOf_20 rfl (by decide) ?_
    refine wp_istore (n := 23) dX10_isNameOf_21 rfl rfl rfl rfl ?_
    suffices L : ∀ q, q ≤ 6 → (∀ r, r < q → R (407 + 8 * j + 2 + r) = if r < e9 - s9 then bs (s9 + r) else 0) → WP Γ MX10_isNameOf (0, 0, 0, 0) 23 [some (.ref m), some (.ref c), some (.int (nI j)), some (.int (nI 1)), some (.int (nI q))] [] h Q from L 0 (Nat.zero_le _) (fun _ z => absurd z (Nat.not_lt_zero _))
    refine ax_up 6 (fun q hq ih => ?_)
    intro hp
    refine wp_iload_n (n := 24) dX10_isNameOf_23 rfl rfl ?_
    refine wp_if_eq (t := 94) (n := 27) dX10_isNameOf_24 (by decide) rfl (fun hr => ?_) (fun hr => ?_)
    · exact absurd hr (by decide)
    · refine wp_iload (n := 29) dX10_isNameOf_27 rfl rfl ?_
      refine wp_bipush (n := 31) (v := nI 6) dX10_isNameOf_29 rfl (by decide) ?_
      refine wp_icmp_ge (t := 94) (n := 34) dX10_isNameOf_31 (by decide) rfl (fun hs9 => ?_) (fun hs9 => ?_)
      · rw [nI_le9 (by omega) (by omega)] at hs9
        obtain rfl : q = 6 := by omega
        rw [hiff.mpr ⟨h6, hp⟩] at k
        refine wp_iload_n (n := 95) dX10_isNameOf_94 rfl rfl ?_
        exact wp_ireturn dX10_isNameOf_95 rfl rfl (k)
      · rw [nI_le9 (by omega) (by omega)] at hs9
        have S : ∀ u, u = (if q < e9 - s9 then bs (s9 + q) else 0) → WP Γ MX10_isNameOf (0, 0, 0, 0) 79 [some (.ref m), some (.ref c), some (.int (nI j)), some (.int (nI 1)), some (.int (nI q))] [.int u, .int (R (407 + 8 * j + 2 + q))] h Q := by
          intro u hu
          refine wp_icmp_ne (t := 86) (n := 82) dX10_isNameOf_79 (by decide) rfl (fun ht => ?_) (fun ht => ?_)
          · refine wp_iconst (n := 87) (v := 0) dX10_isNameOf_86 rfl (by decide) ?_
            refine wp_istore_n (n := 88) dX10_isNameOf_87 rfl rfl rfl rfl ?_
            refine wp_iinc (n := 91) dX10_isNameOf_88 rfl rfl (nI_inc q) rfl rfl rfl ?_
            refine wp_goto (t := 23) dX10_isNameOf_91 (by decide) ?_
            exact no (fun z => ht (((hiff.mp z).2 q (by omega)).trans hu.symm)) _
          · refine wp_iconst (n := 83) (v := nI 1) dX10_isNameOf_82 rfl (by decide) ?_
            refine wp_goto (t := 87) dX10_isNameOf_83 (by decide) ?_
            refine wp_istore_n (n := 88) dX10_isNameOf_87 rfl rfl rfl rfl ?_
            refine wp_iinc (n := 91) dX10_isNameOf_88 rfl rfl (nI_inc q) rfl rfl rfl ?_
            refine wp_goto (t := 23) dX10_isNameOf_91 (by decide) ?_
            refine ih (by omega) (fun r hr => ?_)
            by_cases e : r = q
            · rw [e]; exact ht.trans hu
            · exact hp r (by omega)
        refine wp_aload_n (n := 35) dX10_isNameOf_34 rfl rfl ?_
        refine wp_sipush (n := 38) (v := nI 407) dX10_isNameOf_35 rfl (by decide) ?_
        refine wp_bipush (n := 40) (v := nI 8) dX10_isNameOf_38 rfl (by decide) ?_
        refine wp_iload_n (n := 41) dX10_isNameOf_40 rfl rfl ?_
        refine wp_imul (n := 42) dX10_isNameOf_41 rfl ?_
        refine wp_iadd (n := 43) dX10_isNameOf_42 rfl ?_
        refine wp_iconst (n := 44) (v := nI 2) dX10_isNameOf_43 rfl (by decide) ?_
        refine wp_iadd (n := 45) dX10_isNameOf_44 rfl ?_
        refine wp_iload (n := 47) dX10_isNameOf_45 rfl rfl ?_
        refine wp_iadd (n := 48) dX10_isNameOf_47 rfl ?_
        refine wp_iald (n := 49) (407 + 8 * j + 2 + q) dX10_isNameOf_48 rfl (by repeat first | assumption | exact ax_set_self _ _ _ | exact ax_newA_self _ _ _ | refine (ax_set_ne _ _ (by omega)).trans ?_ | refine (ax_newA_ne _ _ _ (by omega)).trans ?_) (by simp only [nI_zero, nI_mul, nI_add]) (by omega) (by omega) ?_
        refine wp_aload_n (n := 50) dX10_isNameOf_49 rfl rfl ?_
        refine wp_getf (n := 53) dX10_isNameOf_50 rfl flX10_164 (by repeat first | assumption | exact ax_set_self _ _ _ | exact ax_newA_self _ _ _ | refine (ax_set_ne _ _ (by omega)).trans ?_ | refine (ax_newA_ne _ _ _ (by omega)).trans ?_) (by rfl) ?_
        refine wp_iload (n := 55) dX10_isNameOf_53 rfl rfl ?_
        refine wp_iadd (n := 56) dX10_isNameOf_55 rfl ?_
        refine wp_aload_n (n := 57) dX10_isNameOf_56 rfl rfl ?_
        refine wp_getf (n := 60) dX10_isNameOf_57 rfl flX10_157 (by repeat first | assumption | exact ax_set_self _ _ _ | exact ax_newA_self _ _ _ | refine (ax_set_ne _ _ (by omega)).trans ?_ | refine (ax_newA_ne _ _ _ (by omega)).trans ?_) (by rfl) ?_
        rw [nI_add]
        refine wp_icmp_ge (t := 78) (n := 63) dX10_isNameOf_60 (by decide) rfl (fun hv => ?_) (fun hv => ?_)
        · have := (nI_le9 (by omega) (by omega)).mp hv
          refine wp_iconst (n := 79) (v := 0) dX10_isNameOf_78 rfl (by decide) ?_
          exact S _ (by rw [if_neg (by omega)])
        · have hlt : s9 + q < e9 := by
            by_cases q9 : e9 ≤ s9 + q
            · exact absurd ((nI_le9 (by omega) (by omega)).mpr q9) hv
            · omega
          refine wp_aload_n (n := 64) dX10_isNameOf_63 rfl rfl ?_
          refine wp_getf (n := 67) dX10_isNameOf_64 rfl flX10_39 (by repeat first | assumption | exact ax_set_self _ _ _ | exact ax_newA_self _ _ _ | refine (ax_set_ne _ _ (by omega)).trans ?_ | refine (ax_newA_ne _ _ _ (by omega)).trans ?_) (by rfl) ?_
          refine wp_aload_n (n := 68) dX10_isNameOf_67 rfl rfl ?_
          refine wp_getf (n := 71) dX10_isNameOf_68 rfl flX10_164 (by repeat first | assumption | exact ax_set_self _ _ _ | exact ax_newA_self _ _ _ | refine (ax_set_ne _ _ (by omega)).trans ?_ | refine (ax_newA_ne _ _ _ (by omega)).trans ?_) (by rfl) ?_
          refine wp_iload (n := 73) dX10_isNameOf_71 rfl rfl ?_
          refine wp_iadd (n := 74) dX10_isNameOf_73 rfl ?_
          refine wp_bald (n := 75) (s9 + q) dX10_isNameOf_74 rfl (by repeat first | assumption | exact ax_set_self _ _ _ | exact ax_newA_self _ _ _ | refine (ax_set_ne _ _ (by omega)).trans ?_ | refine (ax_newA_ne _ _ _ (by omega)).trans ?_) (by simp only [nI_zero, nI_mul, nI_add]) (by omega) (by omega) ?_
          rw [hB.al (by omega) (hw (s9 + q) (by omega) hlt)]
          refine wp_goto (t := 79) dX10_isNameOf_75 (by decide) ?_
          exact S _ (by rw [if_pos (by omega)])
theorem s_X10_findIn (hM : ModC h m a th (nI len) (nI e9) (nI s9) er ea lr cm) (hU : h.2 (m + 10) = some (.inl (.byte, 500, .inl B))) (hB : BufR bs B len) (hl : len ≤ 500) (hR : h.2 c = some (.inl (.int, 5061, .inl R))) (r1 : R 1 = nI np) (hn : np ≤ 8) (hP : RowP R np qu ra le ln) (hI : InvP np qu ra re le ln) (hs : s9 < e9) (he : e9 ≤ len) (hw : ∀ i, s9 ≤ i → i < e9 → isAl (bs i) = true)
    (k : Q (.inl (some (.int (oI (fstG (nameB le ln bs s9 (e9 - s9)) np 0))))) h) : WP Γ MX10_findIn (1, 24, 0, 0) 0 [some (.ref m), some (.ref c), none] [] h Q := by
  have hM0 := hM
  unfold ModC at hM
  refine wp_iconst (n := 1) (v := 0) dX10_findIn_0 rfl (by decide) ?_
  refine wp_istore_n (n := 2) dX10_findIn_1 rfl rfl rfl rfl ?_
  suffices L : ∀ g j, j + g = np → Q (.inl (some (.int (oI (fstG (nameB le ln bs s9 (e9 - s9)) g j))))) h → WP Γ MX10_findIn (1, 24, 0, 0) 2 [some (.ref m), some (.ref c), some (.int (nI j))] [] h Q from L np 0 (by omega) k
  intro g
  induction g with
  | zero =>
    intro j hj k
    refine wp_iload_n (n := 3) dX10_findIn_2 rfl rfl ?_
    refine wp_aload_n (n := 4) dX10_findIn_3 rfl rfl ?_
    refine wp_iconst (n := 5) (v := nI 1) dX10_findIn_4 rfl (by decide) ?_
    refine wp_iald (n := 6) _ dX10_findIn_5 rfl (by repeat first | assumption | exact ax_set_self _ _ _ | exact ax_newA_self _ _ _ | refine (ax_set_ne _ _ (by omega)).trans ?_ | refine (ax_newA_ne _ _ _ (by omega)).trans ?_) rfl (by omega) (by decide) ?_
    rw [r1]
    refine wp_icmp_ge (t := 26) (n := 9) dX10_findIn_6 (by decide) rfl (fun hc => ?_) (fun hc => ?_)
    · refine wp_iconst (n := 27) (v := (-1)) dX10_findIn_26 rfl (by decide) ?_
      exact wp_ireturn dX10_findIn_27 rfl rfl (k)
    · rw [nI_le9 (by omega) (by omega)] at hc
      exact absurd (by omega) hc
  | succ g ih =>
    intro j hj k
    refine wp_iload_n (n := 3) dX10_findIn_2 rfl rfl ?_
    refine wp_aload_n (n := 4) dX10_findIn_3 rfl rfl ?_
    refine wp_iconst (n := 5) (v := nI 1) dX10_findIn_4 rfl (by decide) ?_
    refine wp_iald (n := 6) _ dX10_findIn_5 rfl (by repeat first | assumption | exact ax_set_self _ _ _ | exact ax_newA_self _ _ _ | refine (ax_set_ne _ _ (by omega)).trans ?_ | refine (ax_newA_ne _ _ _ (by omega)).trans ?_) rfl (by omega) (by decide) ?_
    rw [r1]
    refine wp_icmp_ge (t := 26) (n := 9) dX10_findIn_6 (by decide) rfl (fun hc => ?_) (fun hc => ?_)
    · rw [nI_le9 (by omega) (by omega)] at hc
      exact absurd hc (by omega)
    · refine wp_aload_n (n := 10) dX10_findIn_9 rfl rfl ?_
      refine wp_aload_n (n := 11) dX10_findIn_10 rfl rfl ?_
      refine wp_iload_n (n := 12) dX10_findIn_11 rfl rfl ?_
      refine wp_callV2 (n := 15) (rm' := (0, 0, 0, 0)) rfl dX10_findIn_12 rfl mlX10_194 (by repeat first | assumption | exact ax_set_self _ _ _ | exact ax_newA_self _ _ _ | refine (ax_set_ne _ _ (by omega)).trans ?_ | refine (ax_newA_ne _ _ _ (by omega)).trans ?_) rfl rfl rfl rfl rfl ?_
      refine s_X10_isNameOf hM0 hU hB hl hR r1 hn hP hI (by omega) hs he hw ?_
      show WP Γ _ _ _ _ _ _ _
      refine wp_if_eq (t := 20) (n := 18) dX10_findIn_15 (by decide) rfl (fun hq => ?_) (fun hq => ?_)
      · refine wp_iinc (n := 23) dX10_findIn_20 rfl rfl (nI_inc j) rfl rfl rfl ?_
        refine wp_goto (t := 2) dX10_findIn_23 (by decide) ?_
        simp only [fstG, bI_eq hq, Bool.false_eq_true, if_false] at k
        exact ih (j + 1) (by omega) k
      · simp only [fstG, bI_ne hq, if_true] at k
        refine wp_iload_n (n := 19) dX10_findIn_18 rfl rfl ?_
        exact wp_ireturn dX10_findIn_19 rfl rfl (k)
theorem s_X10_knownE {tl at' : Int32} (hM : ModC h m a th tl at' bg er ea lr cm) (he : ¬ er = 0)
    (k : Q (.inl (some (.int x))) h) : WP Γ MX10_known (3, 60, 0, 0) 0 [some (.ref m), some (.ref c), some (.int x), some (.int z), none] [] h Q := by
  unfold ModC at hM
  refine wp_aload_n (n := 1) dX10_known_0 rfl rfl ?_
  refine wp_getf (n := 4) dX10_known_1 rfl flX10_167 (by repeat first | assumption | exact ax_set_self _ _ _ | exact ax_newA_self _ _ _ | refine (ax_set_ne _ _ (by omega)).trans ?_ | refine (ax_newA_ne _ _ _ (by omega)).trans ?_) (by rfl) ?_
  refine wp_if_eq (t := 9) (n := 7) dX10_known_4 (by decide) rfl (fun hc => ?_) (fun hc => ?_)
  · exact absurd hc he
  · refine wp_iload_n (n := 8) dX10_known_7 rfl rfl ?_
    exact wp_ireturn dX10_known_8 rfl rfl (k)
theorem s_X10_known (hA : Γ.2.1 ≤ m) (hM : ModC h m a th (nI len) (nI b) bg 0 ea lr cm) (hU : h.2 (m + 10) = some (.inl (.byte, 500, .inl B))) (hB : BufR bs B len) (hl : len ≤ 500) (hR : h.2 c = some (.inl (.int, 5061, .inl R))) (r1 : R 1 = nI np) (hn : np ≤ 8) (hP : RowP R np qu ra le ln) (hI : InvP np qu ra re le ln) (hc9 : ¬ c = m) (hb : b ≤ len)
    (kF : ∀ e pos h', rdW bs len b = .inl (e, pos) → ax_fr m (m + 1) h h' → ModE h' m a th (nI len) e pos lr cm → Q (.inl (some (.int x))) h')
    (kN : ∀ s w h', rdW bs len b = .inr (s, w) → (oI (fstG (nameB le ln bs s (w - s)) np 0) < x ∨ oI (fstG (nameB le ln bs s (w - s)) np 0) = z) → ax_fr m (m + 1) h h' → ModE h' m a th (nI len) (nI 3) s lr cm → Q (.inl (some (.int x))) h')
    (kO : ∀ s w h', rdW bs len b = .inr (s, w) → ¬ oI (fstG (nameB le ln bs s (w - s)) np 0) < x → ¬ oI (fstG (nameB le ln bs s (w - s)) np 0) = z → b < w → w ≤ len → ax_fr m (m + 1) h h' → ModG h' m a th (nI len) w lr cm → Q (.inl (some (.int (oI (fstG (nameB le ln bs s (w - s)) np 0))))) h') : WP Γ MX10_known (3, 60, 0, 0) 0 [some (.ref m), some (.ref c), some (.int x), some (.int z), none] [] h Q := by
  have hM0 := hM
  unfold ModC at hM
  obtain ⟨a1, a2⟩ := tS_le (bs := bs) hb
  obtain ⟨b1, b2⟩ := tA_le (bs := bs) a2
  refine wp_aload_n (n := 1) dX10_known_0 rfl rfl ?_
  refine wp_getf (n := 4) dX10_known_1 rfl flX10_167 (by repeat first | assumption | exact ax_set_self _ _ _ | exact ax_newA_self _ _ _ | refine (ax_set_ne _ _ (by omega)).trans ?_ | refine (ax_newA_ne _ _ _ (by omega)).trans ?_) (by rfl) ?_
  refine wp_if_eq (t := 9) (n := 7) dX10_known_4 (by decide) rfl (fun hc => ?_) (fun hc => ?_)
  · refine wp_aload_n (n := 10) dX10_known_9 rfl rfl ?_
    refine wp_callV0 (n := 13) (rm' := (2, 40, 0, 0)) rfl dX10_known_10 rfl mlX10_198 (by repeat first | assumption | exact ax_set_self _ _ _ | exact ax_newA_self _ _ _ | refine (ax_set_ne _ _ (by omega)).trans ?_ | refine (ax_newA_ne _ _ _ (by omega)).trans ?_) rfl rfl rfl rfl rfl ?_
    refine s_X10_reads hA hM0 hU hB hl hb (fun h1 f1 m1 => ?_)
    show WP Γ _ _ _ _ _ _ _
    have m1' := m1
    unfold ModC at m1'
    refine wp_aload_n (n := 14) dX10_known_13 rfl rfl ?_
    refine wp_getf (n := 17) dX10_known_14 rfl flX10_157 (by repeat first | assumption | exact ax_set_self _ _ _ | exact ax_newA_self _ _ _ | refine (ax_set_ne _ _ (by omega)).trans ?_ | refine (ax_newA_ne _ _ _ (by omega)).trans ?_) (by rfl) ?_
    refine wp_aload_n (n := 18) dX10_known_17 rfl rfl ?_
    refine wp_getf (n := 21) dX10_known_18 rfl flX10_164 (by repeat first | assumption | exact ax_set_self _ _ _ | exact ax_newA_self _ _ _ | refine (ax_set_ne _ _ (by omega)).trans ?_ | refine (ax_newA_ne _ _ _ (by omega)).trans ?_) (by rfl) ?_
    refine wp_icmp_ne (t := 35) (n := 24) dX10_known_21 (by decide) rfl (fun hq => ?_) (fun hq => ?_)
    · have hne : tS bs len b < tA bs len (tS bs len b) := by
        by_cases q : tS bs len b < tA bs len (tS bs len b)
        · exact q
        · exact absurd (by rw [show tA bs len (tS bs len b) = tS bs len b by omega]) hq
      have hk := tK1_iff.mpr hne
      have er9 : rdW bs len b = .inr (tS bs len b, tA bs len (tS bs len b)) := by unfold rdW; rw [if_pos hk, (tK1 hk).2]
      refine wp_aload_n (n := 36) dX10_known_35 rfl rfl ?_
      refine wp_aload_n (n := 37) dX10_known_36 rfl rfl ?_
      refine wp_callV1 (n := 40) (rm' := (1, 24, 0, 0)) rfl dX10_known_37 rfl mlX10_201 (by repeat first | assumption | exact ax_set_self _ _ _ | exact ax_newA_self _ _ _ | refine (ax_set_ne _ _ (by omega)).trans ?_ | refine (ax_newA_ne _ _ _ (by omega)).trans ?_) rfl rfl rfl rfl rfl ?_
      refine s_X10_findIn m1 (f1.get hU (by omega)) hB hl (f1.get hR (by omega)) r1 hn hP hI hne b2 (fun i h1 h2 => scn_all isAl bs _ _ i h1 h2) ?_
      show WP Γ _ _ _ _ _ _ _
      refine wp_istore (n := 42) dX10_known_40 rfl rfl rfl rfl ?_
      have kN := fun h' => kN _ _ h' er9
      have kO := fun h' => kO _ _ h' er9
      generalize oI (fstG (nameB le ln bs (tS bs len b) (tA bs len (tS bs len b) - tS bs len b)) np 0) = o at *
      have bad : (o < x ∨ o = z) → WP Γ MX10_known (3, 60, 0, 0) 54 [some (.ref m), some (.ref c), some (.int x), some (.int z), some (.int o)] [] h1 Q := by
        intro hbad
        refine wp_aload_n (n := 55) dX10_known_54 rfl rfl ?_
        refine wp_iconst (n := 56) (v := nI 3) dX10_known_55 rfl (by decide) ?_
        refine wp_aload_n (n := 57) dX10_known_56 rfl rfl ?_
        refine wp_getf (n := 60) dX10_known_57 rfl flX10_164 (by repeat first | assumption | exact ax_set_self _ _ _ | exact ax_newA_self _ _ _ | refine (ax_set_ne _ _ (by omega)).trans ?_ | refine (ax_newA_ne _ _ _ (by omega)).trans ?_) (by rfl) ?_
        refine wp_callV2 (n := 63) (rm' := (0, 0, 0, 0)) rfl dX10_known_60 rfl mlX10_184 (by repeat first | assumption | exact ax_set_self _ _ _ | exact ax_newA_self _ _ _ | refine (ax_set_ne _ _ (by omega)).trans ?_ | refine (ax_newA_ne _ _ _ (by omega)).trans ?_) rfl rfl rfl rfl rfl ?_
        refine s_X10_fails0 m1 hA (fun h2 f2 m2 => ?_)
        show WP Γ _ _ _ _ _ _ _
        refine wp_iload_n (n := 64) dX10_known_63 rfl rfl ?_
        exact wp_ireturn dX10_known_64 rfl rfl (kN h2 hbad (f1.tr (lo := m) (hi := m + 1) f2 (by omega) (by omega)) ⟨by decide, _, _, m2⟩)
      refine wp_iload (n := 44) dX10_known_42 rfl rfl ?_
      refine wp_iload_n (n := 45) dX10_known_44 rfl rfl ?_
      refine wp_icmp_lt (t := 54) (n := 48) dX10_known_45 (by decide) rfl (fun hr => ?_) (fun hr => ?_)
      · exact bad (Or.inl hr)
      · refine wp_iload (n := 50) dX10_known_48 rfl rfl ?_
        refine wp_iload_n (n := 51) dX10_known_50 rfl rfl ?_
        refine wp_icmp_ne (t := 65) (n := 54) dX10_known_51 (by decide) rfl (fun hs => ?_) (fun hs => ?_)
        · refine wp_iload (n := 67) dX10_known_65 rfl rfl ?_
          exact wp_ireturn dX10_known_67 rfl rfl (kO h1 hr hs (by omega) b2 f1 ⟨_, _, m1⟩)
        · exact bad (Or.inr hs)
    · have hne : ¬ tS bs len b < tA bs len (tS bs len b) := by
        have := (nI_eq9 (by omega) (by omega)).mp hq
        omega
      have er9 : rdW bs len b = .inl (nI 1, tS bs len b) := by unfold rdW; rw [if_neg (fun z => hne (tK1_iff.mp z))]
      refine wp_aload_n (n := 25) dX10_known_24 rfl rfl ?_
      refine wp_iconst (n := 26) (v := nI 1) dX10_known_25 rfl (by decide) ?_
      refine wp_aload_n (n := 27) dX10_known_26 rfl rfl ?_
      refine wp_getf (n := 30) dX10_known_27 rfl flX10_164 (by repeat first | assumption | exact ax_set_self _ _ _ | exact ax_newA_self _ _ _ | refine (ax_set_ne _ _ (by omega)).trans ?_ | refine (ax_newA_ne _ _ _ (by omega)).trans ?_) (by rfl) ?_
      refine wp_callV2 (n := 33) (rm' := (0, 0, 0, 0)) rfl dX10_known_30 rfl mlX10_184 (by repeat first | assumption | exact ax_set_self _ _ _ | exact ax_newA_self _ _ _ | refine (ax_set_ne _ _ (by omega)).trans ?_ | refine (ax_newA_ne _ _ _ (by omega)).trans ?_) rfl rfl rfl rfl rfl ?_
      refine s_X10_fails0 m1 hA (fun h2 f2 m2 => ?_)
      show WP Γ _ _ _ _ _ _ _
      refine wp_iload_n (n := 34) dX10_known_33 rfl rfl ?_
      exact wp_ireturn dX10_known_34 rfl rfl (kF _ _ h2 er9 (f1.tr (lo := m) (hi := m + 1) f2 (by omega) (by omega)) ⟨by decide, _, _, m2⟩)
  · exact absurd rfl hc
theorem s_X10_poolNamed {at' : Int32} (hA : Γ.2.1 ≤ m) (hM : ModC h m a th (nI len) at' bg er ea lr cm) (hU : h.2 (m + 10) = some (.inl (.byte, 500, .inl B))) (hB : BufR bs B len) (hl : len ≤ 500) (hR : h.2 a = some (.inl (.int, 5061, .inl R))) (r1 : R 1 = nI np) (hn : np ≤ 8) (hP : RowP R np qu ra le ln) (hI : InvP np qu ra re le ln) (ham : ¬ a = m)
    (k : ∀ h' at'' bg', ax_fr m (m + 1) h h' → ModC h' m a 0 0 at'' bg' er ea lr cm → Q (.inl (some (.int (oI (fstG (nameB le ln bs 0 len) np 0))))) h') : WP Γ MX10_poolNamed (2, 46, 0, 0) 0 [some (.ref m), none] [] h Q := by
  unfold ModC at hM
  have L : ∀ g b1, b1 + g = len → (∀ i, i < b1 → isAl (bs i) = true) → ∀ h1, ax_fr m (m + 1) h h1 → ModC h1 m a 0 (nI len) (nI b1) 0 er ea lr cm → WP Γ MX10_poolNamed (2, 46, 0, 0) 15 [some (.ref m), none] [] h1 Q := by
    intro g
    induction g with
    | zero =>
      intro b1 hg hal h1 f1 m1
      have m1' := m1
      unfold ModC at m1'
      have hU1 := f1.get hU (by omega)
      have hR1 := f1.get hR (by omega)
      obtain rfl : b1 = len := by omega
      have eh : hrV bs b1 b1 = -1 := if_neg (by omega)
      refine wp_aload_n (n := 16) dX10_poolNamed_15 rfl rfl ?_
      refine wp_callV0 (n := 19) (rm' := (0, 0, 0, 0)) rfl dX10_poolNamed_16 rfl mlX10_160 (by repeat first | assumption | exact ax_set_self _ _ _ | exact ax_newA_self _ _ _ | refine (ax_set_ne _ _ (by omega)).trans ?_ | refine (ax_newA_ne _ _ _ (by omega)).trans ?_) rfl rfl rfl rfl rfl ?_
      refine s_X10_here m1 hU1 hB hl (by omega) ?_
      show WP Γ _ _ _ _ _ _ _
      refine wp_bipush (n := 21) (v := nI 97) dX10_poolNamed_19 rfl (by decide) ?_
      refine wp_bipush (n := 23) (v := nI 122) dX10_poolNamed_21 rfl (by decide) ?_
      refine wp_callS3 (n := 26) (rm' := (0, 0, 0, 0)) rfl dX10_poolNamed_23 rfl mlX10_54 rfl rfl rfl rfl ?_
      refine s_X10_inJ (p := 97) (q := 122) rfl rfl ?_
      show WP Γ _ _ _ _ _ _ _
      rw [eh]
      refine wp_if_eq (t := 42) (n := 29) dX10_poolNamed_26 (by decide) rfl (fun hc => ?_) (fun hc => ?_)
      · refine wp_aload_n (n := 43) dX10_poolNamed_42 rfl rfl ?_
        refine wp_getf (n := 46) dX10_poolNamed_43 rfl flX10_157 (by repeat first | assumption | exact ax_set_self _ _ _ | exact ax_newA_self _ _ _ | refine (ax_set_ne _ _ (by omega)).trans ?_ | refine (ax_newA_ne _ _ _ (by omega)).trans ?_) (by rfl) ?_
        refine wp_aload_n (n := 47) dX10_poolNamed_46 rfl rfl ?_
        refine wp_getf (n := 50) dX10_poolNamed_47 rfl flX10_154 (by repeat first | assumption | exact ax_set_self _ _ _ | exact ax_newA_self _ _ _ | refine (ax_set_ne _ _ (by omega)).trans ?_ | refine (ax_newA_ne _ _ _ (by omega)).trans ?_) (by rfl) ?_
        refine wp_icmp_ne (t := 71) (n := 53) dX10_poolNamed_50 (by decide) rfl (fun hq => ?_) (fun hq => ?_)
        · exact absurd rfl hq
        · refine wp_aload_n (n := 54) dX10_poolNamed_53 rfl rfl ?_
          refine wp_getf (n := 57) dX10_poolNamed_54 rfl flX10_154 (by repeat first | assumption | exact ax_set_self _ _ _ | exact ax_newA_self _ _ _ | refine (ax_set_ne _ _ (by omega)).trans ?_ | refine (ax_newA_ne _ _ _ (by omega)).trans ?_) (by rfl) ?_
          refine wp_if_le (t := 71) (n := 60) dX10_poolNamed_57 (by decide) rfl (fun hr => ?_) (fun hr => ?_)
          · have h0 : b1 = 0 := by
              have := (nI_le9 (b := 0) (by omega) (by omega)).mp hr
              omega
            subst h0
            have e0 : fstG (nameB le ln bs 0 0) np 0 = none := fstG_0 (fun i h1 h2 => by
              obtain ⟨_, _, _, u, u1, u2, u3, u4⟩ := hI i (by omega)
              unfold nameB
              refine decide_eq_false (fun z => ?_)
              rw [u3] at z
              have := (nI_eq9 (by omega) (by omega)).mp z.1
              omega)
            rw [e0] at k
            refine wp_iconst (n := 72) (v := (-1)) dX10_poolNamed_71 rfl (by decide) ?_
            refine wp_istore_n (n := 73) dX10_poolNamed_72 rfl rfl rfl rfl ?_
            refine wp_aload_n (n := 74) dX10_poolNamed_73 rfl rfl ?_
            refine wp_iconst (n := 75) (v := 0) dX10_poolNamed_74 rfl (by decide) ?_
            refine wp_putf (n := 78) dX10_poolNamed_75 rfl flX10_154 (by repeat first | assumption | exact ax_set_self _ _ _ | exact ax_newA_self _ _ _ | refine (ax_set_ne _ _ (by omega)).trans ?_ | refine (ax_newA_ne _ _ _ (by omega)).trans ?_) (by omega) (by rfl) rfl rfl ?_
            refine wp_iload_n (n := 79) dX10_poolNamed_78 rfl rfl ?_
            exact wp_ireturn dX10_poolNamed_79 rfl rfl (k _ _ _ (f1.put (by omega)) (ax_set_self _ _ _))
          · have h0 : 0 < b1 := by
              by_cases q : b1 = 0
              · exact absurd ((nI_le9 (b := 0) (by omega) (by omega)).mpr (by omega)) hr
              · omega
            refine wp_aload_n (n := 61) dX10_poolNamed_60 rfl rfl ?_
            refine wp_aload_n (n := 62) dX10_poolNamed_61 rfl rfl ?_
            refine wp_getf (n := 65) dX10_poolNamed_62 rfl flX10_9 (by repeat first | assumption | exact ax_set_self _ _ _ | exact ax_newA_self _ _ _ | refine (ax_set_ne _ _ (by omega)).trans ?_ | refine (ax_newA_ne _ _ _ (by omega)).trans ?_) (by rfl) ?_
            refine wp_callV1 (n := 68) (rm' := (1, 24, 0, 0)) rfl dX10_poolNamed_65 rfl mlX10_201 (by repeat first | assumption | exact ax_set_self _ _ _ | exact ax_newA_self _ _ _ | refine (ax_set_ne _ _ (by omega)).trans ?_ | refine (ax_newA_ne _ _ _ (by omega)).trans ?_) rfl rfl rfl rfl rfl ?_
            refine s_X10_findIn (s9 := 0) m1 hU1 hB hl hR1 r1 hn hP hI h0 (Nat.le_refl _) (fun i _ h2 => hal i h2) ?_
            show WP Γ _ _ _ _ _ _ _
            rw [Nat.sub_zero]
            refine wp_goto (t := 72) dX10_poolNamed_68 (by decide) ?_
            refine wp_istore_n (n := 73) dX10_poolNamed_72 rfl rfl rfl rfl ?_
            refine wp_aload_n (n := 74) dX10_poolNamed_73 rfl rfl ?_
            refine wp_iconst (n := 75) (v := 0) dX10_poolNamed_74 rfl (by decide) ?_
            refine wp_putf (n := 78) dX10_poolNamed_75 rfl flX10_154 (by repeat first | assumption | exact ax_set_self _ _ _ | exact ax_newA_self _ _ _ | refine (ax_set_ne _ _ (by omega)).trans ?_ | refine (ax_newA_ne _ _ _ (by omega)).trans ?_) (by omega) (by rfl) rfl rfl ?_
            refine wp_iload_n (n := 79) dX10_poolNamed_78 rfl rfl ?_
            exact wp_ireturn dX10_poolNamed_79 rfl rfl (k _ _ _ (f1.put (by omega)) (ax_set_self _ _ _))
      · exact absurd hc (by decide)
    | succ g ih =>
      intro b1 hg hal h1 f1 m1
      have m1' := m1
      unfold ModC at m1'
      have hU1 := f1.get hU (by omega)
      have eh : hrV bs len b1 = bs b1 := if_pos (by omega)
      refine wp_aload_n (n := 16) dX10_poolNamed_15 rfl rfl ?_
      refine wp_callV0 (n := 19) (rm' := (0, 0, 0, 0)) rfl dX10_poolNamed_16 rfl mlX10_160 (by repeat first | assumption | exact ax_set_self _ _ _ | exact ax_newA_self _ _ _ | refine (ax_set_ne _ _ (by omega)).trans ?_ | refine (ax_newA_ne _ _ _ (by omega)).trans ?_) rfl rfl rfl rfl rfl ?_
      refine s_X10_here m1 hU1 hB hl (by omega) ?_
      show WP Γ _ _ _ _ _ _ _
      refine wp_bipush (n := 21) (v := nI 97) dX10_poolNamed_19 rfl (by decide) ?_
      refine wp_bipush (n := 23) (v := nI 122) dX10_poolNamed_21 rfl (by decide) ?_
      refine wp_callS3 (n := 26) (rm' := (0, 0, 0, 0)) rfl dX10_poolNamed_23 rfl mlX10_54 rfl rfl rfl rfl ?_
      refine s_X10_inJ (p := 97) (q := 122) rfl rfl ?_
      show WP Γ _ _ _ _ _ _ _
      rw [eh]
      refine wp_if_eq (t := 42) (n := 29) dX10_poolNamed_26 (by decide) rfl (fun hc => ?_) (fun hc => ?_)
      · have hc : isAl (bs b1) = false := bI_eq hc
        have e0 : fstG (nameB le ln bs 0 len) np 0 = none := fstG_0 (fun i h1 h2 => by
          obtain ⟨_, _, _, u, u1, u2, u3, u4⟩ := hI i (by omega)
          unfold nameB
          refine decide_eq_false (fun z => ?_)
          rw [u3] at z
          have e := (nI_eq9 (by omega) (by omega)).mp z.1
          have h9 := u4 b1 (by omega)
          have h8 := z.2 b1 (by omega)
          rw [h8, Nat.zero_add, hc] at h9
          cases h9)
        rw [e0] at k
        refine wp_aload_n (n := 43) dX10_poolNamed_42 rfl rfl ?_
        refine wp_getf (n := 46) dX10_poolNamed_43 rfl flX10_157 (by repeat first | assumption | exact ax_set_self _ _ _ | exact ax_newA_self _ _ _ | refine (ax_set_ne _ _ (by omega)).trans ?_ | refine (ax_newA_ne _ _ _ (by omega)).trans ?_) (by rfl) ?_
        refine wp_aload_n (n := 47) dX10_poolNamed_46 rfl rfl ?_
        refine wp_getf (n := 50) dX10_poolNamed_47 rfl flX10_154 (by repeat first | assumption | exact ax_set_self _ _ _ | exact ax_newA_self _ _ _ | refine (ax_set_ne _ _ (by omega)).trans ?_ | refine (ax_newA_ne _ _ _ (by omega)).trans ?_) (by rfl) ?_
        refine wp_icmp_ne (t := 71) (n := 53) dX10_poolNamed_50 (by decide) rfl (fun hq => ?_) (fun hq => ?_)
        · refine wp_iconst (n := 72) (v := (-1)) dX10_poolNamed_71 rfl (by decide) ?_
          refine wp_istore_n (n := 73) dX10_poolNamed_72 rfl rfl rfl rfl ?_
          refine wp_aload_n (n := 74) dX10_poolNamed_73 rfl rfl ?_
          refine wp_iconst (n := 75) (v := 0) dX10_poolNamed_74 rfl (by decide) ?_
          refine wp_putf (n := 78) dX10_poolNamed_75 rfl flX10_154 (by repeat first | assumption | exact ax_set_self _ _ _ | exact ax_newA_self _ _ _ | refine (ax_set_ne _ _ (by omega)).trans ?_ | refine (ax_newA_ne _ _ _ (by omega)).trans ?_) (by omega) (by rfl) rfl rfl ?_
          refine wp_iload_n (n := 79) dX10_poolNamed_78 rfl rfl ?_
          exact wp_ireturn dX10_poolNamed_79 rfl rfl (k _ _ _ (f1.put (by omega)) (ax_set_self _ _ _))
        · have := (nI_eq9 (by omega) (by omega)).mp hq
          omega
      · have hc : isAl (bs b1) = true := bI_ne hc
        refine wp_aload_n (n := 30) dX10_poolNamed_29 rfl rfl ?_
        refine wp_dup (n := 31) dX10_poolNamed_30 rfl rfl ?_
        refine wp_getf (n := 34) dX10_poolNamed_31 rfl flX10_157 (by repeat first | assumption | exact ax_set_self _ _ _ | exact ax_newA_self _ _ _ | refine (ax_set_ne _ _ (by omega)).trans ?_ | refine (ax_newA_ne _ _ _ (by omega)).trans ?_) (by rfl) ?_
        refine wp_iconst (n := 35) (v := nI 1) dX10_poolNamed_34 rfl (by decide) ?_
        refine wp_iadd (n := 36) dX10_poolNamed_35 rfl ?_
        rw [nI_add]
        refine wp_putf (n := 39) dX10_poolNamed_36 rfl flX10_157 (by repeat first | assumption | exact ax_set_self _ _ _ | exact ax_newA_self _ _ _ | refine (ax_set_ne _ _ (by omega)).trans ?_ | refine (ax_newA_ne _ _ _ (by omega)).trans ?_) (by omega) (by rfl) rfl rfl ?_
        refine wp_goto (t := 15) dX10_poolNamed_39 (by decide) ?_
        refine ih (b1 + 1) (by omega) (fun i hi => ?_) _ (f1.put (by omega)) (ax_set_self _ _ _)
        by_cases e : i = b1
        · rw [e]; exact hc
        · exact hal i (by omega)
  refine wp_aload_n (n := 1) dX10_poolNamed_0 rfl rfl ?_
  refine wp_iconst (n := 2) (v := 0) dX10_poolNamed_1 rfl (by decide) ?_
  refine wp_putf (n := 5) dX10_poolNamed_2 rfl flX10_50 (by repeat first | assumption | exact ax_set_self _ _ _ | exact ax_newA_self _ _ _ | refine (ax_set_ne _ _ (by omega)).trans ?_ | refine (ax_newA_ne _ _ _ (by omega)).trans ?_) (by omega) (by rfl) rfl rfl ?_
  refine wp_aload_n (n := 6) dX10_poolNamed_5 rfl rfl ?_
  refine wp_iconst (n := 7) (v := 0) dX10_poolNamed_6 rfl (by decide) ?_
  refine wp_putf (n := 10) dX10_poolNamed_7 rfl flX10_157 (by repeat first | assumption | exact ax_set_self _ _ _ | exact ax_newA_self _ _ _ | refine (ax_set_ne _ _ (by omega)).trans ?_ | refine (ax_newA_ne _ _ _ (by omega)).trans ?_) (by omega) (by rfl) rfl rfl ?_
  refine wp_aload_n (n := 11) dX10_poolNamed_10 rfl rfl ?_
  refine wp_iconst (n := 12) (v := 0) dX10_poolNamed_11 rfl (by decide) ?_
  refine wp_putf (n := 15) dX10_poolNamed_12 rfl flX10_164 (by repeat first | assumption | exact ax_set_self _ _ _ | exact ax_newA_self _ _ _ | refine (ax_set_ne _ _ (by omega)).trans ?_ | refine (ax_newA_ne _ _ _ (by omega)).trans ?_) (by omega) (by rfl) rfl rfl ?_
  exact L len 0 (by omega) (fun i hi => absurd hi (Nat.not_lt_zero _)) _ (((ax_fr.set (lo := m) (hi := m + 1) (by omega)).put (by omega)).put (by omega)) (ax_set_self _ _ _)

end
