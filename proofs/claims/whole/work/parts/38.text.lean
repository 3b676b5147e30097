/-! ===== Text ===== -/
def TextAt (h : AH) (p : Nat) (bs : FI) (len : Nat) (kd : Int32) (st bh : Nat) (er ea : Int32) : Prop := h.2 p = some (.inr (8, [.ref (p + 1), .int (nI len), .int kd, .int (nI st), .int (nI bh), .int er, .int ea])) ∧ h.2 (p + 1) = some (.inl (.int, 500, .inl bs))
theorem TextAt.fr {h h' : AH} {p lo hi : Nat} {bs : FI} {len : Nat} {kd : Int32} {st bh : Nat} {er ea : Int32} (hM : TextAt h p bs len kd st bh er ea) (hF : ax_fr lo hi h h') (hd : hi ≤ p ∨ p + 2 ≤ lo) : TextAt h' p bs len kd st bh er ea := ⟨hF.get hM.1 (by omega), hF.get hM.2 (by omega)⟩
theorem TextAt.set {h : AH} {p : Nat} {bs : FI} {len : Nat} {kd : Int32} {st bh : Nat} {er ea : Int32} (hM : TextAt h p bs len kd st bh er ea) (len' : Nat) (kd' : Int32) (st' bh' : Nat) (er' ea' : Int32) : TextAt (ax_set h p (.inr (8, [.ref (p + 1), .int (nI len'), .int kd', .int (nI st'), .int (nI bh'), .int er', .int ea']))) p bs len' kd' st' bh' er' ea' := ⟨ax_set_self _ _ _, (ax_set_ne _ _ (by omega)).trans hM.2⟩
/-- as far as P holds -/
def scn (P : Int32 → Bool) (bs : FI) : Nat → Nat → Nat
  | 0, i => i
  | g + 1, i => if P (bs i) = true then scn P bs g (i + 1) else i
def isSp (c : Int32) : Bool := decide (c = nI 32)
def isAl (c : Int32) : Bool := decide (nI 97 ≤ c ∧ c ≤ nI 122)
def isDg (c : Int32) : Bool := decide (nI 48 ≤ c ∧ c ≤ nI 57)
theorem scn_ge (P : Int32 → Bool) (bs : FI) : ∀ g i, i ≤ scn P bs g i
  | 0, _ => Nat.le_refl _
  | g + 1, i => by
    unfold scn
    split
    · have := scn_ge P bs g (i + 1); omega
    · exact Nat.le_refl _
theorem scn_le (P : Int32 → Bool) (bs : FI) : ∀ g i, scn P bs g i ≤ i + g
  | 0, _ => Nat.le_refl _
  | g + 1, i => by
    unfold scn
    split
    · have := scn_le P bs g (i + 1); omega
    · omega
/-- the token behind b: where it begins, what it is, where it ends -/
def tS (bs : FI) (len b : Nat) : Nat := scn isSp bs (len - b) b
def tA (bs : FI) (len s : Nat) : Nat := scn isAl bs (len - s) s
def tD (bs : FI) (len s : Nat) : Nat := scn isDg bs (len - s) s
def tK (bs : FI) (len b : Nat) : Nat := if tS bs len b < tA bs len (tS bs len b) then 1 else if tS bs len b < tD bs len (tS bs len b) then 2 else if len ≤ tS bs len b then 0 else if bs (tS bs len b) = nI 59 then 3 else 4
def tB (bs : FI) (len b : Nat) : Nat := if tS bs len b < tA bs len (tS bs len b) then tA bs len (tS bs len b) else if tS bs len b < tD bs len (tS bs len b) then tD bs len (tS bs len b) else if len ≤ tS bs len b then tS bs len b else tS bs len b + 1
theorem tS_le {bs : FI} {len b : Nat} (h : b ≤ len) : b ≤ tS bs len b ∧ tS bs len b ≤ len := by
  have h1 := scn_ge isSp bs (len - b) b
  have h2 := scn_le isSp bs (len - b) b
  unfold tS
  omega
theorem tA_le {bs : FI} {len b : Nat} (h : b ≤ len) : b ≤ tA bs len b ∧ tA bs len b ≤ len := by
  have h1 := scn_ge isAl bs (len - b) b
  have h2 := scn_le isAl bs (len - b) b
  unfold tA
  omega
theorem tD_le {bs : FI} {len b : Nat} (h : b ≤ len) : b ≤ tD bs len b ∧ tD bs len b ≤ len := by
  have h1 := scn_ge isDg bs (len - b) b
  have h2 := scn_le isDg bs (len - b) b
  unfold tD
  omega
theorem tB_le {bs : FI} {len b : Nat} (h : b ≤ len) : tS bs len b ≤ tB bs len b ∧ tB bs len b ≤ len := by
  have h1 := tS_le (bs := bs) h
  have h2 := tA_le (bs := bs) h1.2
  have h3 := tD_le (bs := bs) h1.2
  unfold tB
  split
  · omega
  · split
    · omega
    · split
      · omega
      · omega
theorem tK_le (bs : FI) (len b : Nat) : tK bs len b ≤ 4 := by
  unfold tK
  split
  · omega
  · split
    · omega
    · split
      · omega
      · split <;> omega
section
variable {Γ : GE} {h : AH} {Q : PO} {p len st bh : Nat} {bs : FI} {kd er ea x : Int32}
theorem s_X8_init (hO : h.2 p = some (.inr (8, [.null, .int 0, .int 0, .int 0, .int 0, .int 0, .int 0]))) (hz : h.1 = p + 1) (hA : Γ.2.1 ≤ p)
    (k : ∀ h', h'.1 = p + 2 → (∀ a, a < p → h'.2 a = h.2 a) → TextAt h' p (fun _ => 0) 0 0 0 0 0 0 → Q (.inl none) h') : WP Γ MX8_init (1, 60, 1, 500) 0 [some (.ref p)] [] h Q := by
  refine wp_aload_n (n := 1) dX8_init_0 rfl rfl ?_
  refine wp_objInit (n := 4) dX8_init_1 rfl olX8_3 ax_oi ax_oc rfl rfl ?_
  refine wp_aload_n (n := 5) dX8_init_4 rfl rfl ?_
  refine wp_sipush (n := 8) (v := nI 500) dX8_init_5 rfl (by decide) ?_
  refine wp_newaA (n := 10) (p + 1) 500 (ty := .int) (500, .inl (fun _ => 0)) dX8_init_8 rfl hz rfl ac_int rfl (by decide) rfl (fun _ => rfl) (fun _ q => by cases q) (by decide) rfl rfl ?_
  refine wp_putF (n := 13) dX8_init_10 rfl flX8_9 rfl rfl (by repeat first | assumption | exact ax_set_self _ _ _ | exact ax_newA_self _ _ _ | refine (ax_set_ne _ _ (by omega)).trans ?_ | refine (ax_newA_ne _ _ _ (by omega)).trans ?_) (by omega) (by rfl) rfl rfl ?_
  refine wp_aload_n (n := 14) dX8_init_13 rfl rfl ?_
  refine wp_iconst (n := 15) (v := 0) dX8_init_14 rfl (by decide) ?_
  refine wp_putf (n := 18) dX8_init_15 rfl flX8_15 (by repeat first | assumption | exact ax_set_self _ _ _ | exact ax_newA_self _ _ _ | refine (ax_set_ne _ _ (by omega)).trans ?_ | refine (ax_newA_ne _ _ _ (by omega)).trans ?_) (by omega) (by rfl) rfl rfl ?_
  refine wp_aload_n (n := 19) dX8_init_18 rfl rfl ?_
  refine wp_iconst (n := 20) (v := 0) dX8_init_19 rfl (by decide) ?_
  refine wp_putf (n := 23) dX8_init_20 rfl flX8_19 (by repeat first | assumption | exact ax_set_self _ _ _ | exact ax_newA_self _ _ _ | refine (ax_set_ne _ _ (by omega)).trans ?_ | refine (ax_newA_ne _ _ _ (by omega)).trans ?_) (by omega) (by rfl) rfl rfl ?_
  refine wp_aload_n (n := 24) dX8_init_23 rfl rfl ?_
  refine wp_iconst (n := 25) (v := 0) dX8_init_24 rfl (by decide) ?_
  refine wp_putf (n := 28) dX8_init_25 rfl flX8_22 (by repeat first | assumption | exact ax_set_self _ _ _ | exact ax_newA_self _ _ _ | refine (ax_set_ne _ _ (by omega)).trans ?_ | refine (ax_newA_ne _ _ _ (by omega)).trans ?_) (by omega) (by rfl) rfl rfl ?_
  refine wp_aload_n (n := 29) dX8_init_28 rfl rfl ?_
  refine wp_iconst (n := 30) (v := 0) dX8_init_29 rfl (by decide) ?_
  refine wp_putf (n := 33) dX8_init_30 rfl flX8_25 (by repeat first | assumption | exact ax_set_self _ _ _ | exact ax_newA_self _ _ _ | refine (ax_set_ne _ _ (by omega)).trans ?_ | refine (ax_newA_ne _ _ _ (by omega)).trans ?_) (by omega) (by rfl) rfl rfl ?_
  refine wp_aload_n (n := 34) dX8_init_33 rfl rfl ?_
  refine wp_iconst (n := 35) (v := 0) dX8_init_34 rfl (by decide) ?_
  refine wp_putf (n := 38) dX8_init_35 rfl flX8_28 (by repeat first | assumption | exact ax_set_self _ _ _ | exact ax_newA_self _ _ _ | refine (ax_set_ne _ _ (by omega)).trans ?_ | refine (ax_newA_ne _ _ _ (by omega)).trans ?_) (by omega) (by rfl) rfl rfl ?_
  refine wp_aload_n (n := 39) dX8_init_38 rfl rfl ?_
  refine wp_iconst (n := 40) (v := 0) dX8_init_39 rfl (by decide) ?_
  refine wp_putf (n := 43) dX8_init_40 rfl flX8_31 (by repeat first | assumption | exact ax_set_self _ _ _ | exact ax_newA_self _ _ _ | refine (ax_set_ne _ _ (by omega)).trans ?_ | refine (ax_newA_ne _ _ _ (by omega)).trans ?_) (by omega) (by rfl) rfl rfl ?_
  refine wp_return dX8_init_43 rfl (k _ rfl (fun a ha => ?_) ⟨?_, ?_⟩)
  · repeat first | rfl | refine (ax_set_ne _ _ (by omega)).trans ?_ | refine (ax_newA_ne _ _ _ (by omega)).trans ?_
  all_goals repeat first | assumption | exact ax_set_self _ _ _ | exact ax_newA_self _ _ _ | refine (ax_set_ne _ _ (by omega)).trans ?_ | refine (ax_newA_ne _ _ _ (by omega)).trans ?_
theorem s_X8_append (hT : TextAt h p bs len kd st bh er ea) (hA : Γ.2.1 ≤ p) (hl : len ≤ 500)
    (k0 : 500 ≤ len → Q (.inl (some (.int (-2)))) h)
    (k1 : len < 500 → ∀ h', ax_fr p (p + 2) h h' → TextAt h' p (upd bs len x) (len + 1) kd st bh er ea → Q (.inl (some (.int (nI (len + 1))))) h') : WP Γ MX8_append (0, 0, 0, 0) 0 [some (.ref p), some (.int x)] [] h Q := by
  have hT0 := hT
  obtain ⟨hO, hB⟩ := hT
  refine wp_aload_n (n := 1) dX8_append_0 rfl rfl ?_
  refine wp_getf (n := 4) dX8_append_1 rfl flX8_15 (by repeat first | assumption | exact ax_set_self _ _ _ | exact ax_newA_self _ _ _ | refine (ax_set_ne _ _ (by omega)).trans ?_ | refine (ax_newA_ne _ _ _ (by omega)).trans ?_) (by rfl) ?_
  refine wp_sipush (n := 7) (v := nI 500) dX8_append_4 rfl (by decide) ?_
  refine wp_icmp_lt (t := 13) (n := 10) dX8_append_7 (by decide) rfl (fun hc => ?_) (fun hc => ?_)
  · rw [nI_lt9 (by omega) (by omega)] at hc
    refine wp_aload_n (n := 14) dX8_append_13 rfl rfl ?_
    refine wp_getf (n := 17) dX8_append_14 rfl flX8_9 (by repeat first | assumption | exact ax_set_self _ _ _ | exact ax_newA_self _ _ _ | refine (ax_set_ne _ _ (by omega)).trans ?_ | refine (ax_newA_ne _ _ _ (by omega)).trans ?_) (by rfl) ?_
    refine wp_aload_n (n := 18) dX8_append_17 rfl rfl ?_
    refine wp_getf (n := 21) dX8_append_18 rfl flX8_15 (by repeat first | assumption | exact ax_set_self _ _ _ | exact ax_newA_self _ _ _ | refine (ax_set_ne _ _ (by omega)).trans ?_ | refine (ax_newA_ne _ _ _ (by omega)).trans ?_) (by rfl) ?_
    refine wp_iload_n (n := 22) dX8_append_21 rfl rfl ?_
    refine wp_iast (n := 23) _ dX8_append_22 rfl (by repeat first | assumption | exact ax_set_self _ _ _ | exact ax_newA_self _ _ _ | refine (ax_set_ne _ _ (by omega)).trans ?_ | refine (ax_newA_ne _ _ _ (by omega)).trans ?_) (by omega) rfl (by omega) (by decide) ?_
    refine wp_aload_n (n := 24) dX8_append_23 rfl rfl ?_
    refine wp_dup (n := 25) dX8_append_24 rfl rfl ?_
    refine wp_getf (n := 28) dX8_append_25 rfl flX8_15 (by repeat first | assumption | exact ax_set_self _ _ _ | exact ax_newA_self _ _ _ | refine (ax_set_ne _ _ (by omega)).trans ?_ | refine (ax_newA_ne _ _ _ (by omega)).trans ?_) (by rfl) ?_
    refine wp_iconst (n := 29) (v := nI 1) dX8_append_28 rfl (by decide) ?_
    refine wp_iadd (n := 30) dX8_append_29 rfl ?_
    rw [nI_add]
    refine wp_putf (n := 33) dX8_append_30 rfl flX8_15 (by repeat first | assumption | exact ax_set_self _ _ _ | exact ax_newA_self _ _ _ | refine (ax_set_ne _ _ (by omega)).trans ?_ | refine (ax_newA_ne _ _ _ (by omega)).trans ?_) (by omega) (by rfl) rfl rfl ?_
    refine wp_aload_n (n := 34) dX8_append_33 rfl rfl ?_
    refine wp_getf (n := 37) dX8_append_34 rfl flX8_15 (by repeat first | assumption | exact ax_set_self _ _ _ | exact ax_newA_self _ _ _ | refine (ax_set_ne _ _ (by omega)).trans ?_ | refine (ax_newA_ne _ _ _ (by omega)).trans ?_) (by rfl) ?_
    refine wp_ireturn dX8_append_37 rfl rfl (k1 hc _ ((ax_fr.set (lo := p) (hi := p + 2) (by omega)).put (by omega)) ⟨ax_set_self _ _ _, (ax_set_ne _ _ (by omega)).trans (ax_set_self _ _ _)⟩)
  · rw [nI_lt9 (by omega) (by omega)] at hc
    refine wp_bipush (n := 12) (v := (-2)) dX8_append_10 rfl (by decide) ?_
    exact wp_ireturn dX8_append_12 rfl rfl (k0 (by omega))
theorem s_X8_clear (hT : TextAt h p bs len kd st bh er ea) (hA : Γ.2.1 ≤ p)
    (k : ∀ h', ax_fr p (p + 2) h h' → TextAt h' p bs 0 kd st bh er ea → Q (.inl none) h') : WP Γ MX8_clear (0, 0, 0, 0) 0 [some (.ref p)] [] h Q := by
  have hT0 := hT
  obtain ⟨hO, hB⟩ := hT
  refine wp_aload_n (n := 1) dX8_clear_0 rfl rfl ?_
  refine wp_iconst (n := 2) (v := 0) dX8_clear_1 rfl (by decide) ?_
  refine wp_putf (n := 5) dX8_clear_2 rfl flX8_15 (by repeat first | assumption | exact ax_set_self _ _ _ | exact ax_newA_self _ _ _ | refine (ax_set_ne _ _ (by omega)).trans ?_ | refine (ax_newA_ne _ _ _ (by omega)).trans ?_) (by omega) (by rfl) rfl rfl ?_
  exact wp_return dX8_clear_5 rfl (k _ (ax_fr.set (by omega)) (hT0.set 0 kd st bh er ea))
theorem s_X8_rewind (hT : TextAt h p bs len kd st bh er ea) (hA : Γ.2.1 ≤ p)
    (k : ∀ h', ax_fr p (p + 2) h h' → TextAt h' p bs len kd 0 0 0 0 → Q (.inl none) h') : WP Γ MX8_rewind (0, 0, 0, 0) 0 [some (.ref p)] [] h Q := by
  have hT0 := hT
  obtain ⟨hO, hB⟩ := hT
  refine wp_aload_n (n := 1) dX8_rewind_0 rfl rfl ?_
  refine wp_iconst (n := 2) (v := 0) dX8_rewind_1 rfl (by decide) ?_
  refine wp_putf (n := 5) dX8_rewind_2 rfl flX8_22 (by repeat first | assumption | exact ax_set_self _ _ _ | exact ax_newA_self _ _ _ | refine (ax_set_ne _ _ (by omega)).trans ?_ | refine (ax_newA_ne _ _ _ (by omega)).trans ?_) (by omega) (by rfl) rfl rfl ?_
  refine wp_aload_n (n := 6) dX8_rewind_5 rfl rfl ?_
  refine wp_iconst (n := 7) (v := 0) dX8_rewind_6 rfl (by decide) ?_
  refine wp_putf (n := 10) dX8_rewind_7 rfl flX8_25 (by repeat first | assumption | exact ax_set_self _ _ _ | exact ax_newA_self _ _ _ | refine (ax_set_ne _ _ (by omega)).trans ?_ | refine (ax_newA_ne _ _ _ (by omega)).trans ?_) (by omega) (by rfl) rfl rfl ?_
  refine wp_aload_n (n := 11) dX8_rewind_10 rfl rfl ?_
  refine wp_iconst (n := 12) (v := 0) dX8_rewind_11 rfl (by decide) ?_
  refine wp_putf (n := 15) dX8_rewind_12 rfl flX8_28 (by repeat first | assumption | exact ax_set_self _ _ _ | exact ax_newA_self _ _ _ | refine (ax_set_ne _ _ (by omega)).trans ?_ | refine (ax_newA_ne _ _ _ (by omega)).trans ?_) (by omega) (by rfl) rfl rfl ?_
  refine wp_aload_n (n := 16) dX8_rewind_15 rfl rfl ?_
  refine wp_iconst (n := 17) (v := 0) dX8_rewind_16 rfl (by decide) ?_
  refine wp_putf (n := 20) dX8_rewind_17 rfl flX8_31 (by repeat first | assumption | exact ax_set_self _ _ _ | exact ax_newA_self _ _ _ | refine (ax_set_ne _ _ (by omega)).trans ?_ | refine (ax_newA_ne _ _ _ (by omega)).trans ?_) (by omega) (by rfl) rfl rfl ?_
  exact wp_return dX8_rewind_20 rfl (k _ ((((ax_fr.set (lo := p) (hi := p + 2) (by omega)).put (by omega)).put (by omega)).put (by omega)) ((((hT0.set len kd 0 bh er ea).set len kd 0 0 er ea).set len kd 0 0 0 ea).set len kd 0 0 0 0))
theorem s_X8_fail (hT : TextAt h p bs len kd st bh er ea) (hA : Γ.2.1 ≤ p)
    (k : ∀ h', ax_fr p (p + 2) h h' → TextAt h' p bs len kd st bh x (nI st) → Q (.inl (some (.int 0))) h') : WP Γ MX8_fail (0, 0, 0, 0) 0 [some (.ref p), some (.int x)] [] h Q := by
  have hT0 := hT
  obtain ⟨hO, hB⟩ := hT
  refine wp_aload_n (n := 1) dX8_fail_0 rfl rfl ?_
  refine wp_iload_n (n := 2) dX8_fail_1 rfl rfl ?_
  refine wp_putf (n := 5) dX8_fail_2 rfl flX8_28 (by repeat first | assumption | exact ax_set_self _ _ _ | exact ax_newA_self _ _ _ | refine (ax_set_ne _ _ (by omega)).trans ?_ | refine (ax_newA_ne _ _ _ (by omega)).trans ?_) (by omega) (by rfl) rfl rfl ?_
  refine wp_aload_n (n := 6) dX8_fail_5 rfl rfl ?_
  refine wp_aload_n (n := 7) dX8_fail_6 rfl rfl ?_
  refine wp_getf (n := 10) dX8_fail_7 rfl flX8_22 (by repeat first | assumption | exact ax_set_self _ _ _ | exact ax_newA_self _ _ _ | refine (ax_set_ne _ _ (by omega)).trans ?_ | refine (ax_newA_ne _ _ _ (by omega)).trans ?_) (by rfl) ?_
  refine wp_putf (n := 13) dX8_fail_10 rfl flX8_31 (by repeat first | assumption | exact ax_set_self _ _ _ | exact ax_newA_self _ _ _ | refine (ax_set_ne _ _ (by omega)).trans ?_ | refine (ax_newA_ne _ _ _ (by omega)).trans ?_) (by omega) (by rfl) rfl rfl ?_
  refine wp_iconst (n := 14) (v := 0) dX8_fail_13 rfl (by decide) ?_
  exact wp_ireturn dX8_fail_14 rfl rfl (k _ ((ax_fr.set (lo := p) (hi := p + 2) (by omega)).put (by omega)) ((hT0.set len kd st bh x ea).set len kd st bh x (nI st)))
theorem s_X8_wordLength (hT : TextAt h p bs len kd st bh er ea) (hs : st ≤ bh)
    (k : Q (.inl (some (.int (nI (bh - st))))) h) : WP Γ MX8_wordLength (0, 0, 0, 0) 0 [some (.ref p)] [] h Q := by
  obtain ⟨hO, hB⟩ := hT
  refine wp_aload_n (n := 1) dX8_wordLength_0 rfl rfl ?_
  refine wp_getf (n := 4) dX8_wordLength_1 rfl flX8_25 (by repeat first | assumption | exact ax_set_self _ _ _ | exact ax_newA_self _ _ _ | refine (ax_set_ne _ _ (by omega)).trans ?_ | refine (ax_newA_ne _ _ _ (by omega)).trans ?_) (by rfl) ?_
  refine wp_aload_n (n := 5) dX8_wordLength_4 rfl rfl ?_
  refine wp_getf (n := 8) dX8_wordLength_5 rfl flX8_22 (by repeat first | assumption | exact ax_set_self _ _ _ | exact ax_newA_self _ _ _ | refine (ax_set_ne _ _ (by omega)).trans ?_ | refine (ax_newA_ne _ _ _ (by omega)).trans ?_) (by rfl) ?_
  refine wp_isub (n := 9) dX8_wordLength_8 rfl ?_
  rw [nI_sub hs]
  exact wp_ireturn dX8_wordLength_9 rfl rfl (k)
theorem s_X8_next (hT : TextAt h p bs len kd st bh er ea) (hA : Γ.2.1 ≤ p) (hl : len ≤ 500) (hb : bh ≤ len)
    (k : ∀ h', ax_fr p (p + 2) h h' → TextAt h' p bs len (nI (tK bs len bh)) (tS bs len bh) (tB bs len bh) er ea → Q (.inl none) h') : WP Γ MX8_next (0, 0, 0, 0) 0 [some (.ref p)] [] h Q := by
  obtain ⟨ls1, ls2⟩ := tS_le (bs := bs) hb
  obtain ⟨la1, la2⟩ := tA_le (bs := bs) ls2
  obtain ⟨ld1, ld2⟩ := tD_le (bs := bs) ls2
  -- behind the two runs
  have E : ∀ h1, ax_fr p (p + 2) h h1 → TextAt h1 p bs len kd (tS bs len bh) (tD bs len (tS bs len bh)) er ea → ¬ tS bs len bh < tA bs len (tS bs len bh) → WP Γ MX8_next (0, 0, 0, 0) 175 [some (.ref p)] [] h1 Q := by
    intro h1 hF1 hT1 hna
    have hT0 := hT1
    obtain ⟨hO, hB⟩ := hT1
    refine wp_aload_n (n := 176) dX8_next_175 rfl rfl ?_
    refine wp_getf (n := 179) dX8_next_176 rfl flX8_25 (by repeat first | assumption | exact ax_set_self _ _ _ | exact ax_newA_self _ _ _ | refine (ax_set_ne _ _ (by omega)).trans ?_ | refine (ax_newA_ne _ _ _ (by omega)).trans ?_) (by rfl) ?_
    refine wp_aload_n (n := 180) dX8_next_179 rfl rfl ?_
    refine wp_getf (n := 183) dX8_next_180 rfl flX8_22 (by repeat first | assumption | exact ax_set_self _ _ _ | exact ax_newA_self _ _ _ | refine (ax_set_ne _ _ (by omega)).trans ?_ | refine (ax_newA_ne _ _ _ (by omega)).trans ?_) (by rfl) ?_
    refine wp_icmp_le (t := 192) (n := 186) dX8_next_183 (by decide) rfl (fun hc => ?_) (fun hc => ?_)
    · rw [nI_le9 (by omega) (by omega)] at hc
      have hnd : ¬ tS bs len bh < tD bs len (tS bs len bh) := by omega
      have hde : tD bs len (tS bs len bh) = tS bs len bh := by omega
      rw [hde] at hT0 hO
      unfold tK tB at k
      rw [if_neg hna, if_neg hnd, if_neg hna, if_neg hnd] at k
      refine wp_aload_n (n := 193) dX8_next_192 rfl rfl ?_
      refine wp_getf (n := 196) dX8_next_193 rfl flX8_22 (by repeat first | assumption | exact ax_set_self _ _ _ | exact ax_newA_self _ _ _ | refine (ax_set_ne _ _ (by omega)).trans ?_ | refine (ax_newA_ne _ _ _ (by omega)).trans ?_) (by rfl) ?_
      refine wp_aload_n (n := 197) dX8_next_196 rfl rfl ?_
      refine wp_getf (n := 200) dX8_next_197 rfl flX8_15 (by repeat first | assumption | exact ax_set_self _ _ _ | exact ax_newA_self _ _ _ | refine (ax_set_ne _ _ (by omega)).trans ?_ | refine (ax_newA_ne _ _ _ (by omega)).trans ?_) (by rfl) ?_
      refine wp_icmp_lt (t := 209) (n := 203) dX8_next_200 (by decide) rfl (fun hq => ?_) (fun hq => ?_)
      · rw [nI_lt9 (by omega) (by omega)] at hq
        simp only [if_neg (show ¬ len ≤ tS bs len bh by omega)] at k
        have J : ∀ v, v = nI (if bs (tS bs len bh) = nI 59 then 3 else 4) → WP Γ MX8_next (0, 0, 0, 0) 229 [some (.ref p)] [.int v, .ref p] h1 Q := by
          intro v hv
          subst hv
          refine wp_putf (n := 232) dX8_next_229 rfl flX8_19 (by repeat first | assumption | exact ax_set_self _ _ _ | exact ax_newA_self _ _ _ | refine (ax_set_ne _ _ (by omega)).trans ?_ | refine (ax_newA_ne _ _ _ (by omega)).trans ?_) (by omega) (by rfl) rfl rfl ?_
          refine wp_aload_n (n := 233) dX8_next_232 rfl rfl ?_
          refine wp_dup (n := 234) dX8_next_233 rfl rfl ?_
          refine wp_getf (n := 237) dX8_next_234 rfl flX8_25 (by repeat first | assumption | exact ax_set_self _ _ _ | exact ax_newA_self _ _ _ | refine (ax_set_ne _ _ (by omega)).trans ?_ | refine (ax_newA_ne _ _ _ (by omega)).trans ?_) (by rfl) ?_
          refine wp_iconst (n := 238) (v := nI 1) dX8_next_237 rfl (by decide) ?_
          refine wp_iadd (n := 239) dX8_next_238 rfl ?_
          rw [nI_add]
          refine wp_putf (n := 242) dX8_next_239 rfl flX8_25 (by repeat first | assumption | exact ax_set_self _ _ _ | exact ax_newA_self _ _ _ | refine (ax_set_ne _ _ (by omega)).trans ?_ | refine (ax_newA_ne _ _ _ (by omega)).trans ?_) (by omega) (by rfl) rfl rfl ?_
          exact wp_return dX8_next_242 rfl (k _ ((hF1.put (by omega)).put (by omega)) ((hT0.set len _ (tS bs len bh) (tS bs len bh) er ea).set len _ (tS bs len bh) (tS bs len bh + 1) er ea))
        refine wp_aload_n (n := 210) dX8_next_209 rfl rfl ?_
        refine wp_aload_n (n := 211) dX8_next_210 rfl rfl ?_
        refine wp_getf (n := 214) dX8_next_211 rfl flX8_9 (by repeat first | assumption | exact ax_set_self _ _ _ | exact ax_newA_self _ _ _ | refine (ax_set_ne _ _ (by omega)).trans ?_ | refine (ax_newA_ne _ _ _ (by omega)).trans ?_) (by rfl) ?_
        refine wp_aload_n (n := 215) dX8_next_214 rfl rfl ?_
        refine wp_getf (n := 218) dX8_next_215 rfl flX8_22 (by repeat first | assumption | exact ax_set_self _ _ _ | exact ax_newA_self _ _ _ | refine (ax_set_ne _ _ (by omega)).trans ?_ | refine (ax_newA_ne _ _ _ (by omega)).trans ?_) (by rfl) ?_
        refine wp_iald (n := 219) _ dX8_next_218 rfl (by repeat first | assumption | exact ax_set_self _ _ _ | exact ax_newA_self _ _ _ | refine (ax_set_ne _ _ (by omega)).trans ?_ | refine (ax_newA_ne _ _ _ (by omega)).trans ?_) rfl (by omega) (by decide) ?_
        refine wp_bipush (n := 221) (v := nI 59) dX8_next_219 rfl (by decide) ?_
        refine wp_icmp_ne (t := 228) (n := 224) dX8_next_221 (by decide) rfl (fun hr => ?_) (fun hr => ?_)
        · refine wp_iconst (n := 229) (v := nI 4) dX8_next_228 rfl (by decide) ?_
          exact J _ (by rw [if_neg hr])
        · refine wp_iconst (n := 225) (v := nI 3) dX8_next_224 rfl (by decide) ?_
          refine wp_goto (t := 229) dX8_next_225 (by decide) ?_
          exact J _ (by rw [if_pos hr])
      · rw [nI_lt9 (by omega) (by omega)] at hq
        rw [if_pos (by omega), if_pos (by omega)] at k
        refine wp_aload_n (n := 204) dX8_next_203 rfl rfl ?_
        refine wp_iconst (n := 205) (v := 0) dX8_next_204 rfl (by decide) ?_
        refine wp_putf (n := 208) dX8_next_205 rfl flX8_19 (by repeat first | assumption | exact ax_set_self _ _ _ | exact ax_newA_self _ _ _ | refine (ax_set_ne _ _ (by omega)).trans ?_ | refine (ax_newA_ne _ _ _ (by omega)).trans ?_) (by omega) (by rfl) rfl rfl ?_
        exact wp_return dX8_next_208 rfl (k _ (hF1.put (by omega)) (hT0.set len _ (tS bs len bh) (tS bs len bh) er ea))
    · rw [nI_le9 (by omega) (by omega)] at hc
      unfold tK tB at k
      rw [if_neg hna, if_pos (by omega), if_neg hna, if_pos (by omega)] at k
      refine wp_aload_n (n := 187) dX8_next_186 rfl rfl ?_
      refine wp_iconst (n := 188) (v := nI 2) dX8_next_187 rfl (by decide) ?_
      refine wp_putf (n := 191) dX8_next_188 rfl flX8_19 (by repeat first | assumption | exact ax_set_self _ _ _ | exact ax_newA_self _ _ _ | refine (ax_set_ne _ _ (by omega)).trans ?_ | refine (ax_newA_ne _ _ _ (by omega)).trans ?_) (by omega) (by rfl) rfl rfl ?_
      exact wp_return dX8_next_191 rfl (k _ (hF1.put (by omega)) (hT0.set len _ (tS bs len bh) (tD bs len (tS bs len bh)) er ea))
  have C : ∀ g i h1, i + g = len → ax_fr p (p + 2) h h1 → TextAt h1 p bs len kd (tS bs len bh) i er ea → scn isDg bs g i = tD bs len (tS bs len bh) → ¬ tS bs len bh < tA bs len (tS bs len bh) → WP Γ MX8_next (0, 0, 0, 0) 123 [some (.ref p)] [] h1 Q := by
    intro g
    induction g with
    | zero =>
      intro i h1 hi hF1 hT1 hz hna
      have hT0 := hT1
      obtain ⟨hO, hB⟩ := hT1
      refine wp_aload_n (n := 124) dX8_next_123 rfl rfl ?_
      refine wp_getf (n := 127) dX8_next_124 rfl flX8_25 (by repeat first | assumption | exact ax_set_self _ _ _ | exact ax_newA_self _ _ _ | refine (ax_set_ne _ _ (by omega)).trans ?_ | refine (ax_newA_ne _ _ _ (by omega)).trans ?_) (by rfl) ?_
      refine wp_aload_n (n := 128) dX8_next_127 rfl rfl ?_
      refine wp_getf (n := 131) dX8_next_128 rfl flX8_15 (by repeat first | assumption | exact ax_set_self _ _ _ | exact ax_newA_self _ _ _ | refine (ax_set_ne _ _ (by omega)).trans ?_ | refine (ax_newA_ne _ _ _ (by omega)).trans ?_) (by rfl) ?_
      simp only [scn] at hz
      refine wp_icmp_ge (t := 175) (n := 134) dX8_next_131 (by decide) rfl (fun hc => ?_) (fun hc => ?_)
      · exact E h1 hF1 (hz ▸ hT0) hna
      · rw [nI_le9 (by omega) (by omega)] at hc
        exact absurd (by omega) hc
    | succ g ih =>
      intro i h1 hi hF1 hT1 hz hna
      have hT0 := hT1
      obtain ⟨hO, hB⟩ := hT1
      refine wp_aload_n (n := 124) dX8_next_123 rfl rfl ?_
      refine wp_getf (n := 127) dX8_next_124 rfl flX8_25 (by repeat first | assumption | exact ax_set_self _ _ _ | exact ax_newA_self _ _ _ | refine (ax_set_ne _ _ (by omega)).trans ?_ | refine (ax_newA_ne _ _ _ (by omega)).trans ?_) (by rfl) ?_
      refine wp_aload_n (n := 128) dX8_next_127 rfl rfl ?_
      refine wp_getf (n := 131) dX8_next_128 rfl flX8_15 (by repeat first | assumption | exact ax_set_self _ _ _ | exact ax_newA_self _ _ _ | refine (ax_set_ne _ _ (by omega)).trans ?_ | refine (ax_newA_ne _ _ _ (by omega)).trans ?_) (by rfl) ?_
      unfold scn at hz
      refine wp_icmp_ge (t := 175) (n := 134) dX8_next_131 (by decide) rfl (fun hc => ?_) (fun hc => ?_)
      · rw [nI_le9 (by omega) (by omega)] at hc
        exact absurd hc (by omega)
      · refine wp_aload_n (n := 135) dX8_next_134 rfl rfl ?_
        refine wp_getf (n := 138) dX8_next_135 rfl flX8_9 (by repeat first | assumption | exact ax_set_self _ _ _ | exact ax_newA_self _ _ _ | refine (ax_set_ne _ _ (by omega)).trans ?_ | refine (ax_newA_ne _ _ _ (by omega)).trans ?_) (by rfl) ?_
        refine wp_aload_n (n := 139) dX8_next_138 rfl rfl ?_
        refine wp_getf (n := 142) dX8_next_139 rfl flX8_25 (by repeat first | assumption | exact ax_set_self _ _ _ | exact ax_newA_self _ _ _ | refine (ax_set_ne _ _ (by omega)).trans ?_ | refine (ax_newA_ne _ _ _ (by omega)).trans ?_) (by rfl) ?_
        refine wp_iald (n := 143) _ dX8_next_142 rfl (by repeat first | assumption | exact ax_set_self _ _ _ | exact ax_newA_self _ _ _ | refine (ax_set_ne _ _ (by omega)).trans ?_ | refine (ax_newA_ne _ _ _ (by omega)).trans ?_) rfl (by omega) (by decide) ?_
        refine wp_bipush (n := 145) (v := nI 48) dX8_next_143 rfl (by decide) ?_
        refine wp_icmp_lt (t := 175) (n := 148) dX8_next_145 (by decide) rfl (fun hq => ?_) (fun hq => ?_)
        · rw [if_neg (fun q : isDg (bs i) = true => absurd hq (Int32.not_lt.mpr (of_decide_eq_true q).1))] at hz
          exact E h1 hF1 (hz ▸ hT0) hna
        · refine wp_aload_n (n := 149) dX8_next_148 rfl rfl ?_
          refine wp_getf (n := 152) dX8_next_149 rfl flX8_9 (by repeat first | assumption | exact ax_set_self _ _ _ | exact ax_newA_self _ _ _ | refine (ax_set_ne _ _ (by omega)).trans ?_ | refine (ax_newA_ne _ _ _ (by omega)).trans ?_) (by rfl) ?_
          refine wp_aload_n (n := 153) dX8_next_152 rfl rfl ?_
          refine wp_getf (n := 156) dX8_next_153 rfl flX8_25 (by repeat first | assumption | exact ax_set_self _ _ _ | exact ax_newA_self _ _ _ | refine (ax_set_ne _ _ (by omega)).trans ?_ | refine (ax_newA_ne _ _ _ (by omega)).trans ?_) (by rfl) ?_
          refine wp_iald (n := 157) _ dX8_next_156 rfl (by repeat first | assumption | exact ax_set_self _ _ _ | exact ax_newA_self _ _ _ | refine (ax_set_ne _ _ (by omega)).trans ?_ | refine (ax_newA_ne _ _ _ (by omega)).trans ?_) rfl (by omega) (by decide) ?_
          refine wp_bipush (n := 159) (v := nI 57) dX8_next_157 rfl (by decide) ?_
          refine wp_icmp_gt (t := 175) (n := 162) dX8_next_159 (by decide) rfl (fun hr => ?_) (fun hr => ?_)
          · rw [if_neg (fun q : isDg (bs i) = true => absurd hr (Int32.not_lt.mpr (of_decide_eq_true q).2))] at hz
            exact E h1 hF1 (hz ▸ hT0) hna
          · rw [if_pos (show isDg (bs i) = true from decide_eq_true ⟨i32_not_lt hq, i32_not_lt hr⟩)] at hz
            refine wp_aload_n (n := 163) dX8_next_162 rfl rfl ?_
            refine wp_dup (n := 164) dX8_next_163 rfl rfl ?_
            refine wp_getf (n := 167) dX8_next_164 rfl flX8_25 (by repeat first | assumption | exact ax_set_self _ _ _ | exact ax_newA_self _ _ _ | refine (ax_set_ne _ _ (by omega)).trans ?_ | refine (ax_newA_ne _ _ _ (by omega)).trans ?_) (by rfl) ?_
            refine wp_iconst (n := 168) (v := nI 1) dX8_next_167 rfl (by decide) ?_
            refine wp_iadd (n := 169) dX8_next_168 rfl ?_
            rw [nI_add]
            refine wp_putf (n := 172) dX8_next_169 rfl flX8_25 (by repeat first | assumption | exact ax_set_self _ _ _ | exact ax_newA_self _ _ _ | refine (ax_set_ne _ _ (by omega)).trans ?_ | refine (ax_newA_ne _ _ _ (by omega)).trans ?_) (by omega) (by rfl) rfl rfl ?_
            refine wp_goto (t := 123) dX8_next_172 (by decide) ?_
            exact ih (i + 1) _ (by omega) (hF1.put (by omega)) (hT0.set len kd (tS bs len bh) (i + 1) er ea) hz hna
  have D : ∀ h1, ax_fr p (p + 2) h h1 → TextAt h1 p bs len kd (tS bs len bh) (tA bs len (tS bs len bh)) er ea → WP Γ MX8_next (0, 0, 0, 0) 106 [some (.ref p)] [] h1 Q := by
    intro h1 hF1 hT1
    have hT0 := hT1
    obtain ⟨hO, hB⟩ := hT1
    refine wp_aload_n (n := 107) dX8_next_106 rfl rfl ?_
    refine wp_getf (n := 110) dX8_next_107 rfl flX8_25 (by repeat first | assumption | exact ax_set_self _ _ _ | exact ax_newA_self _ _ _ | refine (ax_set_ne _ _ (by omega)).trans ?_ | refine (ax_newA_ne _ _ _ (by omega)).trans ?_) (by rfl) ?_
    refine wp_aload_n (n := 111) dX8_next_110 rfl rfl ?_
    refine wp_getf (n := 114) dX8_next_111 rfl flX8_22 (by repeat first | assumption | exact ax_set_self _ _ _ | exact ax_newA_self _ _ _ | refine (ax_set_ne _ _ (by omega)).trans ?_ | refine (ax_newA_ne _ _ _ (by omega)).trans ?_) (by rfl) ?_
    refine wp_icmp_le (t := 123) (n := 117) dX8_next_114 (by decide) rfl (fun hc => ?_) (fun hc => ?_)
    · rw [nI_le9 (by omega) (by omega)] at hc
      have e : tA bs len (tS bs len bh) = tS bs len bh := by omega
      rw [e] at hT0
      exact C (len - tS bs len bh) _ h1 (by omega) hF1 hT0 rfl (by omega)
    · rw [nI_le9 (by omega) (by omega)] at hc
      unfold tK tB at k
      rw [if_pos (by omega), if_pos (by omega)] at k
      refine wp_aload_n (n := 118) dX8_next_117 rfl rfl ?_
      refine wp_iconst (n := 119) (v := nI 1) dX8_next_118 rfl (by decide) ?_
      refine wp_putf (n := 122) dX8_next_119 rfl flX8_19 (by repeat first | assumption | exact ax_set_self _ _ _ | exact ax_newA_self _ _ _ | refine (ax_set_ne _ _ (by omega)).trans ?_ | refine (ax_newA_ne _ _ _ (by omega)).trans ?_) (by omega) (by rfl) rfl rfl ?_
      exact wp_return dX8_next_122 rfl (k _ (hF1.put (by omega)) (hT0.set len _ (tS bs len bh) (tA bs len (tS bs len bh)) er ea))
  have B : ∀ g i h1, i + g = len → ax_fr p (p + 2) h h1 → TextAt h1 p bs len kd (tS bs len bh) i er ea → scn isAl bs g i = tA bs len (tS bs len bh) → WP Γ MX8_next (0, 0, 0, 0) 54 [some (.ref p)] [] h1 Q := by
    intro g
    induction g with
    | zero =>
      intro i h1 hi hF1 hT1 hz
      have hT0 := hT1
      obtain ⟨hO, hB⟩ := hT1
      refine wp_aload_n (n := 55) dX8_next_54 rfl rfl ?_
      refine wp_getf (n := 58) dX8_next_55 rfl flX8_25 (by repeat first | assumption | exact ax_set_self _ _ _ | exact ax_newA_self _ _ _ | refine (ax_set_ne _ _ (by omega)).trans ?_ | refine (ax_newA_ne _ _ _ (by omega)).trans ?_) (by rfl) ?_
      refine wp_aload_n (n := 59) dX8_next_58 rfl rfl ?_
      refine wp_getf (n := 62) dX8_next_59 rfl flX8_15 (by repeat first | assumption | exact ax_set_self _ _ _ | exact ax_newA_self _ _ _ | refine (ax_set_ne _ _ (by omega)).trans ?_ | refine (ax_newA_ne _ _ _ (by omega)).trans ?_) (by rfl) ?_
      simp only [scn] at hz
      refine wp_icmp_ge (t := 106) (n := 65) dX8_next_62 (by decide) rfl (fun hc => ?_) (fun hc => ?_)
      · exact D h1 hF1 (hz ▸ hT0)
      · rw [nI_le9 (by omega) (by omega)] at hc
        exact absurd (by omega) hc
    | succ g ih =>
      intro i h1 hi hF1 hT1 hz
      have hT0 := hT1
      obtain ⟨hO, hB⟩ := hT1
      refine wp_aload_n (n := 55) dX8_next_54 rfl rfl ?_
      refine wp_getf (n := 58) dX8_next_55 rfl flX8_25 (by repeat first | assumption | exact ax_set_self _ _ _ | exact ax_newA_self _ _ _ | refine (ax_set_ne _ _ (by omega)).trans ?_ | refine (ax_newA_ne _ _ _ (by omega)).trans ?_) (by rfl) ?_
      refine wp_aload_n (n := 59) dX8_next_58 rfl rfl ?_
      refine wp_getf (n := 62) dX8_next_59 rfl flX8_15 (by repeat first | assumption | exact ax_set_self _ _ _ | exact ax_newA_self _ _ _ | refine (ax_set_ne _ _ (by omega)).trans ?_ | refine (ax_newA_ne _ _ _ (by omega)).trans ?_) (by rfl) ?_
      unfold scn at hz
      refine wp_icmp_ge (t := 106) (n := 65) dX8_next_62 (by decide) rfl (fun hc => ?_) (fun hc => ?_)
      · rw [nI_le9 (by omega) (by omega)] at hc
        exact absurd hc (by omega)
      · refine wp_aload_n (n := 66) dX8_next_65 rfl rfl ?_
        refine wp_getf (n := 69) dX8_next_66 rfl flX8_9 (by repeat first | assumption | exact ax_set_self _ _ _ | exact ax_newA_self _ _ _ | refine (ax_set_ne _ _ (by omega)).trans ?_ | refine (ax_newA_ne _ _ _ (by omega)).trans ?_) (by rfl) ?_
        refine wp_aload_n (n := 70) dX8_next_69 rfl rfl ?_
        refine wp_getf (n := 73) dX8_next_70 rfl flX8_25 (by repeat first | assumption | exact ax_set_self _ _ _ | exact ax_newA_self _ _ _ | refine (ax_set_ne _ _ (by omega)).trans ?_ | refine (ax_newA_ne _ _ _ (by omega)).trans ?_) (by rfl) ?_
        refine wp_iald (n := 74) _ dX8_next_73 rfl (by repeat first | assumption | exact ax_set_self _ _ _ | exact ax_newA_self _ _ _ | refine (ax_set_ne _ _ (by omega)).trans ?_ | refine (ax_newA_ne _ _ _ (by omega)).trans ?_) rfl (by omega) (by decide) ?_
        refine wp_bipush (n := 76) (v := nI 97) dX8_next_74 rfl (by decide) ?_
        refine wp_icmp_lt (t := 106) (n := 79) dX8_next_76 (by decide) rfl (fun hq => ?_) (fun hq => ?_)
        · rw [if_neg (fun q : isAl (bs i) = true => absurd hq (Int32.not_lt.mpr (of_decide_eq_true q).1))] at hz
          exact D h1 hF1 (hz ▸ hT0)
        · refine wp_aload_n (n := 80) dX8_next_79 rfl rfl ?_
          refine wp_getf (n := 83) dX8_next_80 rfl flX8_9 (by repeat first | assumption | exact ax_set_self _ _ _ | exact ax_newA_self _ _ _ | refine (ax_set_ne _ _ (by omega)).trans ?_ | refine (ax_newA_ne _ _ _ (by omega)).trans ?_) (by rfl) ?_
          refine wp_aload_n (n := 84) dX8_next_83 rfl rfl ?_
          refine wp_getf (n := 87) dX8_next_84 rfl flX8_25 (by repeat first | assumption | exact ax_set_self _ _ _ | exact ax_newA_self _ _ _ | refine (ax_set_ne _ _ (by omega)).trans ?_ | refine (ax_newA_ne _ _ _ (by omega)).trans ?_) (by rfl) ?_
          refine wp_iald (n := 88) _ dX8_next_87 rfl (by repeat first | assumption | exact ax_set_self _ _ _ | exact ax_newA_self _ _ _ | refine (ax_set_ne _ _ (by omega)).trans ?_ | refine (ax_newA_ne _ _ _ (by omega)).trans ?_) rfl (by omega) (by decide) ?_
          refine wp_bipush (n := 90) (v := nI 122) dX8_next_88 rfl (by decide) ?_
          refine wp_icmp_gt (t := 106) (n := 93) dX8_next_90 (by decide) rfl (fun hr => ?_) (fun hr => ?_)
          · rw [if_neg (fun q : isAl (bs i) = true => absurd hr (Int32.not_lt.mpr (of_decide_eq_true q).2))] at hz
            exact D h1 hF1 (hz ▸ hT0)
          · rw [if_pos (show isAl (bs i) = true from decide_eq_true ⟨i32_not_lt hq, i32_not_lt hr⟩)] at hz
            refine wp_aload_n (n := 94) dX8_next_93 rfl rfl ?_
            refine wp_dup (n := 95) dX8_next_94 rfl rfl ?_
            refine wp_getf (n := 98) dX8_next_95 rfl flX8_25 (by repeat first | assumption | exact ax_set_self _ _ _ | exact ax_newA_self _ _ _ | refine (ax_set_ne _ _ (by omega)).trans ?_ | refine (ax_newA_ne _ _ _ (by omega)).trans ?_) (by rfl) ?_
            refine wp_iconst (n := 99) (v := nI 1) dX8_next_98 rfl (by decide) ?_
            refine wp_iadd (n := 100) dX8_next_99 rfl ?_
            rw [nI_add]
            refine wp_putf (n := 103) dX8_next_100 rfl flX8_25 (by repeat first | assumption | exact ax_set_self _ _ _ | exact ax_newA_self _ _ _ | refine (ax_set_ne _ _ (by omega)).trans ?_ | refine (ax_newA_ne _ _ _ (by omega)).trans ?_) (by omega) (by rfl) rfl rfl ?_
            refine wp_goto (t := 54) dX8_next_103 (by decide) ?_
            exact ih (i + 1) _ (by omega) (hF1.put (by omega)) (hT0.set len kd (tS bs len bh) (i + 1) er ea) hz
  have A : ∀ g i h1, i + g = len → ax_fr p (p + 2) h h1 → TextAt h1 p bs len kd i bh er ea → scn isSp bs g i = tS bs len bh → WP Γ MX8_next (0, 0, 0, 0) 8 [some (.ref p)] [] h1 Q := by
    have X : ∀ h1, ax_fr p (p + 2) h h1 → TextAt h1 p bs len kd (tS bs len bh) bh er ea → WP Γ MX8_next (0, 0, 0, 0) 46 [some (.ref p)] [] h1 Q := by
      intro h1 hF1 hT1
      have hT0 := hT1
      obtain ⟨hO, hB⟩ := hT1
      refine wp_aload_n (n := 47) dX8_next_46 rfl rfl ?_
      refine wp_aload_n (n := 48) dX8_next_47 rfl rfl ?_
      refine wp_getf (n := 51) dX8_next_48 rfl flX8_22 (by repeat first | assumption | exact ax_set_self _ _ _ | exact ax_newA_self _ _ _ | refine (ax_set_ne _ _ (by omega)).trans ?_ | refine (ax_newA_ne _ _ _ (by omega)).trans ?_) (by rfl) ?_
      refine wp_putf (n := 54) dX8_next_51 rfl flX8_25 (by repeat first | assumption | exact ax_set_self _ _ _ | exact ax_newA_self _ _ _ | refine (ax_set_ne _ _ (by omega)).trans ?_ | refine (ax_newA_ne _ _ _ (by omega)).trans ?_) (by omega) (by rfl) rfl rfl ?_
      exact B (len - tS bs len bh) _ _ (by omega) (hF1.put (by omega)) (hT0.set len kd (tS bs len bh) (tS bs len bh) er ea) rfl
    intro g
    induction g with
    | zero =>
      intro i h1 hi hF1 hT1 hz
      have hT0 := hT1
      obtain ⟨hO, hB⟩ := hT1
      refine wp_aload_n (n := 9) dX8_next_8 rfl rfl ?_
      refine wp_getf (n := 12) dX8_next_9 rfl flX8_22 (by repeat first | assumption | exact ax_set_self _ _ _ | exact ax_newA_self _ _ _ | refine (ax_set_ne _ _ (by omega)).trans ?_ | refine (ax_newA_ne _ _ _ (by omega)).trans ?_) (by rfl) ?_
      refine wp_aload_n (n := 13) dX8_next_12 rfl rfl ?_
      refine wp_getf (n := 16) dX8_next_13 rfl flX8_15 (by repeat first | assumption | exact ax_set_self _ _ _ | exact ax_newA_self _ _ _ | refine (ax_set_ne _ _ (by omega)).trans ?_ | refine (ax_newA_ne _ _ _ (by omega)).trans ?_) (by rfl) ?_
      simp only [scn] at hz
      refine wp_icmp_ge (t := 46) (n := 19) dX8_next_16 (by decide) rfl (fun hc => ?_) (fun hc => ?_)
      · exact X h1 hF1 (hz ▸ hT0)
      · rw [nI_le9 (by omega) (by omega)] at hc
        exact absurd (by omega) hc
    | succ g ih =>
      intro i h1 hi hF1 hT1 hz
      have hT0 := hT1
      obtain ⟨hO, hB⟩ := hT1
      refine wp_aload_n (n := 9) dX8_next_8 rfl rfl ?_
      refine wp_getf (n := 12) dX8_next_9 rfl flX8_22 (by repeat first | assumption | exact ax_set_self _ _ _ | exact ax_newA_self _ _ _ | refine (ax_set_ne _ _ (by omega)).trans ?_ | refine (ax_newA_ne _ _ _ (by omega)).trans ?_) (by rfl) ?_
      refine wp_aload_n (n := 13) dX8_next_12 rfl rfl ?_
      refine wp_getf (n := 16) dX8_next_13 rfl flX8_15 (by repeat first | assumption | exact ax_set_self _ _ _ | exact ax_newA_self _ _ _ | refine (ax_set_ne _ _ (by omega)).trans ?_ | refine (ax_newA_ne _ _ _ (by omega)).trans ?_) (by rfl) ?_
      unfold scn at hz
      refine wp_icmp_ge (t := 46) (n := 19) dX8_next_16 (by decide) rfl (fun hc => ?_) (fun hc => ?_)
      · rw [nI_le9 (by omega) (by omega)] at hc
        exact absurd hc (by omega)
      · refine wp_aload_n (n := 20) dX8_next_19 rfl rfl ?_
        refine wp_getf (n := 23) dX8_next_20 rfl flX8_9 (by repeat first | assumption | exact ax_set_self _ _ _ | exact ax_newA_self _ _ _ | refine (ax_set_ne _ _ (by omega)).trans ?_ | refine (ax_newA_ne _ _ _ (by omega)).trans ?_) (by rfl) ?_
        refine wp_aload_n (n := 24) dX8_next_23 rfl rfl ?_
        refine wp_getf (n := 27) dX8_next_24 rfl flX8_22 (by repeat first | assumption | exact ax_set_self _ _ _ | exact ax_newA_self _ _ _ | refine (ax_set_ne _ _ (by omega)).trans ?_ | refine (ax_newA_ne _ _ _ (by omega)).trans ?_) (by rfl) ?_
        refine wp_iald (n := 28) _ dX8_next_27 rfl (by repeat first | assumption | exact ax_set_self _ _ _ | exact ax_newA_self _ _ _ | refine (ax_set_ne _ _ (by omega)).trans ?_ | refine (ax_newA_ne _ _ _ (by omega)).trans ?_) rfl (by omega) (by decide) ?_
        refine wp_bipush (n := 30) (v := nI 32) dX8_next_28 rfl (by decide) ?_
        refine wp_icmp_ne (t := 46) (n := 33) dX8_next_30 (by decide) rfl (fun hq => ?_) (fun hq => ?_)
        · rw [if_neg (fun q : isSp (bs i) = true => hq (of_decide_eq_true q))] at hz
          exact X h1 hF1 (hz ▸ hT0)
        · rw [if_pos (show isSp (bs i) = true from decide_eq_true hq)] at hz
          refine wp_aload_n (n := 34) dX8_next_33 rfl rfl ?_
          refine wp_dup (n := 35) dX8_next_34 rfl rfl ?_
          refine wp_getf (n := 38) dX8_next_35 rfl flX8_22 (by repeat first | assumption | exact ax_set_self _ _ _ | exact ax_newA_self _ _ _ | refine (ax_set_ne _ _ (by omega)).trans ?_ | refine (ax_newA_ne _ _ _ (by omega)).trans ?_) (by rfl) ?_
          refine wp_iconst (n := 39) (v := nI 1) dX8_next_38 rfl (by decide) ?_
          refine wp_iadd (n := 40) dX8_next_39 rfl ?_
          rw [nI_add]
          refine wp_putf (n := 43) dX8_next_40 rfl flX8_22 (by repeat first | assumption | exact ax_set_self _ _ _ | exact ax_newA_self _ _ _ | refine (ax_set_ne _ _ (by omega)).trans ?_ | refine (ax_newA_ne _ _ _ (by omega)).trans ?_) (by omega) (by rfl) rfl rfl ?_
          refine wp_goto (t := 8) dX8_next_43 (by decide) ?_
          exact ih (i + 1) _ (by omega) (hF1.put (by omega)) (hT0.set len kd (i + 1) bh er ea) hz
  have hT0 := hT
  obtain ⟨hO, hB⟩ := hT
  refine wp_aload_n (n := 1) dX8_next_0 rfl rfl ?_
  refine wp_aload_n (n := 2) dX8_next_1 rfl rfl ?_
  refine wp_getf (n := 5) dX8_next_2 rfl flX8_25 (by repeat first | assumption | exact ax_set_self _ _ _ | exact ax_newA_self _ _ _ | refine (ax_set_ne _ _ (by omega)).trans ?_ | refine (ax_newA_ne _ _ _ (by omega)).trans ?_) (by rfl) ?_
  refine wp_putf (n := 8) dX8_next_5 rfl flX8_22 (by repeat first | assumption | exact ax_set_self _ _ _ | exact ax_newA_self _ _ _ | refine (ax_set_ne _ _ (by omega)).trans ?_ | refine (ax_newA_ne _ _ _ (by omega)).trans ?_) (by omega) (by rfl) rfl rfl ?_
  exact A (len - bh) bh _ (by omega) (ax_fr.set (by omega)) (hT0.set len kd bh bh er ea) rfl
theorem s_X8_readWord (hT : TextAt h p bs len kd st bh er ea) (hA : Γ.2.1 ≤ p) (hl : len ≤ 500) (hb : bh ≤ len)
    (k1 : tK bs len bh = 1 → ∀ h', ax_fr p (p + 2) h h' → TextAt h' p bs len (nI 1) (tS bs len bh) (tB bs len bh) er ea → Q (.inl (some (.int (nI 1)))) h')
    (k0 : ¬ tK bs len bh = 1 → ∀ h', ax_fr p (p + 2) h h' → TextAt h' p bs len (nI (tK bs len bh)) (tS bs len bh) (tB bs len bh) (nI 1) (nI (tS bs len bh)) → Q (.inl (some (.int 0))) h') : WP Γ MX8_readWord (1, 21, 0, 0) 0 [some (.ref p)] [] h Q := by
  have hk := tK_le bs len bh
  have hT0 := hT
  obtain ⟨hO, hB⟩ := hT
  refine wp_aload_n (n := 1) dX8_readWord_0 rfl rfl ?_
  refine wp_callV0 (n := 4) (rm' := (0, 0, 0, 0)) rfl dX8_readWord_1 rfl mlX8_34 (by repeat first | assumption | exact ax_set_self _ _ _ | exact ax_newA_self _ _ _ | refine (ax_set_ne _ _ (by omega)).trans ?_ | refine (ax_newA_ne _ _ _ (by omega)).trans ?_) rfl rfl rfl rfl rfl ?_
  refine s_X8_next hT0 hA hl hb (fun h1 hF1 hT1 => ?_)
  show WP Γ _ _ _ _ _ _ _
  have hT0 := hT1
  obtain ⟨hO, hB⟩ := hT1
  refine wp_aload_n (n := 5) dX8_readWord_4 rfl rfl ?_
  refine wp_getf (n := 8) dX8_readWord_5 rfl flX8_19 (by repeat first | assumption | exact ax_set_self _ _ _ | exact ax_newA_self _ _ _ | refine (ax_set_ne _ _ (by omega)).trans ?_ | refine (ax_newA_ne _ _ _ (by omega)).trans ?_) (by rfl) ?_
  refine wp_iconst (n := 9) (v := nI 1) dX8_readWord_8 rfl (by decide) ?_
  refine wp_icmp_eq (t := 20) (n := 12) dX8_readWord_9 (by decide) rfl (fun hc => ?_) (fun hc => ?_)
  · have e : tK bs len bh = 1 := (nI_eq9 (by omega) (by omega)).mp hc
    refine wp_iconst (n := 21) (v := nI 1) dX8_readWord_20 rfl (by decide) ?_
    refine wp_goto (t := 25) dX8_readWord_21 (by decide) ?_
    exact wp_ireturn dX8_readWord_25 rfl rfl (k1 e h1 hF1 (e ▸ hT0))
  · refine wp_aload_n (n := 13) dX8_readWord_12 rfl rfl ?_
    refine wp_iconst (n := 14) (v := nI 1) dX8_readWord_13 rfl (by decide) ?_
    refine wp_callV1 (n := 17) (rm' := (0, 0, 0, 0)) rfl dX8_readWord_14 rfl mlX8_37 (by repeat first | assumption | exact ax_set_self _ _ _ | exact ax_newA_self _ _ _ | refine (ax_set_ne _ _ (by omega)).trans ?_ | refine (ax_newA_ne _ _ _ (by omega)).trans ?_) rfl rfl rfl rfl rfl ?_
    refine s_X8_fail hT0 hA (fun h2 hF2 hT2 => ?_)
    show WP Γ _ _ _ _ _ _ _
    refine wp_if_eq (t := 24) (n := 20) dX8_readWord_17 (by decide) rfl (fun hq => ?_) (fun hq => ?_)
    · refine wp_iconst (n := 25) (v := 0) dX8_readWord_24 rfl (by decide) ?_
      exact wp_ireturn dX8_readWord_25 rfl rfl (k0 (fun q => hc (by rw [q])) h2 (hF1.tr (lo := p) (hi := p + 2) hF2 (by omega) (by omega)) hT2)
    · exact absurd rfl hq
theorem s_X8_readSemicolon (hT : TextAt h p bs len kd st bh er ea) (hA : Γ.2.1 ≤ p) (hl : len ≤ 500) (hb : bh ≤ len)
    (k : ∀ h', ax_fr p (p + 2) h h' → TextAt h' p bs len (nI (tK bs len bh)) (tS bs len bh) (tB bs len bh) er ea → Q (.inl (some (.int (bI (decide (tK bs len bh = 3)))))) h') : WP Γ MX8_readSemicolon (1, 20, 0, 0) 0 [some (.ref p)] [] h Q := by
  have hk := tK_le bs len bh
  have hT0 := hT
  obtain ⟨hO, hB⟩ := hT
  refine wp_aload_n (n := 1) dX8_readSemicolon_0 rfl rfl ?_
  refine wp_callV0 (n := 4) (rm' := (0, 0, 0, 0)) rfl dX8_readSemicolon_1 rfl mlX8_34 (by repeat first | assumption | exact ax_set_self _ _ _ | exact ax_newA_self _ _ _ | refine (ax_set_ne _ _ (by omega)).trans ?_ | refine (ax_newA_ne _ _ _ (by omega)).trans ?_) rfl rfl rfl rfl rfl ?_
  refine s_X8_next hT0 hA hl hb (fun h1 hF1 hT1 => ?_)
  show WP Γ _ _ _ _ _ _ _
  have hT0 := hT1
  obtain ⟨hO, hB⟩ := hT1
  have k := k h1 hF1 hT0
  refine wp_aload_n (n := 5) dX8_readSemicolon_4 rfl rfl ?_
  refine wp_getf (n := 8) dX8_readSemicolon_5 rfl flX8_19 (by repeat first | assumption | exact ax_set_self _ _ _ | exact ax_newA_self _ _ _ | refine (ax_set_ne _ _ (by omega)).trans ?_ | refine (ax_newA_ne _ _ _ (by omega)).trans ?_) (by rfl) ?_
  refine wp_iconst (n := 9) (v := nI 3) dX8_readSemicolon_8 rfl (by decide) ?_
  refine wp_icmp_ne (t := 16) (n := 12) dX8_readSemicolon_9 (by decide) rfl (fun hc => ?_) (fun hc => ?_)
  · rw [decide_eq_false (fun q => hc (by rw [q]))] at k
    refine wp_iconst (n := 17) (v := 0) dX8_readSemicolon_16 rfl (by decide) ?_
    exact wp_ireturn dX8_readSemicolon_17 rfl rfl (k)
  · rw [decide_eq_true ((nI_eq9 (by omega) (by omega)).mp hc)] at k
    refine wp_iconst (n := 13) (v := nI 1) dX8_readSemicolon_12 rfl (by decide) ?_
    refine wp_goto (t := 17) dX8_readSemicolon_13 (by decide) ?_
    exact wp_ireturn dX8_readSemicolon_17 rfl rfl (k)
theorem s_X8_isAtEnd {kn : Nat} (hT : TextAt h p bs len (nI kn) st bh er ea) (hA : Γ.2.1 ≤ p) (hk : kn ≤ 4)
    (k1 : kn = 0 → Q (.inl (some (.int (nI 1)))) h)
    (k0 : ¬ kn = 0 → ∀ h', ax_fr p (p + 2) h h' → TextAt h' p bs len (nI kn) st bh (nI 1) (nI st) → Q (.inl (some (.int 0))) h') : WP Γ MX8_isAtEnd (1, 21, 0, 0) 0 [some (.ref p)] [] h Q := by
  have hT0 := hT
  obtain ⟨hO, hB⟩ := hT
  refine wp_aload_n (n := 1) dX8_isAtEnd_0 rfl rfl ?_
  refine wp_getf (n := 4) dX8_isAtEnd_1 rfl flX8_19 (by repeat first | assumption | exact ax_set_self _ _ _ | exact ax_newA_self _ _ _ | refine (ax_set_ne _ _ (by omega)).trans ?_ | refine (ax_newA_ne _ _ _ (by omega)).trans ?_) (by rfl) ?_
  refine wp_if_eq (t := 15) (n := 7) dX8_isAtEnd_4 (by decide) rfl (fun hc => ?_) (fun hc => ?_)
  · have e : kn = 0 := (nI_eq9 (b := 0) (by omega) (by omega)).mp hc
    refine wp_iconst (n := 16) (v := nI 1) dX8_isAtEnd_15 rfl (by decide) ?_
    refine wp_goto (t := 20) dX8_isAtEnd_16 (by decide) ?_
    exact wp_ireturn dX8_isAtEnd_20 rfl rfl (k1 e)
  · refine wp_aload_n (n := 8) dX8_isAtEnd_7 rfl rfl ?_
    refine wp_iconst (n := 9) (v := nI 1) dX8_isAtEnd_8 rfl (by decide) ?_
    refine wp_callV1 (n := 12) (rm' := (0, 0, 0, 0)) rfl dX8_isAtEnd_9 rfl mlX8_37 (by repeat first | assumption | exact ax_set_self _ _ _ | exact ax_newA_self _ _ _ | refine (ax_set_ne _ _ (by omega)).trans ?_ | refine (ax_newA_ne _ _ _ (by omega)).trans ?_) rfl rfl rfl rfl rfl ?_
    refine s_X8_fail hT0 hA (fun h2 hF2 hT2 => ?_)
    show WP Γ _ _ _ _ _ _ _
    refine wp_if_eq (t := 19) (n := 15) dX8_isAtEnd_12 (by decide) rfl (fun hq => ?_) (fun hq => ?_)
    · refine wp_iconst (n := 20) (v := 0) dX8_isAtEnd_19 rfl (by decide) ?_
      exact wp_ireturn dX8_isAtEnd_20 rfl rfl (k0 (fun q => hc (by rw [q]; rfl)) h2 hF2 hT2)
    · exact absurd rfl hq
/-- the number that is read, at most m -/
def num (bs : FI) (m : Int32) (s : Nat) : Nat → Int32
  | 0 => 0
  | j + 1 => if m < num bs m s j * nI 10 + bs (s + j) - nI 48 then m else num bs m s j * nI 10 + bs (s + j) - nI 48
theorem s_X8_readNumber {lo9 hi9 : Int32} (hT : TextAt h p bs len kd st bh er ea) (hA : Γ.2.1 ≤ p) (hl : len ≤ 500) (hb : bh ≤ len)
    (k0 : ¬ tK bs len bh = 2 → ∀ h', ax_fr p (p + 2) h h' → TextAt h' p bs len (nI (tK bs len bh)) (tS bs len bh) (tB bs len bh) (nI 1) (nI (tS bs len bh)) → Q (.inl (some (.int (-1)))) h')
    (k2 : tK bs len bh = 2 → (num bs (nI 10000) (tS bs len bh) (tB bs len bh - tS bs len bh) < lo9 ∨ hi9 < num bs (nI 10000) (tS bs len bh) (tB bs len bh - tS bs len bh)) → ∀ h', ax_fr p (p + 2) h h' → TextAt h' p bs len (nI 2) (tS bs len bh) (tB bs len bh) (nI 2) (nI (tS bs len bh)) → Q (.inl (some (.int (-1)))) h')
    (k1 : tK bs len bh = 2 → ¬ num bs (nI 10000) (tS bs len bh) (tB bs len bh - tS bs len bh) < lo9 → ¬ hi9 < num bs (nI 10000) (tS bs len bh) (tB bs len bh - tS bs len bh) → ∀ h', ax_fr p (p + 2) h h' → TextAt h' p bs len (nI 2) (tS bs len bh) (tB bs len bh) er ea → Q (.inl (some (.int (num bs (nI 10000) (tS bs len bh) (tB bs len bh - tS bs len bh))))) h') : WP Γ MX8_readNumber (1, 60, 0, 0) 0 [some (.ref p), some (.int lo9), some (.int hi9), none, none] [] h Q := by
  have hk := tK_le bs len bh
  obtain ⟨b1, b2⟩ := tB_le (bs := bs) hb
  have hT0 := hT
  obtain ⟨hO, hB⟩ := hT
  refine wp_aload_n (n := 1) dX8_readNumber_0 rfl rfl ?_
  refine wp_callV0 (n := 4) (rm' := (0, 0, 0, 0)) rfl dX8_readNumber_1 rfl mlX8_34 (by repeat first | assumption | exact ax_set_self _ _ _ | exact ax_newA_self _ _ _ | refine (ax_set_ne _ _ (by omega)).trans ?_ | refine (ax_newA_ne _ _ _ (by omega)).trans ?_) rfl rfl rfl rfl rfl ?_
  refine s_X8_next hT0 hA hl hb (fun h1 hF1 hT1 => ?_)
  show WP Γ _ _ _ _ _ _ _
  have hT0 := hT1
  obtain ⟨hO, hB⟩ := hT1
  refine wp_aload_n (n := 5) dX8_readNumber_4 rfl rfl ?_
  refine wp_getf (n := 8) dX8_readNumber_5 rfl flX8_19 (by repeat first | assumption | exact ax_set_self _ _ _ | exact ax_newA_self _ _ _ | refine (ax_set_ne _ _ (by omega)).trans ?_ | refine (ax_newA_ne _ _ _ (by omega)).trans ?_) (by rfl) ?_
  refine wp_iconst (n := 9) (v := nI 2) dX8_readNumber_8 rfl (by decide) ?_
  refine wp_icmp_eq (t := 20) (n := 12) dX8_readNumber_9 (by decide) rfl (fun hc => ?_) (fun hc => ?_)
  · have e : tK bs len bh = 2 := (nI_eq9 (by omega) (by omega)).mp hc
    rw [e] at hT0
    refine wp_iconst (n := 21) (v := 0) dX8_readNumber_20 rfl (by decide) ?_
    refine wp_istore_n (n := 22) dX8_readNumber_21 rfl rfl rfl rfl ?_
    refine wp_aload_n (n := 23) dX8_readNumber_22 rfl rfl ?_
    refine wp_getf (n := 26) dX8_readNumber_23 rfl flX8_22 (by repeat first | assumption | exact ax_set_self _ _ _ | exact ax_newA_self _ _ _ | refine (ax_set_ne _ _ (by omega)).trans ?_ | refine (ax_newA_ne _ _ _ (by omega)).trans ?_) (by rfl) ?_
    refine wp_istore (n := 28) dX8_readNumber_26 rfl rfl rfl rfl ?_
    suffices L : ∀ j, j ≤ tB bs len bh - tS bs len bh → WP Γ MX8_readNumber (1, 60, 0, 0) 28 [some (.ref p), some (.int lo9), some (.int hi9), some (.int (num bs (nI 10000) (tS bs len bh) j)), some (.int (nI (tS bs len bh + j)))] [] h1 Q from L 0 (Nat.zero_le _)
    refine ax_up (tB bs len bh - tS bs len bh) (fun j hj ih => ?_)
    refine wp_iload (n := 30) dX8_readNumber_28 rfl rfl ?_
    refine wp_aload_n (n := 31) dX8_readNumber_30 rfl rfl ?_
    refine wp_getf (n := 34) dX8_readNumber_31 rfl flX8_25 (by repeat first | assumption | exact ax_set_self _ _ _ | exact ax_newA_self _ _ _ | refine (ax_set_ne _ _ (by omega)).trans ?_ | refine (ax_newA_ne _ _ _ (by omega)).trans ?_) (by rfl) ?_
    refine wp_icmp_ge (t := 65) (n := 37) dX8_readNumber_34 (by decide) rfl (fun hq => ?_) (fun hq => ?_)
    · rw [nI_le9 (by omega) (by omega)] at hq
      obtain rfl : j = tB bs len bh - tS bs len bh := by omega
      have F : (num bs (nI 10000) (tS bs len bh) (tB bs len bh - tS bs len bh) < lo9 ∨ hi9 < num bs (nI 10000) (tS bs len bh) (tB bs len bh - tS bs len bh)) → WP Γ MX8_readNumber (1, 60, 0, 0) 75 [some (.ref p), some (.int lo9), some (.int hi9), some (.int (num bs (nI 10000) (tS bs len bh) (tB bs len bh - tS bs len bh))), some (.int (nI (tS bs len bh + (tB bs len bh - tS bs len bh))))] [] h1 Q := by
        intro hF
        refine wp_aload_n (n := 76) dX8_readNumber_75 rfl rfl ?_
        refine wp_iconst (n := 77) (v := nI 2) dX8_readNumber_76 rfl (by decide) ?_
        refine wp_callV1 (n := 80) (rm' := (0, 0, 0, 0)) rfl dX8_readNumber_77 rfl mlX8_37 (by repeat first | assumption | exact ax_set_self _ _ _ | exact ax_newA_self _ _ _ | refine (ax_set_ne _ _ (by omega)).trans ?_ | refine (ax_newA_ne _ _ _ (by omega)).trans ?_) rfl rfl rfl rfl rfl ?_
        refine s_X8_fail hT0 hA (fun h2 hF2 hT2 => ?_)
        show WP Γ _ _ _ _ _ _ _
        refine wp_pop (n := 81) dX8_readNumber_80 rfl rfl ?_
        refine wp_iconst (n := 82) (v := (-1)) dX8_readNumber_81 rfl (by decide) ?_
        exact wp_ireturn dX8_readNumber_82 rfl rfl (k2 e hF h2 (hF1.tr (lo := p) (hi := p + 2) hF2 (by omega) (by omega)) hT2)
      refine wp_iload_n (n := 66) dX8_readNumber_65 rfl rfl ?_
      refine wp_iload_n (n := 67) dX8_readNumber_66 rfl rfl ?_
      refine wp_icmp_lt (t := 75) (n := 70) dX8_readNumber_67 (by decide) rfl (fun hr => ?_) (fun hr => ?_)
      · exact F (Or.inl hr)
      · refine wp_iload_n (n := 71) dX8_readNumber_70 rfl rfl ?_
        refine wp_iload_n (n := 72) dX8_readNumber_71 rfl rfl ?_
        refine wp_icmp_le (t := 83) (n := 75) dX8_readNumber_72 (by decide) rfl (fun hs => ?_) (fun hs => ?_)
        · refine wp_iload_n (n := 84) dX8_readNumber_83 rfl rfl ?_
          exact wp_ireturn dX8_readNumber_84 rfl rfl (k1 e hr (Int32.not_lt.mpr hs) h1 hF1 hT0)
        · exact F (Or.inr (i32_not_le hs))
    · rw [nI_le9 (by omega) (by omega)] at hq
      refine wp_iload_n (n := 38) dX8_readNumber_37 rfl rfl ?_
      refine wp_bipush (n := 40) (v := nI 10) dX8_readNumber_38 rfl (by decide) ?_
      refine wp_imul (n := 41) dX8_readNumber_40 rfl ?_
      refine wp_aload_n (n := 42) dX8_readNumber_41 rfl rfl ?_
      refine wp_getf (n := 45) dX8_readNumber_42 rfl flX8_9 (by repeat first | assumption | exact ax_set_self _ _ _ | exact ax_newA_self _ _ _ | refine (ax_set_ne _ _ (by omega)).trans ?_ | refine (ax_newA_ne _ _ _ (by omega)).trans ?_) (by rfl) ?_
      refine wp_iload (n := 47) dX8_readNumber_45 rfl rfl ?_
      refine wp_iald (n := 48) (tS bs len bh + j) dX8_readNumber_47 rfl (by repeat first | assumption | exact ax_set_self _ _ _ | exact ax_newA_self _ _ _ | refine (ax_set_ne _ _ (by omega)).trans ?_ | refine (ax_newA_ne _ _ _ (by omega)).trans ?_) (by simp only [nI_zero, nI_mul, nI_add]) (by omega) (by omega) ?_
      refine wp_iadd (n := 49) dX8_readNumber_48 rfl ?_
      refine wp_bipush (n := 51) (v := nI 48) dX8_readNumber_49 rfl (by decide) ?_
      refine wp_isub (n := 52) dX8_readNumber_51 rfl ?_
      refine wp_sipush (n := 55) (v := nI 10000) dX8_readNumber_52 rfl (by decide) ?_
      refine wp_mmin (n := 58) dX8_readNumber_55 rfl mnX8_41 ax_mns ax_mi ax_mnc rfl rfl ?_
      refine wp_istore_n (n := 59) dX8_readNumber_58 rfl rfl rfl rfl ?_
      refine wp_iinc (n := 62) dX8_readNumber_59 rfl rfl (nI_inc _) rfl rfl rfl ?_
      refine wp_goto (t := 28) dX8_readNumber_62 (by decide) ?_
      exact ih (by omega)
  · refine wp_aload_n (n := 13) dX8_readNumber_12 rfl rfl ?_
    refine wp_iconst (n := 14) (v := nI 1) dX8_readNumber_13 rfl (by decide) ?_
    refine wp_callV1 (n := 17) (rm' := (0, 0, 0, 0)) rfl dX8_readNumber_14 rfl mlX8_37 (by repeat first | assumption | exact ax_set_self _ _ _ | exact ax_newA_self _ _ _ | refine (ax_set_ne _ _ (by omega)).trans ?_ | refine (ax_newA_ne _ _ _ (by omega)).trans ?_) rfl rfl rfl rfl rfl ?_
    refine s_X8_fail hT0 hA (fun h2 hF2 hT2 => ?_)
    show WP Γ _ _ _ _ _ _ _
    refine wp_pop (n := 18) dX8_readNumber_17 rfl rfl ?_
    refine wp_iconst (n := 19) (v := (-1)) dX8_readNumber_18 rfl (by decide) ?_
    exact wp_ireturn dX8_readNumber_19 rfl rfl (k0 (fun q => hc (by rw [q])) h2 (hF1.tr (lo := p) (hi := p + 2) hF2 (by omega) (by omega)) hT2)
/-- the word of a constant -/
def wrdB (bs : FI) (s l : Nat) (w : List Int32) : Bool := decide (l = w.length ∧ ∀ j, j < w.length → bs (s + j) = w.getD j 0)
theorem s_X8_isWord {i : Nat} {q : String × Nat × String × List Int32} (hi : ax_strs[i]? = some q) (hw : q.2.2.2.length ≤ 20) (hq9 : ∀ j, j < q.2.2.2.length → ∃ c, q.2.2.2.getD j 0 = nI c ∧ c < 128) (hT : TextAt h p bs len kd st bh er ea) (hs : st ≤ bh) (hl : len ≤ 500) (hb : bh ≤ len)
    (k : Q (.inl (some (.int (bI (wrdB bs st (bh - st) q.2.2.2))))) h) : WP Γ MX8_isWord (4, 85, 0, 0) 0 [some (.ref p), some (.ref (Γ.2.2.2.2.1 i)), none] [] h Q := by
  have hT0 := hT
  obtain ⟨hO, hB⟩ := hT
  refine wp_aload_n (n := 1) dX8_isWord_0 rfl rfl ?_
  refine wp_callV0 (n := 4) (rm' := (0, 0, 0, 0)) rfl dX8_isWord_1 rfl mlX8_47 (by repeat first | assumption | exact ax_set_self _ _ _ | exact ax_newA_self _ _ _ | refine (ax_set_ne _ _ (by omega)).trans ?_ | refine (ax_newA_ne _ _ _ (by omega)).trans ?_) rfl rfl rfl rfl rfl ?_
  refine s_X8_wordLength hT0 hs ?_
  show WP Γ _ _ _ _ _ _ _
  refine wp_aload_n (n := 5) dX8_isWord_4 rfl rfl ?_
  refine wp_callVT (n := 8) (rm' := (1, 20, 0, 0)) hi rfl dX8_isWord_5 rfl mlX8_51 [] rfl rfl rfl rfl rfl (Nat.le_of_ble_eq_true rfl) rfl ?_
  refine s_J0_length hi (by omega) ?_
  show WP Γ _ _ _ _ _ _ _
  refine wp_icmp_eq (t := 13) (n := 11) dX8_isWord_8 (by decide) rfl (fun hc => ?_) (fun hc => ?_)
  · have e : bh - st = q.2.2.2.length := (nI_eq9 (by omega) (by omega)).mp hc
    refine wp_iconst (n := 14) (v := 0) dX8_isWord_13 rfl (by decide) ?_
    refine wp_istore_n (n := 15) dX8_isWord_14 rfl rfl rfl rfl ?_
    suffices L : ∀ j, j ≤ q.2.2.2.length → (∀ i', i' < j → bs (st + i') = q.2.2.2.getD i' 0) → WP Γ MX8_isWord (4, 85, 0, 0) 15 [some (.ref p), some (.ref (Γ.2.2.2.2.1 i)), some (.int (nI j))] [] h Q from L 0 (Nat.zero_le _) (fun _ z => absurd z (Nat.not_lt_zero _))
    refine ax_up q.2.2.2.length (fun j hj ih => ?_)
    intro hp
    refine wp_iload_n (n := 16) dX8_isWord_15 rfl rfl ?_
    refine wp_aload_n (n := 17) dX8_isWord_16 rfl rfl ?_
    refine wp_callVT (n := 20) (rm' := (1, 20, 0, 0)) hi rfl dX8_isWord_17 rfl mlX8_51 [] rfl rfl rfl rfl rfl (Nat.le_of_ble_eq_true rfl) rfl ?_
    refine s_J0_length hi (by omega) ?_
    show WP Γ _ _ _ _ _ _ _
    refine wp_icmp_ge (t := 50) (n := 23) dX8_isWord_20 (by decide) rfl (fun hr => ?_) (fun hr => ?_)
    · rw [nI_le9 (by omega) (by omega)] at hr
      obtain rfl : j = q.2.2.2.length := by omega
      rw [show wrdB bs st (bh - st) q.2.2.2 = true from decide_eq_true ⟨e, hp⟩] at k
      refine wp_iconst (n := 51) (v := nI 1) dX8_isWord_50 rfl (by decide) ?_
      exact wp_ireturn dX8_isWord_51 rfl rfl (k)
    · rw [nI_le9 (by omega) (by omega)] at hr
      obtain ⟨c, hc1, hc2⟩ := hq9 j (by omega)
      refine wp_aload_n (n := 24) dX8_isWord_23 rfl rfl ?_
      refine wp_getf (n := 27) dX8_isWord_24 rfl flX8_9 (by repeat first | assumption | exact ax_set_self _ _ _ | exact ax_newA_self _ _ _ | refine (ax_set_ne _ _ (by omega)).trans ?_ | refine (ax_newA_ne _ _ _ (by omega)).trans ?_) (by rfl) ?_
      refine wp_aload_n (n := 28) dX8_isWord_27 rfl rfl ?_
      refine wp_getf (n := 31) dX8_isWord_28 rfl flX8_22 (by repeat first | assumption | exact ax_set_self _ _ _ | exact ax_newA_self _ _ _ | refine (ax_set_ne _ _ (by omega)).trans ?_ | refine (ax_newA_ne _ _ _ (by omega)).trans ?_) (by rfl) ?_
      refine wp_iload_n (n := 32) dX8_isWord_31 rfl rfl ?_
      refine wp_iadd (n := 33) dX8_isWord_32 rfl ?_
      refine wp_iald (n := 34) (st + j) dX8_isWord_33 rfl (by repeat first | assumption | exact ax_set_self _ _ _ | exact ax_newA_self _ _ _ | refine (ax_set_ne _ _ (by omega)).trans ?_ | refine (ax_newA_ne _ _ _ (by omega)).trans ?_) (by simp only [nI_zero, nI_mul, nI_add]) (by omega) (by omega) ?_
      refine wp_aload_n (n := 35) dX8_isWord_34 rfl rfl ?_
      refine wp_iload_n (n := 36) dX8_isWord_35 rfl rfl ?_
      refine wp_callVT (n := 39) (rm' := (3, 64, 0, 0)) hi rfl dX8_isWord_36 rfl mlX8_55 [.int (nI j)] rfl rfl rfl rfl rfl (Nat.le_of_ble_eq_true rfl) rfl ?_
      refine s_J0_charAt hi (by omega) (by omega) hc1 hc2 ?_
      show WP Γ _ _ _ _ _ _ _
      refine wp_icmp_eq (t := 44) (n := 42) dX8_isWord_39 (by decide) rfl (fun hs9 => ?_) (fun hs9 => ?_)
      · refine wp_iinc (n := 47) dX8_isWord_44 rfl rfl (nI_inc j) rfl rfl rfl ?_
        refine wp_goto (t := 15) dX8_isWord_47 (by decide) ?_
        refine ih (by omega) (fun i' h' => ?_)
        by_cases e9 : i' = j
        · subst e9; rw [hc1]; exact hs9
        · exact hp i' (by omega)
      · rw [show wrdB bs st (bh - st) q.2.2.2 = false from decide_eq_false (fun z => hs9 (by rw [z.2 j (by omega), hc1]))] at k
        refine wp_iconst (n := 43) (v := 0) dX8_isWord_42 rfl (by decide) ?_
        exact wp_ireturn dX8_isWord_43 rfl rfl (k)
  · rw [show wrdB bs st (bh - st) q.2.2.2 = false from decide_eq_false (fun z => hc (by rw [z.1]))] at k
    refine wp_iconst (n := 12) (v := 0) dX8_isWord_11 rfl (by decide) ?_
    exact wp_ireturn dX8_isWord_12 rfl rfl (k)
end
