/-! ===== the reference: text ===== -/

section
variable {Γ : GE} {M : MD} {rm : RM} {pc n : Nat} {lo : List (Option Value)} {st : List Value} {h : AH} {Q : PO}
theorem wp_ldcSW (i : Nat) {idx : Nat} {tx : String} {by_ : List Int32} (hd : decode M.2.1 pc = .ok (.ldc_w idx, 3)) (hn : pc + 3 = n) (hi : ax_strs[i]? = some (M.1.cls, idx, tx, by_)) (k : WP Γ M rm n lo (.ref (Γ.2.2.2.2.1 i) :: st) h Q) : WP Γ M rm pc lo st h Q := by
  subst hn
  refine wp_goC (fun p e R s m args below meth c H locs cells slots Z ls hx hb ho ht hml g1 g2 g3 g4 hR hG _ w => ?_) k
  have hZ := (hG.2.1 i _ hi).1
  intro T hT X
  obtain ⟨t, a1, b1⟩ := w T hT X
  exact ⟨t, X.ldcStringW hx ho (text := tx) (a := Γ.2.2.2.2.1 i) hZ.1 hZ.2 (g := F0 m pc ls st) rfl (by rw [hb]; exact hd) t a1, b1⟩
end
/-- the bytes of the reference are those of the class -/
def BufR (bs B : FI) (len : Nat) : Prop := ∀ i, i < len → ∃ v, v ≤ 255 ∧ bs i = nI v ∧ B i = (nI v).toInt8.toInt32
def hrV (bs : FI) (len b : Nat) : Int32 := if b < len then bs b else -1
theorem scn_pos {P : Int32 → Bool} {bs : FI} {g i : Nat} : i < scn P bs g i ↔ 0 < g ∧ P (bs i) = true := by
  cases g with
  | zero => simp [scn]
  | succ g =>
    unfold scn
    by_cases q : P (bs i) = true
    · rw [if_pos q]
      have := scn_ge P bs g (i + 1)
      exact ⟨fun _ => ⟨by omega, q⟩, fun _ => by omega⟩
    · rw [if_neg q]
      exact ⟨fun z => by omega, fun z => absurd z.2 q⟩
theorem scn_step {P : Int32 → Bool} {bs : FI} {len i : Nat} (h : i < len) (hp : P (bs i) = true) : scn P bs (len - i) i = scn P bs (len - (i + 1)) (i + 1) := by
  rw [show len - i = (len - (i + 1)) + 1 by omega]
  show (if P (bs i) = true then _ else _) = _
  rw [if_pos hp]
theorem scn_stop {P : Int32 → Bool} {bs : FI} {len i : Nat} (h : ¬ (i < len ∧ P (bs i) = true)) : scn P bs (len - i) i = i := by
  have h1 := scn_ge P bs (len - i) i
  have h2 := scn_pos (P := P) (bs := bs) (g := len - i) (i := i)
  by_cases q : i < scn P bs (len - i) i
  · exact absurd ⟨by have := (h2.mp q).1; omega, (h2.mp q).2⟩ h
  · omega
theorem dg_al {c : Int32} (h : isDg c = true) : isAl c = false := by
  obtain ⟨d, hd, e⟩ := isDg_get h
  unfold isAl
  refine decide_eq_false (fun z => ?_)
  rw [e] at z
  have := (nI_le9 (by omega) (by omega)).mp z.1
  omega
theorem tK2_iff {bs : FI} {len b : Nat} : tK bs len b = 2 ↔ (tS bs len b < len ∧ isDg (bs (tS bs len b)) = true) := by
  constructor
  · intro h
    have h1 := (tK2 h).1
    unfold tD at h1
    have := scn_pos.mp h1
    exact ⟨by omega, this.2⟩
  · rintro ⟨h1, h2⟩
    have n1 : ¬ tS bs len b < tA bs len (tS bs len b) := by
      unfold tA
      rw [scn_pos]
      exact fun z => by rw [dg_al h2] at z; exact absurd z.2 (by decide)
    have n2 : tS bs len b < tD bs len (tS bs len b) := by
      unfold tD
      exact scn_pos.mpr ⟨by omega, h2⟩
    unfold tK
    rw [if_neg n1, if_pos n2]
theorem tK1_iff {bs : FI} {len b : Nat} : tK bs len b = 1 ↔ tS bs len b < tA bs len (tS bs len b) := by
  constructor
  · exact fun h => (tK1 h).1
  · intro h; unfold tK; rw [if_pos h]
/-- numbers capped -/
theorem num_cap {bs : FI} {s : Nat} : ∀ {j : Nat}, (∀ i, i < j → isDg (bs (s + i)) = true) → ∃ T, num bs (nI 10000) s j = nI (min T 10000) ∧ num bs (nI 10000000) s j = nI (min T 10000000)
  | 0, _ => ⟨0, rfl, rfl⟩
  | j + 1, h => by
    obtain ⟨T, e1, e2⟩ := num_cap (j := j) (fun i hi => h i (by omega))
    obtain ⟨d, hd, e⟩ := isDg_get (h j (by omega))
    have key : ∀ M, M ≤ 10000000 → num bs (nI M) s j = nI (min T M) → num bs (nI M) s (j + 1) = nI (min (T * 10 + d) M) := by
      intro M hM eM
      have e3 : num bs (nI M) s j * nI 10 + bs (s + j) - nI 48 = nI (min T M * 10 + d) := by
        rw [eM, e, nI_mul, nI_add, nI_sub (by omega)]
        congr 1
        omega
      show (if nI M < num bs (nI M) s j * nI 10 + bs (s + j) - nI 48 then nI M else num bs (nI M) s j * nI 10 + bs (s + j) - nI 48) = _
      rw [e3]
      by_cases q : M < min T M * 10 + d
      · rw [if_pos ((nI_lt9 (by omega) (by omega)).mpr q)]
        congr 1
        omega
      · rw [if_neg (fun z => q ((nI_lt9 (by omega) (by omega)).mp z))]
        congr 1
        omega
    exact ⟨T * 10 + d, key 10000 (by omega) e1, key 10000000 (by omega) e2⟩
theorem num7_step {bs : FI} {s j : Nat} (h : ∀ i, i < j + 1 → isDg (bs (s + i)) = true) : (if nI 10 * num bs (nI 10000000) s j + bs (s + j) - nI 48 < nI 10000000 then nI 10 * num bs (nI 10000000) s j + bs (s + j) - nI 48 else nI 10000000) = num bs (nI 10000000) s (j + 1) := by
  show _ = (if nI 10000000 < num bs (nI 10000000) s j * nI 10 + bs (s + j) - nI 48 then nI 10000000 else num bs (nI 10000000) s j * nI 10 + bs (s + j) - nI 48)
  rw [Int32.mul_comm]
  generalize num bs (nI 10000000) s j * nI 10 + bs (s + j) - nI 48 = u
  rcases i32_tri u (nI 10000000) with q | q | q
  · rw [if_pos q, if_neg (i32_lt_asymm q)]
  · rw [q, if_neg (i32_lt_irrefl _)]
  · rw [if_neg (i32_lt_asymm q), if_pos q]
/-- an error is noted -/
def ModE (h : AH) (m a : Nat) (th tl e : Int32) (pos : Nat) (lr cm : Int32) : Prop := ¬ e = 0 ∧ ∃ at' bg, ModC h m a th tl at' bg e (nI pos) lr cm
/-- reading has come to b -/
def ModG (h : AH) (m a : Nat) (th tl : Int32) (b : Nat) (lr cm : Int32) : Prop := ∃ bg ea, ModC h m a th tl (nI b) bg 0 ea lr cm

section
variable {Γ : GE} {h : AH} {Q : PO} {m a len b s9 e9 : Nat} {bs B : FI} {x z w th bg er ea lr cm : Int32}

theorem s_X10_here (hM : ModC h m a th (nI len) (nI b) bg er ea lr cm) (hU : h.2 (m + 10) = some (.inl (.byte, 500, .inl B))) (hB : BufR bs B len) (hl : len ≤ 500) (hb : b ≤ len)
    (k : Q (.inl (some (.int (hrV bs len b)))) h) : WP Γ MX10_here (0, 0, 0, 0) 0 [some (.ref m)] [] h Q := by
  unfold ModC at hM
  unfold hrV at k
  refine wp_aload_n (n := 1) dX10_here_0 rfl rfl ?_
  refine wp_getf (n := 4) dX10_here_1 rfl flX10_157 (by repeat first | assumption | exact ax_set_self _ _ _ | exact ax_newA_self _ _ _ | refine (ax_set_ne _ _ (by omega)).trans ?_ | refine (ax_newA_ne _ _ _ (by omega)).trans ?_) (by rfl) ?_
  refine wp_aload_n (n := 5) dX10_here_4 rfl rfl ?_
  refine wp_getf (n := 8) dX10_here_5 rfl flX10_154 (by repeat first | assumption | exact ax_set_self _ _ _ | exact ax_newA_self _ _ _ | refine (ax_set_ne _ _ (by omega)).trans ?_ | refine (ax_newA_ne _ _ _ (by omega)).trans ?_) (by rfl) ?_
  refine wp_icmp_ge (t := 27) (n := 11) dX10_here_8 (by decide) rfl (fun hc => ?_) (fun hc => ?_)
  · rw [if_neg (by have := (nI_le9 (by omega) (by omega)).mp hc; omega)] at k
    refine wp_iconst (n := 28) (v := (-1)) dX10_here_27 rfl (by decide) ?_
    exact wp_ireturn dX10_here_28 rfl rfl (k)
  · have hlt : b < len := by
      by_cases q : b < len
      · exact q
      · exact absurd ((nI_le9 (by omega) (by omega)).mpr (by omega)) hc
    obtain ⟨v, v1, v2, v3⟩ := hB b hlt
    rw [if_pos hlt, v2] at k
    refine wp_aload_n (n := 12) dX10_here_11 rfl rfl ?_
    refine wp_getf (n := 15) dX10_here_12 rfl flX10_39 (by repeat first | assumption | exact ax_set_self _ _ _ | exact ax_newA_self _ _ _ | refine (ax_set_ne _ _ (by omega)).trans ?_ | refine (ax_newA_ne _ _ _ (by omega)).trans ?_) (by rfl) ?_
    refine wp_aload_n (n := 16) dX10_here_15 rfl rfl ?_
    refine wp_getf (n := 19) dX10_here_16 rfl flX10_157 (by repeat first | assumption | exact ax_set_self _ _ _ | exact ax_newA_self _ _ _ | refine (ax_set_ne _ _ (by omega)).trans ?_ | refine (ax_newA_ne _ _ _ (by omega)).trans ?_) (by rfl) ?_
    refine wp_bald (n := 20) (b) dX10_here_19 rfl (by repeat first | assumption | exact ax_set_self _ _ _ | exact ax_newA_self _ _ _ | refine (ax_set_ne _ _ (by omega)).trans ?_ | refine (ax_newA_ne _ _ _ (by omega)).trans ?_) (by simp only [nI_zero, nI_mul, nI_add]) (by omega) (by omega) ?_
    refine wp_sipush (n := 23) (v := nI 255) dX10_here_20 rfl (by decide) ?_
    rw [v3]
    refine wp_iand (n := 24) dX10_here_23 rfl ?_
    rw [byt_255 v (by omega)]
    refine wp_goto (t := 28) dX10_here_24 (by decide) ?_
    exact wp_ireturn dX10_here_28 rfl rfl (k)
theorem s_X10_next (hA : Γ.2.1 ≤ m) (hM : ModC h m a th (nI len) (nI b) bg er ea lr cm) (hU : h.2 (m + 10) = some (.inl (.byte, 500, .inl B))) (hB : BufR bs B len) (hl : len ≤ 500) (hb : b ≤ len)
    (k : ∀ h', ax_fr m (m + 1) h h' → ModC h' m a th (nI len) (nI (tS bs len b)) (nI (tS bs len b)) er ea lr cm → Q (.inl (some (.int (hrV bs len (tS bs len b))))) h') : WP Γ MX10_next (1, 20, 0, 0) 0 [some (.ref m)] [] h Q := by
  have L : ∀ g b1, b1 + g = len → tS bs len b = scn isSp bs (len - b1) b1 → ∀ h1, ax_fr m (m + 1) h h1 → ModC h1 m a th (nI len) (nI b1) bg er ea lr cm → WP Γ MX10_next (1, 20, 0, 0) 0 [some (.ref m)] [] h1 Q := by
    intro g
    induction g with
    | zero =>
      intro b1 hg he h1 f1 m1
      have m1' := m1
      unfold ModC at m1'
      have hU1 := f1.get hU (by omega)
      have e1 : tS bs len b = b1 := by rw [he, show len - b1 = 0 by omega]; rfl
      rw [e1] at k
      have eh : hrV bs len b1 = -1 := if_neg (by omega)
      refine wp_aload_n (n := 1) dX10_next_0 rfl rfl ?_
      refine wp_callV0 (n := 4) (rm' := (0, 0, 0, 0)) rfl dX10_next_1 rfl mlX10_160 (by repeat first | assumption | exact ax_set_self _ _ _ | exact ax_newA_self _ _ _ | refine (ax_set_ne _ _ (by omega)).trans ?_ | refine (ax_newA_ne _ _ _ (by omega)).trans ?_) rfl rfl rfl rfl rfl ?_
      refine s_X10_here m1 hU1 hB hl (by omega) ?_
      show WP Γ _ _ _ _ _ _ _
      rw [eh]
      refine wp_bipush (n := 6) (v := nI 32) dX10_next_4 rfl (by decide) ?_
      refine wp_icmp_ne (t := 22) (n := 9) dX10_next_6 (by decide) rfl (fun hc => ?_) (fun hc => ?_)
      · refine wp_aload_n (n := 23) dX10_next_22 rfl rfl ?_
        refine wp_aload_n (n := 24) dX10_next_23 rfl rfl ?_
        refine wp_getf (n := 27) dX10_next_24 rfl flX10_157 (by repeat first | assumption | exact ax_set_self _ _ _ | exact ax_newA_self _ _ _ | refine (ax_set_ne _ _ (by omega)).trans ?_ | refine (ax_newA_ne _ _ _ (by omega)).trans ?_) (by rfl) ?_
        refine wp_putf (n := 30) dX10_next_27 rfl flX10_164 (by repeat first | assumption | exact ax_set_self _ _ _ | exact ax_newA_self _ _ _ | refine (ax_set_ne _ _ (by omega)).trans ?_ | refine (ax_newA_ne _ _ _ (by omega)).trans ?_) (by omega) (by rfl) rfl rfl ?_
        refine wp_aload_n (n := 31) dX10_next_30 rfl rfl ?_
        refine wp_callV0 (n := 34) (rm' := (0, 0, 0, 0)) rfl dX10_next_31 rfl mlX10_160 (by repeat first | assumption | exact ax_set_self _ _ _ | exact ax_newA_self _ _ _ | refine (ax_set_ne _ _ (by omega)).trans ?_ | refine (ax_newA_ne _ _ _ (by omega)).trans ?_) rfl rfl rfl rfl rfl ?_
        refine s_X10_here (ax_set_self _ _ _) ((ax_set_ne _ _ (by omega)).trans hU1) hB hl (by omega) ?_
        show WP Γ _ _ _ _ _ _ _
        exact wp_ireturn dX10_next_34 rfl rfl (k _ (f1.put (by omega)) (ax_set_self _ _ _))
      · exact absurd hc (by decide)
    | succ g ih =>
      intro b1 hg he h1 f1 m1
      have m1' := m1
      unfold ModC at m1'
      have hU1 := f1.get hU (by omega)
      have eh : hrV bs len b1 = bs b1 := if_pos (by omega)
      refine wp_aload_n (n := 1) dX10_next_0 rfl rfl ?_
      refine wp_callV0 (n := 4) (rm' := (0, 0, 0, 0)) rfl dX10_next_1 rfl mlX10_160 (by repeat first | assumption | exact ax_set_self _ _ _ | exact ax_newA_self _ _ _ | refine (ax_set_ne _ _ (by omega)).trans ?_ | refine (ax_newA_ne _ _ _ (by omega)).trans ?_) rfl rfl rfl rfl rfl ?_
      refine s_X10_here m1 hU1 hB hl (by omega) ?_
      show WP Γ _ _ _ _ _ _ _
      rw [eh]
      refine wp_bipush (n := 6) (v := nI 32) dX10_next_4 rfl (by decide) ?_
      refine wp_icmp_ne (t := 22) (n := 9) dX10_next_6 (by decide) rfl (fun hc => ?_) (fun hc => ?_)
      · have e1 : tS bs len b = b1 := he.trans (scn_stop (fun z => hc (of_decide_eq_true z.2)))
        rw [e1] at k
        refine wp_aload_n (n := 23) dX10_next_22 rfl rfl ?_
        refine wp_aload_n (n := 24) dX10_next_23 rfl rfl ?_
        refine wp_getf (n := 27) dX10_next_24 rfl flX10_157 (by repeat first | assumption | exact ax_set_self _ _ _ | exact ax_newA_self _ _ _ | refine (ax_set_ne _ _ (by omega)).trans ?_ | refine (ax_newA_ne _ _ _ (by omega)).trans ?_) (by rfl) ?_
        refine wp_putf (n := 30) dX10_next_27 rfl flX10_164 (by repeat first | assumption | exact ax_set_self _ _ _ | exact ax_newA_self _ _ _ | refine (ax_set_ne _ _ (by omega)).trans ?_ | refine (ax_newA_ne _ _ _ (by omega)).trans ?_) (by omega) (by rfl) rfl rfl ?_
        refine wp_aload_n (n := 31) dX10_next_30 rfl rfl ?_
        refine wp_callV0 (n := 34) (rm' := (0, 0, 0, 0)) rfl dX10_next_31 rfl mlX10_160 (by repeat first | assumption | exact ax_set_self _ _ _ | exact ax_newA_self _ _ _ | refine (ax_set_ne _ _ (by omega)).trans ?_ | refine (ax_newA_ne _ _ _ (by omega)).trans ?_) rfl rfl rfl rfl rfl ?_
        refine s_X10_here (ax_set_self _ _ _) ((ax_set_ne _ _ (by omega)).trans hU1) hB hl (by omega) ?_
        show WP Γ _ _ _ _ _ _ _
        exact wp_ireturn dX10_next_34 rfl rfl (k _ (f1.put (by omega)) (ax_set_self _ _ _))
      · refine wp_aload_n (n := 10) dX10_next_9 rfl rfl ?_
        refine wp_dup (n := 11) dX10_next_10 rfl rfl ?_
        refine wp_getf (n := 14) dX10_next_11 rfl flX10_157 (by repeat first | assumption | exact ax_set_self _ _ _ | exact ax_newA_self _ _ _ | refine (ax_set_ne _ _ (by omega)).trans ?_ | refine (ax_newA_ne _ _ _ (by omega)).trans ?_) (by rfl) ?_
        refine wp_iconst (n := 15) (v := nI 1) dX10_next_14 rfl (by decide) ?_
        refine wp_iadd (n := 16) dX10_next_15 rfl ?_
        rw [nI_add]
        refine wp_putf (n := 19) dX10_next_16 rfl flX10_157 (by repeat first | assumption | exact ax_set_self _ _ _ | exact ax_newA_self _ _ _ | refine (ax_set_ne _ _ (by omega)).trans ?_ | refine (ax_newA_ne _ _ _ (by omega)).trans ?_) (by omega) (by rfl) rfl rfl ?_
        refine wp_goto (t := 0) dX10_next_19 (by decide) ?_
        exact ih (b1 + 1) (by omega) (he.trans (scn_step (by omega) (decide_eq_true hc))) _ (f1.put (by omega)) (ax_set_self _ _ _)
  exact L (len - b) b (by omega) rfl h ax_fr.rf hM
theorem s_X10_fails0 {tl at' : Int32} (hM : ModC h m a th tl at' bg 0 ea lr cm) (hA : Γ.2.1 ≤ m)
    (k : ∀ h', ax_fr m (m + 1) h h' → ModC h' m a th tl at' bg x z lr cm → Q (.inl none) h') : WP Γ MX10_fails (0, 0, 0, 0) 0 [some (.ref m), some (.int x), some (.int z)] [] h Q := by
  unfold ModC at hM
  refine wp_aload_n (n := 1) dX10_fails_0 rfl rfl ?_
  refine wp_getf (n := 4) dX10_fails_1 rfl flX10_167 (by repeat first | assumption | exact ax_set_self _ _ _ | exact ax_newA_self _ _ _ | refine (ax_set_ne _ _ (by omega)).trans ?_ | refine (ax_newA_ne _ _ _ (by omega)).trans ?_) (by rfl) ?_
  refine wp_if_ne (t := 17) (n := 7) dX10_fails_4 (by decide) rfl (fun hc => ?_) (fun hc => ?_)
  · exact absurd rfl hc
  · refine wp_aload_n (n := 8) dX10_fails_7 rfl rfl ?_
    refine wp_iload_n (n := 9) dX10_fails_8 rfl rfl ?_
    refine wp_putf (n := 12) dX10_fails_9 rfl flX10_167 (by repeat first | assumption | exact ax_set_self _ _ _ | exact ax_newA_self _ _ _ | refine (ax_set_ne _ _ (by omega)).trans ?_ | refine (ax_newA_ne _ _ _ (by omega)).trans ?_) (by omega) (by rfl) rfl rfl ?_
    refine wp_aload_n (n := 13) dX10_fails_12 rfl rfl ?_
    refine wp_iload_n (n := 14) dX10_fails_13 rfl rfl ?_
    refine wp_putf (n := 17) dX10_fails_14 rfl flX10_170 (by repeat first | assumption | exact ax_set_self _ _ _ | exact ax_newA_self _ _ _ | refine (ax_set_ne _ _ (by omega)).trans ?_ | refine (ax_newA_ne _ _ _ (by omega)).trans ?_) (by omega) (by rfl) rfl rfl ?_
    exact wp_return dX10_fails_17 rfl (k _ ((ax_fr.set (lo := m) (hi := m + 1) (by omega)).put (by omega)) (ax_set_self _ _ _))
theorem s_X10_failsE {tl at' : Int32} (hM : ModC h m a th tl at' bg er ea lr cm) (he : ¬ er = 0)
    (k : Q (.inl none) h) : WP Γ MX10_fails (0, 0, 0, 0) 0 [some (.ref m), some (.int x), some (.int z)] [] h Q := by
  unfold ModC at hM
  refine wp_aload_n (n := 1) dX10_fails_0 rfl rfl ?_
  refine wp_getf (n := 4) dX10_fails_1 rfl flX10_167 (by repeat first | assumption | exact ax_set_self _ _ _ | exact ax_newA_self _ _ _ | refine (ax_set_ne _ _ (by omega)).trans ?_ | refine (ax_newA_ne _ _ _ (by omega)).trans ?_) (by rfl) ?_
  refine wp_if_ne (t := 17) (n := 7) dX10_fails_4 (by decide) rfl (fun hc => ?_) (fun hc => ?_)
  · exact wp_return dX10_fails_17 rfl (k)
  · exact absurd hc he
theorem s_X10_reads (hA : Γ.2.1 ≤ m) (hM : ModC h m a th (nI len) (nI b) bg er ea lr cm) (hU : h.2 (m + 10) = some (.inl (.byte, 500, .inl B))) (hB : BufR bs B len) (hl : len ≤ 500) (hb : b ≤ len)
    (k : ∀ h', ax_fr m (m + 1) h h' → ModC h' m a th (nI len) (nI (tA bs len (tS bs len b))) (nI (tS bs len b)) er ea lr cm → Q (.inl none) h') : WP Γ MX10_reads (2, 40, 0, 0) 0 [some (.ref m)] [] h Q := by
  have hM0 := hM
  unfold ModC at hM
  obtain ⟨a1, a2⟩ := tS_le (bs := bs) hb
  refine wp_aload_n (n := 1) dX10_reads_0 rfl rfl ?_
  refine wp_callV0 (n := 4) (rm' := (1, 20, 0, 0)) rfl dX10_reads_1 rfl mlX10_173 (by repeat first | assumption | exact ax_set_self _ _ _ | exact ax_newA_self _ _ _ | refine (ax_set_ne _ _ (by omega)).trans ?_ | refine (ax_newA_ne _ _ _ (by omega)).trans ?_) rfl rfl rfl rfl rfl ?_
  refine s_X10_next hA hM0 hU hB hl hb (fun h0 f0 m0 => ?_)
  show WP Γ _ _ _ _ _ _ _
  have m0' := m0
  unfold ModC at m0'
  refine wp_pop (n := 5) dX10_reads_4 rfl rfl ?_
  have L : ∀ g b1, b1 + g = len → tA bs len (tS bs len b) = scn isAl bs (len - b1) b1 → ∀ h1, ax_fr m (m + 1) h h1 → ModC h1 m a th (nI len) (nI b1) (nI (tS bs len b)) er ea lr cm → WP Γ MX10_reads (2, 40, 0, 0) 5 [some (.ref m)] [] h1 Q := by
    intro g
    induction g with
    | zero =>
      intro b1 hg he h1 f1 m1
      have m1' := m1
      unfold ModC at m1'
      have hU1 := f1.get hU (by omega)
      have e1 : tA bs len (tS bs len b) = b1 := by rw [he, show len - b1 = 0 by omega]; rfl
      rw [e1] at k
      have eh : hrV bs len b1 = -1 := if_neg (by omega)
      refine wp_aload_n (n := 6) dX10_reads_5 rfl rfl ?_
      refine wp_callV0 (n := 9) (rm' := (0, 0, 0, 0)) rfl dX10_reads_6 rfl mlX10_160 (by repeat first | assumption | exact ax_set_self _ _ _ | exact ax_newA_self _ _ _ | refine (ax_set_ne _ _ (by omega)).trans ?_ | refine (ax_newA_ne _ _ _ (by omega)).trans ?_) rfl rfl rfl rfl rfl ?_
      refine s_X10_here m1 hU1 hB hl (by omega) ?_
      show WP Γ _ _ _ _ _ _ _
      refine wp_bipush (n := 11) (v := nI 97) dX10_reads_9 rfl (by decide) ?_
      refine wp_bipush (n := 13) (v := nI 122) dX10_reads_11 rfl (by decide) ?_
      refine wp_callS3 (n := 16) (rm' := (0, 0, 0, 0)) rfl dX10_reads_13 rfl mlX10_54 rfl rfl rfl rfl ?_
      refine s_X10_inJ (p := 97) (q := 122) rfl rfl ?_
      show WP Γ _ _ _ _ _ _ _
      rw [eh]
      refine wp_if_eq (t := 32) (n := 19) dX10_reads_16 (by decide) rfl (fun hc => ?_) (fun hc => ?_)
      · exact wp_return dX10_reads_32 rfl (k _ f1 m1)
      · exact absurd hc (by decide)
    | succ g ih =>
      intro b1 hg he h1 f1 m1
      have m1' := m1
      unfold ModC at m1'
      have hU1 := f1.get hU (by omega)
      have eh : hrV bs len b1 = bs b1 := if_pos (by omega)
      refine wp_aload_n (n := 6) dX10_reads_5 rfl rfl ?_
      refine wp_callV0 (n := 9) (rm' := (0, 0, 0, 0)) rfl dX10_reads_6 rfl mlX10_160 (by repeat first | assumption | exact ax_set_self _ _ _ | exact ax_newA_self _ _ _ | refine (ax_set_ne _ _ (by omega)).trans ?_ | refine (ax_newA_ne _ _ _ (by omega)).trans ?_) rfl rfl rfl rfl rfl ?_
      refine s_X10_here m1 hU1 hB hl (by omega) ?_
      show WP Γ _ _ _ _ _ _ _
      refine wp_bipush (n := 11) (v := nI 97) dX10_reads_9 rfl (by decide) ?_
      refine wp_bipush (n := 13) (v := nI 122) dX10_reads_11 rfl (by decide) ?_
      refine wp_callS3 (n := 16) (rm' := (0, 0, 0, 0)) rfl dX10_reads_13 rfl mlX10_54 rfl rfl rfl rfl ?_
      refine s_X10_inJ (p := 97) (q := 122) rfl rfl ?_
      show WP Γ _ _ _ _ _ _ _
      rw [eh]
      refine wp_if_eq (t := 32) (n := 19) dX10_reads_16 (by decide) rfl (fun hc => ?_) (fun hc => ?_)
      · have hc := bI_eq hc
        have e1 : tA bs len (tS bs len b) = b1 := he.trans (scn_stop (fun z => by rw [show isAl (bs b1) = false from hc] at z; exact absurd z.2 (by decide)))
        rw [e1] at k
        exact wp_return dX10_reads_32 rfl (k _ f1 m1)
      · have hc := bI_ne hc
        refine wp_aload_n (n := 20) dX10_reads_19 rfl rfl ?_
        refine wp_dup (n := 21) dX10_reads_20 rfl rfl ?_
        refine wp_getf (n := 24) dX10_reads_21 rfl flX10_157 (by repeat first | assumption | exact ax_set_self _ _ _ | exact ax_newA_self _ _ _ | refine (ax_set_ne _ _ (by omega)).trans ?_ | refine (ax_newA_ne _ _ _ (by omega)).trans ?_) (by rfl) ?_
        refine wp_iconst (n := 25) (v := nI 1) dX10_reads_24 rfl (by decide) ?_
        refine wp_iadd (n := 26) dX10_reads_25 rfl ?_
        rw [nI_add]
        refine wp_putf (n := 29) dX10_reads_26 rfl flX10_157 (by repeat first | assumption | exact ax_set_self _ _ _ | exact ax_newA_self _ _ _ | refine (ax_set_ne _ _ (by omega)).trans ?_ | refine (ax_newA_ne _ _ _ (by omega)).trans ?_) (by omega) (by rfl) rfl rfl ?_
        refine wp_goto (t := 5) dX10_reads_29 (by decide) ?_
        exact ih (b1 + 1) (by omega) (he.trans (scn_step (by omega) hc)) _ (f1.put (by omega)) (ax_set_self _ _ _)
  exact L (len - tS bs len b) (tS bs len b) (by omega) rfl h0 f0 m0
theorem s_X10_isW (i : Nat) (w : List Int32) {q : String × Nat × String × List Int32} (hi : ax_strs[i]? = some q) (hw : q.2.2.2 = w) (hok : wOk w = true) (hlen : w.length ≤ 20) (hM : ModC h m a th (nI len) (nI e9) (nI s9) er ea lr cm) (hU : h.2 (m + 10) = some (.inl (.byte, 500, .inl B))) (hB : BufR bs B len) (hl : len ≤ 500) (hse : s9 ≤ e9) (hel : e9 ≤ len)
    (k : Q (.inl (some (.int (bI (wrdB bs s9 (e9 - s9) w))))) h) : WP Γ MX10_isWord (4, 85, 0, 0) 0 [some (.ref m), some (.ref (Γ.2.2.2.2.1 i)), none, none] [] h Q := by
  subst hw
  have hq9 : ∀ j, j < q.2.2.2.length → ∃ c, q.2.2.2.getD j 0 = nI c ∧ c < 128 := fun j hj => wOk_get hok hj
  unfold ModC at hM
  have F : WP Γ MX10_isWord (4, 85, 0, 0) 24 [some (.ref m), some (.ref (Γ.2.2.2.2.1 i)), some (.int 0), none] [] h Q → True := fun _ => trivial
  have no : wrdB bs s9 (e9 - s9) q.2.2.2 = false → ∀ q3, WP Γ MX10_isWord (4, 85, 0, 0) 24 [some (.ref m), some (.ref (Γ.2.2.2.2.1 i)), some (.int 0), q3] [] h Q := by
    intro hn q3
    rw [hn] at k
    refine wp_iload_n (n := 25) dX10_isWord_24 rfl rfl ?_
    refine wp_if_eq (t := 67) (n := 28) dX10_isWord_25 (by decide) rfl (fun hc => ?_) (fun hc => ?_)
    · refine wp_iload_n (n := 68) dX10_isWord_67 rfl rfl ?_
      exact wp_ireturn dX10_isWord_68 rfl rfl (k)
    · exact absurd rfl hc
  refine wp_aload_n (n := 1) dX10_isWord_0 rfl rfl ?_
  refine wp_getf (n := 4) dX10_isWord_1 rfl flX10_157 (by repeat first | assumption | exact ax_set_self _ _ _ | exact ax_newA_self _ _ _ | refine (ax_set_ne _ _ (by omega)).trans ?_ | refine (ax_newA_ne _ _ _ (by omega)).trans ?_) (by rfl) ?_
  refine wp_aload_n (n := 5) dX10_isWord_4 rfl rfl ?_
  refine wp_getf (n := 8) dX10_isWord_5 rfl flX10_164 (by repeat first | assumption | exact ax_set_self _ _ _ | exact ax_newA_self _ _ _ | refine (ax_set_ne _ _ (by omega)).trans ?_ | refine (ax_newA_ne _ _ _ (by omega)).trans ?_) (by rfl) ?_
  refine wp_isub (n := 9) dX10_isWord_8 rfl ?_
  refine wp_aload_n (n := 10) dX10_isWord_9 rfl rfl ?_
  rw [nI_sub hse]
  refine wp_callVT (n := 13) (rm' := (1, 20, 0, 0)) hi rfl dX10_isWord_10 rfl mlX10_176 [] rfl rfl rfl rfl rfl (Nat.le_of_ble_eq_true rfl) rfl ?_
  refine s_J0_length hi (by omega) ?_
  show WP Γ _ _ _ _ _ _ _
  refine wp_icmp_ne (t := 20) (n := 16) dX10_isWord_13 (by decide) rfl (fun hc => ?_) (fun hc => ?_)
  · refine wp_iconst (n := 21) (v := 0) dX10_isWord_20 rfl (by decide) ?_
    refine wp_istore_n (n := 22) dX10_isWord_21 rfl rfl rfl rfl ?_
    refine wp_iconst (n := 23) (v := 0) dX10_isWord_22 rfl (by decide) ?_
    refine wp_istore_n (n := 24) dX10_isWord_23 rfl rfl rfl rfl ?_
    exact no (decide_eq_false (fun z => hc (by rw [z.1]))) _
  · have e : e9 - s9 = q.2.2.2.length := (nI_eq9 (by omega) (by omega)).mp hc
    refine wp_iconst (n := 17) (v := nI 1) dX10_isWord_16 rfl (by decide) ?_
    refine wp_goto (t := 21) dX10_isWord_17 (by decide) ?_
    refine wp_istore_n (n := 22) dX10_isWord_21 rfl rfl rfl rfl ?_
    refine wp_iconst (n := 23) (v := 0) dX10_isWord_22 rfl (by decide) ?_
    refine wp_istore_n (n := 24) dX10_isWord_23 rfl rfl rfl rfl ?_
    suffices L : ∀ j, j ≤ q.2.2.2.length → (∀ i', i' < j → bs (s9 + i') = q.2.2.2.getD i' 0) → WP Γ MX10_isWord (4, 85, 0, 0) 24 [some (.ref m), some (.ref (Γ.2.2.2.2.1 i)), some (.int (nI 1)), some (.int (nI j))] [] h Q from L 0 (Nat.zero_le _) (fun _ z => absurd z (Nat.not_lt_zero _))
    refine ax_up q.2.2.2.length (fun j hj ih => ?_)
    intro hp
    refine wp_iload_n (n := 25) dX10_isWord_24 rfl rfl ?_
    refine wp_if_eq (t := 67) (n := 28) dX10_isWord_25 (by decide) rfl (fun hq => ?_) (fun hq => ?_)
    · exact absurd hq (by decide)
    · refine wp_iload_n (n := 29) dX10_isWord_28 rfl rfl ?_
      refine wp_aload_n (n := 30) dX10_isWord_29 rfl rfl ?_
      refine wp_callVT (n := 33) (rm' := (1, 20, 0, 0)) hi rfl dX10_isWord_30 rfl mlX10_176 [] rfl rfl rfl rfl rfl (Nat.le_of_ble_eq_true rfl) rfl ?_
      refine s_J0_length hi (by omega) ?_
      show WP Γ _ _ _ _ _ _ _
      refine wp_icmp_ge (t := 67) (n := 36) dX10_isWord_33 (by decide) rfl (fun hr => ?_) (fun hr => ?_)
      · rw [nI_le9 (by omega) (by omega)] at hr
        obtain rfl : j = q.2.2.2.length := by omega
        rw [show wrdB bs s9 (e9 - s9) q.2.2.2 = true from decide_eq_true ⟨e, hp⟩] at k
        refine wp_iload_n (n := 68) dX10_isWord_67 rfl rfl ?_
        exact wp_ireturn dX10_isWord_68 rfl rfl (k)
      · rw [nI_le9 (by omega) (by omega)] at hr
        obtain ⟨c, hc1, hc2⟩ := hq9 j (by omega)
        obtain ⟨v, v1, v2, v3⟩ := hB (s9 + j) (by omega)
        refine wp_aload_n (n := 37) dX10_isWord_36 rfl rfl ?_
        refine wp_getf (n := 40) dX10_isWord_37 rfl flX10_39 (by repeat first | assumption | exact ax_set_self _ _ _ | exact ax_newA_self _ _ _ | refine (ax_set_ne _ _ (by omega)).trans ?_ | refine (ax_newA_ne _ _ _ (by omega)).trans ?_) (by rfl) ?_
        refine wp_aload_n (n := 41) dX10_isWord_40 rfl rfl ?_
        refine wp_getf (n := 44) dX10_isWord_41 rfl flX10_164 (by repeat first | assumption | exact ax_set_self _ _ _ | exact ax_newA_self _ _ _ | refine (ax_set_ne _ _ (by omega)).trans ?_ | refine (ax_newA_ne _ _ _ (by omega)).trans ?_) (by rfl) ?_
        refine wp_iload_n (n := 45) dX10_isWord_44 rfl rfl ?_
        refine wp_iadd (n := 46) dX10_isWord_45 rfl ?_
        refine wp_bald (n := 47) (s9 + j) dX10_isWord_46 rfl (by repeat first | assumption | exact ax_set_self _ _ _ | exact ax_newA_self _ _ _ | refine (ax_set_ne _ _ (by omega)).trans ?_ | refine (ax_newA_ne _ _ _ (by omega)).trans ?_) (by simp only [nI_zero, nI_mul, nI_add]) (by omega) (by omega) ?_
        refine wp_aload_n (n := 48) dX10_isWord_47 rfl rfl ?_
        refine wp_iload_n (n := 49) dX10_isWord_48 rfl rfl ?_
        rw [v3]
        refine wp_callVT (n := 52) (rm' := (3, 64, 0, 0)) hi rfl dX10_isWord_49 rfl mlX10_180 [.int (nI j)] rfl rfl rfl rfl rfl (Nat.le_of_ble_eq_true rfl) rfl ?_
        refine s_J0_charAt hi (by omega) (by omega) hc1 hc2 ?_
        show WP Γ _ _ _ _ _ _ _
        refine wp_icmp_ne (t := 59) (n := 55) dX10_isWord_52 (by decide) rfl (fun hs9 => ?_) (fun hs9 => ?_)
        · refine wp_iconst (n := 60) (v := 0) dX10_isWord_59 rfl (by decide) ?_
          refine wp_istore_n (n := 61) dX10_isWord_60 rfl rfl rfl rfl ?_
          refine wp_iinc (n := 64) dX10_isWord_61 rfl rfl (nI_inc j) rfl rfl rfl ?_
          refine wp_goto (t := 24) dX10_isWord_64 (by decide) ?_
          refine no (decide_eq_false (fun z => hs9 ((byt_eq v (by omega) c hc2).mpr ?_))) _
          have := z.2 j (by omega)
          rw [hc1, v2] at this
          exact (nI_eq9 (by omega) (by omega)).mp this
        · refine wp_iconst (n := 56) (v := nI 1) dX10_isWord_55 rfl (by decide) ?_
          refine wp_goto (t := 60) dX10_isWord_56 (by decide) ?_
          refine wp_istore_n (n := 61) dX10_isWord_60 rfl rfl rfl rfl ?_
          refine wp_iinc (n := 64) dX10_isWord_61 rfl rfl (nI_inc j) rfl rfl rfl ?_
          refine wp_goto (t := 24) dX10_isWord_64 (by decide) ?_
          refine ih (by omega) (fun i' h' => ?_)
          by_cases e9' : i' = j
          · subst e9'
            rw [hc1, v2, (byt_eq v (by omega) c hc2).mp hs9]
          · exact hp i' (by omega)
theorem s_X10_numberE {tl at' : Int32} (hM : ModC h m a th tl at' bg er ea lr cm) (he : ¬ er = 0)
    (k : Q (.inl (some (.int x))) h) : WP Γ MX10_number (2, 60, 0, 0) 0 [some (.ref m), some (.int x), some (.int z), none] [] h Q := by
  unfold ModC at hM
  refine wp_aload_n (n := 1) dX10_number_0 rfl rfl ?_
  refine wp_getf (n := 4) dX10_number_1 rfl flX10_167 (by repeat first | assumption | exact ax_set_self _ _ _ | exact ax_newA_self _ _ _ | refine (ax_set_ne _ _ (by omega)).trans ?_ | refine (ax_newA_ne _ _ _ (by omega)).trans ?_) (by rfl) ?_
  refine wp_if_eq (t := 9) (n := 7) dX10_number_4 (by decide) rfl (fun hc => ?_) (fun hc => ?_)
  · exact absurd hc he
  · refine wp_iload_n (n := 8) dX10_number_7 rfl rfl ?_
    exact wp_ireturn dX10_number_8 rfl rfl (k)
theorem s_X10_number (hA : Γ.2.1 ≤ m) (hM : ModC h m a th (nI len) (nI b) bg 0 ea lr cm) (hU : h.2 (m + 10) = some (.inl (.byte, 500, .inl B))) (hB : BufR bs B len) (hl : len ≤ 500) (hb : b ≤ len) (hz : z ≤ nI 9999)
    (kF : ∀ e pos h', rdN bs len b x z = .inl (e, pos) → ax_fr m (m + 1) h h' → ModE h' m a th (nI len) e pos lr cm → Q (.inl (some (.int x))) h')
    (kO : ∀ u w h', rdN bs len b x z = .inr (nI u, w) → x ≤ nI u → nI u ≤ z → b < w → w ≤ len → ax_fr m (m + 1) h h' → ModG h' m a th (nI len) w lr cm → Q (.inl (some (.int (nI u)))) h') : WP Γ MX10_number (2, 60, 0, 0) 0 [some (.ref m), some (.int x), some (.int z), none] [] h Q := by
  have hM0 := hM
  unfold ModC at hM
  obtain ⟨a1, a2⟩ := tS_le (bs := bs) hb
  refine wp_aload_n (n := 1) dX10_number_0 rfl rfl ?_
  refine wp_getf (n := 4) dX10_number_1 rfl flX10_167 (by repeat first | assumption | exact ax_set_self _ _ _ | exact ax_newA_self _ _ _ | refine (ax_set_ne _ _ (by omega)).trans ?_ | refine (ax_newA_ne _ _ _ (by omega)).trans ?_) (by rfl) ?_
  refine wp_if_eq (t := 9) (n := 7) dX10_number_4 (by decide) rfl (fun hc => ?_) (fun hc => ?_)
  · refine wp_aload_n (n := 10) dX10_number_9 rfl rfl ?_
    refine wp_callV0 (n := 13) (rm' := (1, 20, 0, 0)) rfl dX10_number_10 rfl mlX10_173 (by repeat first | assumption | exact ax_set_self _ _ _ | exact ax_newA_self _ _ _ | refine (ax_set_ne _ _ (by omega)).trans ?_ | refine (ax_newA_ne _ _ _ (by omega)).trans ?_) rfl rfl rfl rfl rfl ?_
    refine s_X10_next hA hM0 hU hB hl hb (fun h1 f1 m1 => ?_)
    show WP Γ _ _ _ _ _ _ _
    refine wp_bipush (n := 15) (v := nI 48) dX10_number_13 rfl (by decide) ?_
    refine wp_bipush (n := 17) (v := nI 57) dX10_number_15 rfl (by decide) ?_
    refine wp_callS3 (n := 20) (rm' := (0, 0, 0, 0)) rfl dX10_number_17 rfl mlX10_54 rfl rfl rfl rfl ?_
    refine s_X10_inJ (p := 48) (q := 57) rfl rfl ?_
    show WP Γ _ _ _ _ _ _ _
    have m1' := m1
    unfold ModC at m1'
    have hU1 := f1.get hU (by omega)
    refine wp_if_ne (t := 34) (n := 23) dX10_number_20 (by decide) rfl (fun hq => ?_) (fun hq => ?_)
    · have hq := bI_ne hq
      have hs : tS bs len b < len := by
        by_cases q : tS bs len b < len
        · exact q
        · rw [show hrV bs len (tS bs len b) = -1 from if_neg q] at hq
          exact absurd hq (by decide)
      rw [show hrV bs len (tS bs len b) = bs (tS bs len b) from if_pos hs] at hq
      have hk : tK bs len b = 2 := tK2_iff.mpr ⟨hs, hq⟩
      obtain ⟨c1, c2⟩ := tK2 hk
      have d2 := (tD_le (bs := bs) (len := len) (b := tS bs len b) (by omega)).2
      have dg : ∀ i, i < tD bs len (tS bs len b) - tS bs len b → isDg (bs (tS bs len b + i)) = true := fun i hi => scn_all isDg bs (len - tS bs len b) (tS bs len b) (tS bs len b + i) (by omega) (by show _ < tD bs len (tS bs len b); omega)
      have er9 : rdN bs len b x z = if num bs (nI 10000) (tS bs len b) (tD bs len (tS bs len b) - tS bs len b) < x ∨ z < num bs (nI 10000) (tS bs len b) (tD bs len (tS bs len b) - tS bs len b) then .inl (nI 2, tS bs len b) else .inr (num bs (nI 10000) (tS bs len b) (tD bs len (tS bs len b) - tS bs len b), tD bs len (tS bs len b)) := by
        unfold rdN; rw [if_pos hk, c2]
      refine wp_iconst (n := 35) (v := 0) dX10_number_34 rfl (by decide) ?_
      refine wp_istore_n (n := 36) dX10_number_35 rfl rfl rfl rfl ?_
      have L : ∀ g j, tS bs len b + j + g = tD bs len (tS bs len b) → ∀ h2, ax_fr m (m + 1) h h2 → ModC h2 m a th (nI len) (nI (tS bs len b + j)) (nI (tS bs len b)) 0 ea lr cm → WP Γ MX10_number (2, 60, 0, 0) 36 [some (.ref m), some (.int x), some (.int z), some (.int (num bs (nI 10000000) (tS bs len b) j))] [] h2 Q := by
        intro g
        induction g with
        | zero =>
          intro j hj h2 f2 m2
          have m2' := m2
          unfold ModC at m2'
          have hU2 := f2.get hU (by omega)
          have e1 : tS bs len b + j = tD bs len (tS bs len b) := by omega
          have nd : inI (hrV bs len (tS bs len b + j)) 48 57 = false := by
            by_cases q : tS bs len b + j < len
            · rw [show hrV bs len (tS bs len b + j) = bs (tS bs len b + j) from if_pos q]
              have h9 : scn isDg bs (len - tS bs len b) (tS bs len b) = tS bs len b + j := e1.symm
              have h8 : ∀ g i, i + g = len → scn isDg bs g i < len → isDg (bs (scn isDg bs g i)) = false := by
                intro g
                induction g with
                | zero => intro i h1 h2; simp only [scn] at h2; omega
                | succ g ih =>
                  intro i h1 h2
                  unfold scn at h2 ⊢
                  by_cases q9 : isDg (bs i) = true
                  · rw [if_pos q9] at h2 ⊢
                    exact ih (i + 1) (by omega) h2
                  · rw [if_neg q9]; exact Bool.eq_false_iff.mpr q9
              have := h8 (len - tS bs len b) (tS bs len b) (by omega) (by rw [h9]; exact q)
              rw [h9] at this
              exact this
            · rw [show hrV bs len (tS bs len b + j) = -1 from if_neg q]
              decide
          have ej : tD bs len (tS bs len b) - tS bs len b = j := by omega
          rw [ej] at er9 dg
          obtain ⟨T, t1, t2⟩ := num_cap dg
          refine wp_aload_n (n := 37) dX10_number_36 rfl rfl ?_
          refine wp_callV0 (n := 40) (rm' := (0, 0, 0, 0)) rfl dX10_number_37 rfl mlX10_160 (by repeat first | assumption | exact ax_set_self _ _ _ | exact ax_newA_self _ _ _ | refine (ax_set_ne _ _ (by omega)).trans ?_ | refine (ax_newA_ne _ _ _ (by omega)).trans ?_) rfl rfl rfl rfl rfl ?_
          refine s_X10_here m2 hU2 hB hl (by omega) ?_
          show WP Γ _ _ _ _ _ _ _
          refine wp_bipush (n := 42) (v := nI 48) dX10_number_40 rfl (by decide) ?_
          refine wp_bipush (n := 44) (v := nI 57) dX10_number_42 rfl (by decide) ?_
          refine wp_callS3 (n := 47) (rm' := (0, 0, 0, 0)) rfl dX10_number_44 rfl mlX10_54 rfl rfl rfl rfl ?_
          refine s_X10_inJ (p := 48) (q := 57) rfl rfl ?_
          show WP Γ _ _ _ _ _ _ _
          rw [nd]
          refine wp_if_eq (t := 81) (n := 50) dX10_number_47 (by decide) rfl (fun hr => ?_) (fun hr => ?_)
          · refine wp_iload_n (n := 82) dX10_number_81 rfl rfl ?_
            refine wp_iload_n (n := 83) dX10_number_82 rfl rfl ?_
            refine wp_iload_n (n := 84) dX10_number_83 rfl rfl ?_
            refine wp_callS3 (n := 87) (rm' := (0, 0, 0, 0)) rfl dX10_number_84 rfl mlX10_54 rfl rfl rfl rfl ?_
            refine s_X10_in ?_
            show WP Γ _ _ _ _ _ _ _
            by_cases hT : T ≤ 9999
            · rw [show min T 10000 = T by omega] at t1
              rw [show min T 10000000 = T by omega] at t2
              rw [t1] at er9
              rw [t2]
              by_cases hin : x ≤ nI T ∧ nI T ≤ z
              · rw [if_neg (fun q => q.elim (Int32.not_lt.mpr hin.1) (Int32.not_lt.mpr hin.2))] at er9
                rw [decide_eq_true hin]
                refine wp_if_ne (t := 101) (n := 90) dX10_number_87 (by decide) rfl (fun hs9 => ?_) (fun hs9 => ?_)
                · refine wp_iload_n (n := 102) dX10_number_101 rfl rfl ?_
                  exact wp_ireturn dX10_number_102 rfl rfl (kO T _ h2 er9 hin.1 hin.2 (by omega) d2 f2 ⟨_, _, e1 ▸ m2⟩)
                · exact absurd hs9 (by decide)
              · rw [if_pos (by
                  by_cases q : x ≤ nI T
                  · exact Or.inr (Int32.not_le.mp (fun z9 => hin ⟨q, z9⟩))
                  · exact Or.inl (Int32.not_le.mp q))] at er9
                rw [decide_eq_false hin]
                refine wp_if_ne (t := 101) (n := 90) dX10_number_87 (by decide) rfl (fun hs9 => ?_) (fun hs9 => ?_)
                · exact absurd rfl hs9
                · refine wp_aload_n (n := 91) dX10_number_90 rfl rfl ?_
                  refine wp_iconst (n := 92) (v := nI 2) dX10_number_91 rfl (by decide) ?_
                  refine wp_aload_n (n := 93) dX10_number_92 rfl rfl ?_
                  refine wp_getf (n := 96) dX10_number_93 rfl flX10_164 (by repeat first | assumption | exact ax_set_self _ _ _ | exact ax_newA_self _ _ _ | refine (ax_set_ne _ _ (by omega)).trans ?_ | refine (ax_newA_ne _ _ _ (by omega)).trans ?_) (by rfl) ?_
                  refine wp_callV2 (n := 99) (rm' := (0, 0, 0, 0)) rfl dX10_number_96 rfl mlX10_184 (by repeat first | assumption | exact ax_set_self _ _ _ | exact ax_newA_self _ _ _ | refine (ax_set_ne _ _ (by omega)).trans ?_ | refine (ax_newA_ne _ _ _ (by omega)).trans ?_) rfl rfl rfl rfl rfl ?_
                  refine s_X10_fails0 m2 hA (fun h3 f3 m3 => ?_)
                  show WP Γ _ _ _ _ _ _ _
                  refine wp_iload_n (n := 100) dX10_number_99 rfl rfl ?_
                  exact wp_ireturn dX10_number_100 rfl rfl (kF _ _ h3 er9 (f2.tr (lo := m) (hi := m + 1) f3 (by omega) (by omega)) ⟨by decide, _, _, m3⟩)
            · rw [show min T 10000 = 10000 by omega] at t1
              rw [t1] at er9
              have big : ∀ v, 10000 ≤ v → v ≤ 10000000 → z < nI v := fun v h1 h2 => Int32.lt_of_le_of_lt hz ((nI_lt9 (by omega) (by omega)).mpr (by omega))
              rw [if_pos (Or.inr (big 10000 (by omega) (by omega)))] at er9
              rw [t2, decide_eq_false (fun q => absurd (big (min T 10000000) (by omega) (by omega)) (Int32.not_lt.mpr q.2))]
              refine wp_if_ne (t := 101) (n := 90) dX10_number_87 (by decide) rfl (fun hs9 => ?_) (fun hs9 => ?_)
              · exact absurd rfl hs9
              · refine wp_aload_n (n := 91) dX10_number_90 rfl rfl ?_
                refine wp_iconst (n := 92) (v := nI 2) dX10_number_91 rfl (by decide) ?_
                refine wp_aload_n (n := 93) dX10_number_92 rfl rfl ?_
                refine wp_getf (n := 96) dX10_number_93 rfl flX10_164 (by repeat first | assumption | exact ax_set_self _ _ _ | exact ax_newA_self _ _ _ | refine (ax_set_ne _ _ (by omega)).trans ?_ | refine (ax_newA_ne _ _ _ (by omega)).trans ?_) (by rfl) ?_
                refine wp_callV2 (n := 99) (rm' := (0, 0, 0, 0)) rfl dX10_number_96 rfl mlX10_184 (by repeat first | assumption | exact ax_set_self _ _ _ | exact ax_newA_self _ _ _ | refine (ax_set_ne _ _ (by omega)).trans ?_ | refine (ax_newA_ne _ _ _ (by omega)).trans ?_) rfl rfl rfl rfl rfl ?_
                refine s_X10_fails0 m2 hA (fun h3 f3 m3 => ?_)
                show WP Γ _ _ _ _ _ _ _
                refine wp_iload_n (n := 100) dX10_number_99 rfl rfl ?_
                exact wp_ireturn dX10_number_100 rfl rfl (kF _ _ h3 er9 (f2.tr (lo := m) (hi := m + 1) f3 (by omega) (by omega)) ⟨by decide, _, _, m3⟩)
          · exact absurd rfl hr
        | succ g ih =>
          intro j hj h2 f2 m2
          have m2' := m2
          unfold ModC at m2'
          have hU2 := f2.get hU (by omega)
          have hj9 := dg j (by omega)
          have eh : hrV bs len (tS bs len b + j) = bs (tS bs len b + j) := if_pos (by omega)
          refine wp_aload_n (n := 37) dX10_number_36 rfl rfl ?_
          refine wp_callV0 (n := 40) (rm' := (0, 0, 0, 0)) rfl dX10_number_37 rfl mlX10_160 (by repeat first | assumption | exact ax_set_self _ _ _ | exact ax_newA_self _ _ _ | refine (ax_set_ne _ _ (by omega)).trans ?_ | refine (ax_newA_ne _ _ _ (by omega)).trans ?_) rfl rfl rfl rfl rfl ?_
          refine s_X10_here m2 hU2 hB hl (by omega) ?_
          show WP Γ _ _ _ _ _ _ _
          refine wp_bipush (n := 42) (v := nI 48) dX10_number_40 rfl (by decide) ?_
          refine wp_bipush (n := 44) (v := nI 57) dX10_number_42 rfl (by decide) ?_
          refine wp_callS3 (n := 47) (rm' := (0, 0, 0, 0)) rfl dX10_number_44 rfl mlX10_54 rfl rfl rfl rfl ?_
          refine s_X10_inJ (p := 48) (q := 57) rfl rfl ?_
          show WP Γ _ _ _ _ _ _ _
          rw [eh, show inI (bs (tS bs len b + j)) 48 57 = true from hj9]
          refine wp_if_eq (t := 81) (n := 50) dX10_number_47 (by decide) rfl (fun hr => ?_) (fun hr => ?_)
          · exact absurd hr (by decide)
          · refine wp_ldc (n := 52) dX10_number_50 rfl kcX10_188 ?_
            refine wp_bipush (n := 54) (v := nI 10) dX10_number_52 rfl (by decide) ?_
            refine wp_iload_n (n := 55) dX10_number_54 rfl rfl ?_
            refine wp_imul (n := 56) dX10_number_55 rfl ?_
            refine wp_aload_n (n := 57) dX10_number_56 rfl rfl ?_
            refine wp_callV0 (n := 60) (rm' := (0, 0, 0, 0)) rfl dX10_number_57 rfl mlX10_160 (by repeat first | assumption | exact ax_set_self _ _ _ | exact ax_newA_self _ _ _ | refine (ax_set_ne _ _ (by omega)).trans ?_ | refine (ax_newA_ne _ _ _ (by omega)).trans ?_) rfl rfl rfl rfl rfl ?_
            refine s_X10_here m2 hU2 hB hl (by omega) ?_
            show WP Γ _ _ _ _ _ _ _
            rw [eh]
            refine wp_iadd (n := 61) dX10_number_60 rfl ?_
            refine wp_bipush (n := 63) (v := nI 48) dX10_number_61 rfl (by decide) ?_
            refine wp_isub (n := 64) dX10_number_63 rfl ?_
            refine wp_mmin (n := 67) dX10_number_64 rfl mnX10_189 ax_mns ax_mi ax_mnc rfl rfl ?_
            have S : ∀ u, u = num bs (nI 10000000) (tS bs len b) (j + 1) → WP Γ MX10_number (2, 60, 0, 0) 67 [some (.ref m), some (.int x), some (.int z), some (.int (num bs (nI 10000000) (tS bs len b) j))] [.int u] h2 Q := by
              intro u hu
              subst hu
              refine wp_istore_n (n := 68) dX10_number_67 rfl rfl rfl rfl ?_
              refine wp_aload_n (n := 69) dX10_number_68 rfl rfl ?_
              refine wp_dup (n := 70) dX10_number_69 rfl rfl ?_
              refine wp_getf (n := 73) dX10_number_70 rfl flX10_157 (by repeat first | assumption | exact ax_set_self _ _ _ | exact ax_newA_self _ _ _ | refine (ax_set_ne _ _ (by omega)).trans ?_ | refine (ax_newA_ne _ _ _ (by omega)).trans ?_) (by rfl) ?_
              refine wp_iconst (n := 74) (v := nI 1) dX10_number_73 rfl (by decide) ?_
              refine wp_iadd (n := 75) dX10_number_74 rfl ?_
              rw [nI_add, show tS bs len b + j + 1 = tS bs len b + (j + 1) by omega]
              refine wp_putf (n := 78) dX10_number_75 rfl flX10_157 (by repeat first | assumption | exact ax_set_self _ _ _ | exact ax_newA_self _ _ _ | refine (ax_set_ne _ _ (by omega)).trans ?_ | refine (ax_newA_ne _ _ _ (by omega)).trans ?_) (by omega) (by rfl) rfl rfl ?_
              refine wp_goto (t := 36) dX10_number_78 (by decide) ?_
              exact ih (j + 1) (by omega) _ (f2.put (by omega)) (ax_set_self _ _ _)
            exact S _ (num7_step (fun i hi => dg i (by omega)))
      have L0 := L (tD bs len (tS bs len b) - tS bs len b) 0 (by omega) h1 f1 m1
      exact L0
    · have hq := bI_eq hq
      have hk : ¬ tK bs len b = 2 := fun q => by
        obtain ⟨q1, q2⟩ := tK2_iff.mp q
        rw [show hrV bs len (tS bs len b) = bs (tS bs len b) from if_pos q1] at hq
        rw [show inI (bs (tS bs len b)) 48 57 = isDg (bs (tS bs len b)) from rfl, q2] at hq
        cases hq
      refine wp_aload_n (n := 24) dX10_number_23 rfl rfl ?_
      refine wp_iconst (n := 25) (v := nI 1) dX10_number_24 rfl (by decide) ?_
      refine wp_aload_n (n := 26) dX10_number_25 rfl rfl ?_
      refine wp_getf (n := 29) dX10_number_26 rfl flX10_157 (by repeat first | assumption | exact ax_set_self _ _ _ | exact ax_newA_self _ _ _ | refine (ax_set_ne _ _ (by omega)).trans ?_ | refine (ax_newA_ne _ _ _ (by omega)).trans ?_) (by rfl) ?_
      refine wp_callV2 (n := 32) (rm' := (0, 0, 0, 0)) rfl dX10_number_29 rfl mlX10_184 (by repeat first | assumption | exact ax_set_self _ _ _ | exact ax_newA_self _ _ _ | refine (ax_set_ne _ _ (by omega)).trans ?_ | refine (ax_newA_ne _ _ _ (by omega)).trans ?_) rfl rfl rfl rfl rfl ?_
      refine s_X10_fails0 m1 hA (fun h2 f2 m2 => ?_)
      show WP Γ _ _ _ _ _ _ _
      refine wp_iload_n (n := 33) dX10_number_32 rfl rfl ?_
      exact wp_ireturn dX10_number_33 rfl rfl (kF _ _ h2 (by unfold rdN; rw [if_neg hk]) (f1.tr (lo := m) (hi := m + 1) f2 (by omega) (by omega)) ⟨by decide, _, _, m2⟩)
  · exact absurd rfl hc

end
