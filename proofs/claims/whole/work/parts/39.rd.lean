/-! ===== reading: words and numbers as functions ===== -/
abbrev w_blocks : List Int32 := [98, 108, 111, 99, 107, 115]
abbrev w_pool : List Int32 := [112, 111, 111, 108]
abbrev w_free : List Int32 := [102, 114, 101, 101]
abbrev w_pick : List Int32 := [112, 105, 99, 107]
abbrev w_lowest : List Int32 := [108, 111, 119, 101, 115, 116]
abbrev w_highest : List Int32 := [104, 105, 103, 104, 101, 115, 116]
abbrev w_oldest : List Int32 := [111, 108, 100, 101, 115, 116]
abbrev w_fitting : List Int32 := [102, 105, 116, 116, 105, 110, 103]
abbrev w_grant : List Int32 := [103, 114, 97, 110, 116]
abbrev w_move : List Int32 := [109, 111, 118, 101]
abbrev w_hold : List Int32 := [104, 111, 108, 100]
abbrev w_wait : List Int32 := [119, 97, 105, 116]
abbrev w_back : List Int32 := [98, 97, 99, 107]
def wOk (w : List Int32) : Bool := w.all (fun c => decide (0 ≤ c ∧ c < 128))
theorem wOk_get {w : List Int32} (h : wOk w = true) {j : Nat} (hj : j < w.length) : ∃ c, w.getD j 0 = nI c ∧ c < 128 := by
  have h1 := of_decide_eq_true (List.all_eq_true.mp h _ (List.getElem_mem hj))
  have e : w.getD j 0 = w[j] := by rw [List.getD_eq_getElem?_getD, List.getElem?_eq_getElem hj]; rfl
  obtain ⟨c, hc, e2⟩ := i32_nat h1.1
  rw [e, e2]
  refine ⟨c, rfl, ?_⟩
  rw [e2] at h1
  exact (nI_lt9 (b := 128) hc (by omega)).mp h1.2
theorem scn_all (P : Int32 → Bool) (bs : FI) : ∀ g a i, a ≤ i → i < scn P bs g a → P (bs i) = true
  | 0, a, i, h1, h2 => by simp only [scn] at h2; omega
  | g + 1, a, i, h1, h2 => by
    unfold scn at h2
    by_cases q : P (bs a) = true
    · rw [if_pos q] at h2
      by_cases e : i = a
      · rw [e]; exact q
      · exact scn_all P bs g (a + 1) i (by omega) h2
    · rw [if_neg q] at h2; omega
theorem isDg_get {c : Int32} (h : isDg c = true) : ∃ d, d ≤ 9 ∧ c = nI (48 + d) := by
  obtain ⟨j, h1, h2, e⟩ := inI_get (a := 48) (b := 57) (by omega) (by omega) (of_decide_eq_true h).1 (of_decide_eq_true h).2
  exact ⟨j - 48, by omega, by rw [e]; congr 1; omega⟩
theorem num_nat {bs : FI} {s : Nat} {M : Nat} (hM : M ≤ 100000000) : ∀ {j : Nat}, (∀ i, i < j → isDg (bs (s + i)) = true) → ∃ m, m ≤ M ∧ num bs (nI M) s j = nI m
  | 0, _ => ⟨0, Nat.zero_le _, rfl⟩
  | j + 1, h => by
    obtain ⟨m, hm, e⟩ := num_nat (j := j) hM (fun i hi => h i (by omega))
    obtain ⟨d, hd, e2⟩ := isDg_get (h j (by omega))
    have e3 : num bs (nI M) s j * nI 10 + bs (s + j) - nI 48 = nI (m * 10 + d) := by
      rw [e, e2, nI_mul, nI_add, nI_sub (by omega)]
      congr 1
      omega
    unfold num
    rw [e3]
    by_cases q : M < m * 10 + d
    · rw [if_pos ((nI_lt9 (by omega) (by omega)).mpr q)]; exact ⟨M, Nat.le_refl _, rfl⟩
    · rw [if_neg (fun z => q ((nI_lt9 (by omega) (by omega)).mp z))]; exact ⟨m * 10 + d, by omega, rfl⟩
def rdW (bs : FI) (len b : Nat) : (Int32 × Nat) ⊕ (Nat × Nat) := if tK bs len b = 1 then .inr (tS bs len b, tB bs len b) else .inl (nI 1, tS bs len b)
def rdN (bs : FI) (len b : Nat) (lo hi : Int32) : (Int32 × Nat) ⊕ (Int32 × Nat) := if tK bs len b = 2 then (if num bs (nI 10000) (tS bs len b) (tB bs len b - tS bs len b) < lo ∨ hi < num bs (nI 10000) (tS bs len b) (tB bs len b - tS bs len b) then .inl (nI 2, tS bs len b) else .inr (num bs (nI 10000) (tS bs len b) (tB bs len b - tS bs len b), tB bs len b)) else .inl (nI 1, tS bs len b)
def TxF (h : AH) (p : Nat) (bs : FI) (len : Nat) (e : Int32) (pos : Nat) : Prop := ∃ kd st bh, TextAt h p bs len kd st bh e (nI pos)
def TxG (h : AH) (p : Nat) (bs : FI) (len b : Nat) : Prop := ∃ kd st, TextAt h p bs len kd st b 0 0
theorem tK1 {bs : FI} {len b : Nat} (h : tK bs len b = 1) : tS bs len b < tA bs len (tS bs len b) ∧ tB bs len b = tA bs len (tS bs len b) := by
  unfold tK at h
  by_cases q : tS bs len b < tA bs len (tS bs len b)
  · exact ⟨q, by unfold tB; rw [if_pos q]⟩
  · rw [if_neg q] at h
    split at h
    · omega
    · split at h
      · omega
      · split at h <;> omega
theorem tK2 {bs : FI} {len b : Nat} (h : tK bs len b = 2) : tS bs len b < tD bs len (tS bs len b) ∧ tB bs len b = tD bs len (tS bs len b) := by
  unfold tK at h
  by_cases q : tS bs len b < tA bs len (tS bs len b)
  · rw [if_pos q] at h; omega
  · rw [if_neg q] at h
    by_cases r : tS bs len b < tD bs len (tS bs len b)
    · exact ⟨r, by unfold tB; rw [if_neg q, if_pos r]⟩
    · rw [if_neg r] at h
      split at h
      · omega
      · split at h <;> omega
theorem tK3 {bs : FI} {len b : Nat} (h : tK bs len b = 3) : tB bs len b = tS bs len b + 1 := by
  unfold tK at h
  unfold tB
  by_cases q : tS bs len b < tA bs len (tS bs len b)
  · rw [if_pos q] at h; omega
  · rw [if_neg q] at h ⊢
    by_cases r : tS bs len b < tD bs len (tS bs len b)
    · rw [if_pos r] at h; omega
    · rw [if_neg r] at h ⊢
      by_cases u : len ≤ tS bs len b
      · rw [if_pos u] at h; omega
      · rw [if_neg u]
section
variable {Γ : GE} {h : AH} {Q : PO} {p len st bh : Nat} {bs : FI} {kd x : Int32}
theorem s_rdW (hT : TextAt h p bs len kd st bh 0 0) (hA : Γ.2.1 ≤ p) (hl : len ≤ 500) (hb : bh ≤ len)
    (kF : ∀ e pos h', rdW bs len bh = .inl (e, pos) → ax_fr p (p + 2) h h' → TxF h' p bs len e pos → Q (.inl (some (.int 0))) h')
    (kO : ∀ s w h', rdW bs len bh = .inr (s, w) → bh ≤ s → s < w → w ≤ len → (∀ i, s ≤ i → i < w → isAl (bs i) = true) → ax_fr p (p + 2) h h' → TextAt h' p bs len (nI 1) s w 0 0 → Q (.inl (some (.int (nI 1)))) h') : WP Γ MX8_readWord (1, 21, 0, 0) 0 [some (.ref p)] [] h Q := by
  obtain ⟨a1, a2⟩ := tS_le (bs := bs) hb
  obtain ⟨b1, b2⟩ := tB_le (bs := bs) hb
  refine s_X8_readWord hT hA hl hb (fun e h1 f1 t1 => ?_) (fun e h1 f1 t1 => ?_)
  · obtain ⟨c1, c2⟩ := tK1 e
    exact kO _ _ h1 (by unfold rdW; rw [if_pos e]) a1 (by omega) b2 (fun i h1 h2 => scn_all isAl bs _ _ i h1 (by rw [c2] at h2; exact h2)) f1 t1
  · exact kF _ _ h1 (by unfold rdW; rw [if_neg e]) f1 ⟨_, _, _, t1⟩
theorem s_rdN {lo9 hi9 : Int32} (hT : TextAt h p bs len kd st bh 0 0) (hA : Γ.2.1 ≤ p) (hl : len ≤ 500) (hb : bh ≤ len)
    (kF : ∀ e pos h', rdN bs len bh lo9 hi9 = .inl (e, pos) → ax_fr p (p + 2) h h' → TxF h' p bs len e pos → Q (.inl (some (.int (-1)))) h')
    (kO : ∀ m w h', rdN bs len bh lo9 hi9 = .inr (nI m, w) → m ≤ 10000 → bh < w → w ≤ len → lo9 ≤ nI m → nI m ≤ hi9 → ax_fr p (p + 2) h h' → TxG h' p bs len w → Q (.inl (some (.int (nI m)))) h') : WP Γ MX8_readNumber (1, 60, 0, 0) 0 [some (.ref p), some (.int lo9), some (.int hi9), none, none] [] h Q := by
  obtain ⟨a1, a2⟩ := tS_le (bs := bs) hb
  obtain ⟨b1, b2⟩ := tB_le (bs := bs) hb
  refine s_X8_readNumber hT hA hl hb (fun e h1 f1 t1 => ?_) (fun e q h1 f1 t1 => ?_) (fun e q1 q2 h1 f1 t1 => ?_)
  · exact kF _ _ h1 (by unfold rdN; rw [if_neg e]) f1 ⟨_, _, _, t1⟩
  · exact kF _ _ h1 (by unfold rdN; rw [if_pos e, if_pos q]) f1 ⟨_, _, _, t1⟩
  · obtain ⟨c1, c2⟩ := tK2 e
    obtain ⟨m, hm, em⟩ := num_nat (bs := bs) (s := tS bs len bh) (M := 10000) (j := tB bs len bh - tS bs len bh) (by omega) (fun i hi => scn_all isDg bs (len - tS bs len bh) (tS bs len bh) (tS bs len bh + i) (by omega) (by show _ < tD bs len (tS bs len bh); omega))
    have er : rdN bs len bh lo9 hi9 = .inr (num bs (nI 10000) (tS bs len bh) (tB bs len bh - tS bs len bh), tB bs len bh) := by
      unfold rdN; rw [if_pos e, if_neg (fun z => z.elim q1 q2)]
    rw [em] at er q1 q2 ⊢
    exact kO m _ h1 er hm (by omega) b2 (i32_not_lt q1) (i32_not_lt q2) f1 ⟨_, _, t1⟩
theorem s_isW (i : Nat) (w : List Int32) {q : String × Nat × String × List Int32} {er ea : Int32} (hi : ax_strs[i]? = some q) (hw : q.2.2.2 = w) (hok : wOk w = true) (hlen : w.length ≤ 20) (hT : TextAt h p bs len kd st bh er ea) (hs : st ≤ bh) (hl : len ≤ 500) (hb : bh ≤ len)
    (k : Q (.inl (some (.int (bI (wrdB bs st (bh - st) w))))) h) : WP Γ MX8_isWord (4, 85, 0, 0) 0 [some (.ref p), some (.ref (Γ.2.2.2.2.1 i)), none] [] h Q := by
  subst hw
  exact s_X8_isWord hi hlen (fun j hj => wOk_get hok hj) hT hs hl hb k
theorem TxG.fr {h' : AH} {lo hi b : Nat} (hM : TxG h p bs len b) (hF : ax_fr lo hi h h') (hd : hi ≤ p ∨ p + 2 ≤ lo) : TxG h' p bs len b := by
  obtain ⟨kd, st, hT⟩ := hM
  exact ⟨kd, st, hT.fr hF hd⟩
theorem TxF.fr {h' : AH} {lo hi pos : Nat} {e : Int32} (hM : TxF h p bs len e pos) (hF : ax_fr lo hi h h') (hd : hi ≤ p ∨ p + 2 ≤ lo) : TxF h' p bs len e pos := by
  obtain ⟨kd, st, bh, hT⟩ := hM
  exact ⟨kd, st, bh, hT.fr hF hd⟩
end
