/-! ===== what adjustments do ===== -/

theorem sumI_sub (f g : FI) : ∀ n, sumI (fun i => f i - g i) n = sumI f n - sumI g n
  | 0 => (Int32.sub_self (0 : Int32)).symm
  | n + 1 => by
    show sumI (fun i => f i - g i) n + (f n - g n) = sumI f n + f n - (sumI g n + g n)
    rw [sumI_sub f g n, i32_sub_add, Int32.sub_eq_add_neg, Int32.sub_eq_add_neg, Int32.sub_eq_add_neg, Int32.sub_eq_add_neg, Int32.add_assoc, Int32.add_assoc, Int32.add_assoc]
    congr 1
    rw [← Int32.add_assoc, ← Int32.add_assoc, Int32.add_comm (f n)]
theorem sumI_add (f g : FI) : ∀ n, sumI (fun i => f i + g i) n = sumI f n + sumI g n
  | 0 => (Int32.add_zero (0 : Int32)).symm
  | n + 1 => by
    show sumI (fun i => f i + g i) n + (f n + g n) = sumI f n + f n + (sumI g n + g n)
    rw [sumI_add f g n, Int32.add_assoc, Int32.add_assoc]
    congr 1
    rw [← Int32.add_assoc, ← Int32.add_assoc, Int32.add_comm (f n)]
theorem sumI_pick {i n : Nat} (hi : i < n) (hn : n ≤ 8) (c : Int32) : sumI (fun j => if nI i = nI j then c else 0) n = c := by
  rw [sumI_one (g := fun _ => 0) hi (fun j hj hne => if_neg (fun q => hne ((nI_eq9 (by omega) (by omega)).mp q).symm))]
  rw [sumI_zero (fun _ _ => rfl), if_pos rfl, Int32.sub_self, Int32.zero_add]
theorem sum_chg {np e i j : Nat} {rw : FI} (hn : np ≤ 8) (hi : i < np) (hj : j < np) (h0 : rw (e * 7 + 0) = nI i) (h1 : rw (e * 7 + 1) = nI j) : sumI (fun q => chgJ rw (nI q) e) np = 0 := by
  have : (fun q => chgJ rw (nI q) e) = (fun q => (if nI j = nI q then rw (e * 7 + 2) else 0) - (if nI i = nI q then rw (e * 7 + 2) else 0)) := by
    funext q
    unfold chgJ
    rw [h0, h1]
  rw [this, sumI_sub (fun q => if nI j = nI q then rw (e * 7 + 2) else 0) (fun q => if nI i = nI q then rw (e * 7 + 2) else 0), sumI_pick hj hn, sumI_pick hi hn, Int32.sub_self]
theorem sum_bkd {np nb : Nat} {rw : FI} (h1 : 1 ≤ np) (hn : np ≤ 8) : ∀ n, (∀ e, e < n → (∃ i, i < np ∧ rw (e * 7 + 0) = nI i) ∧ ∃ j, j < np ∧ rw (e * 7 + 1) = nI j) → sumI (fun q => bkd nb rw (nI q) n) np = nI nb
  | 0, _ => by
    rw [sumI_congr (g := fun q => if nI 0 = nI q then nI nb else 0) (fun q hq => by
      show opn nb (nI q) + 0 = _
      rw [Int32.add_zero]
      unfold opn
      by_cases e : nI q = 0
      · rw [if_pos e, if_pos (show nI 0 = nI q from e.symm)]
      · rw [if_neg e, if_neg (show ¬ nI 0 = nI q from fun z => e z.symm)])]
    exact sumI_pick (by omega) hn _
  | n + 1, h => by
    rw [sumI_congr (g := fun q => bkd nb rw (nI q) n + chgJ rw (nI q) n) (fun q hq => bkd_succ nb rw (nI q) n), sumI_add (fun q => bkd nb rw (nI q) n) (fun q => chgJ rw (nI q) n), sum_bkd h1 hn n (fun e he => h e (by omega))]
    obtain ⟨⟨i, i1, i2⟩, j, j1, j2⟩ := h n (by omega)
    rw [sum_chg hn i1 j1 i2 j2, Int32.add_zero]
theorem sum_cnt {np : Nat} {pl : FI} (hn : np ≤ 8) : ∀ n, (∀ d, d < n → ∃ j, j < np ∧ pl d = nI j) → sumI (fun q => nI (cnt pl (nI q) n)) np = nI n
  | 0, _ => sumI_zero (fun _ _ => rfl)
  | n + 1, h => by
    obtain ⟨j, j1, j2⟩ := h n (by omega)
    rw [sumI_congr (g := fun q => nI (cnt pl (nI q) n) + (if nI j = nI q then nI 1 else 0)) (fun q hq => by
      show nI (cnt pl (nI q) n + (if pl n = nI q then 1 else 0)) = _
      rw [j2]
      by_cases e : nI j = nI q
      · rw [if_pos e, if_pos e, nI_add]
      · rw [if_neg e, if_neg e, Int32.add_zero, Nat.add_zero]), sumI_add (fun q => nI (cnt pl (nI q) n)) (fun q => if nI j = nI q then nI 1 else 0), sum_cnt hn n (fun d hd => h d (by omega)), sumI_pick j1 hn, nI_add]
theorem pos_sum {f : FI} : ∀ n, n ≤ 8 → (∀ q, q < n → 0 ≤ (f q).toInt ∧ (f q).toInt ≤ 100000) → 0 ≤ (sumI f n).toInt ∧ (sumI f n).toInt ≤ 100000 * n ∧ ∀ q, q < n → (f q).toInt ≤ (sumI f n).toInt
  | 0, _, _ => ⟨Int.le_refl _, Int.le_refl _, fun q hq => absurd hq (Nat.not_lt_zero _)⟩
  | n + 1, hn, h => by
    obtain ⟨a1, a2, a3⟩ := pos_sum (f := f) n (by omega) (fun q hq => h q (by omega))
    obtain ⟨b1, b2⟩ := h n (by omega)
    have e : (sumI f (n + 1)).toInt = (sumI f n).toInt + (f n).toInt := i32_add (a := sumI f n) (b := f n) (by omega) (by omega)
    refine ⟨by omega, by omega, fun q hq => ?_⟩
    by_cases q9 : q = n
    · rw [q9]; omega
    · have := a3 q (by omega); omega
theorem i32_negI {d : Int32} (h : -100000 ≤ d.toInt) (h2 : d.toInt ≤ 100000) : (-d).toInt = - d.toInt := by
  rw [Int32.toInt_neg]
  exact Int.bmod_eq_of_le_mul_two (by omega) (by omega)
theorem fstG_no {P : Nat → Bool} : ∀ {g j : Nat}, fstG P g j = none → ∀ i, j ≤ i → i < j + g → P i = false
  | 0, _, _, i, h1, h2 => by omega
  | g + 1, j, h, i, h1, h2 => by
    unfold fstG at h
    by_cases q : P j = true
    · rw [if_pos q] at h; cases h
    · rw [if_neg q] at h
      by_cases e : i = j
      · rw [e]; exact Bool.eq_false_iff.mpr q
      · exact fstG_no h i (by omega) (by omega)
theorem fstG_yes {P : Nat → Bool} {g j i : Nat} (h1 : j ≤ i) (h2 : i < j + g) (h : P i = true) : ∃ o, fstG P g j = some o := by
  cases q : fstG P g j with
  | none => rw [fstG_no q i h1 h2] at h; cases h
  | some o => exact ⟨o, rfl⟩
/-- bits of entries from n on are off -/
def bkZ (bk : Nat → Int64) (n : Nat) : Nat → Int64 := fun i => if i < n * 4 then bk i else 0
theorem blk_bkZ {bk : Nat → Int64} {n e d : Nat} (hd : d < 200) : blk (bkZ bk n) e d = (decide (e < n) && blk bk e d) := by
  unfold blk bkZ
  by_cases q : e < n
  · rw [if_pos (by omega), decide_eq_true q, Bool.true_and]
  · rw [if_neg (by omega), decide_eq_false q, Bool.false_and]
    unfold testL
    simp
def nzB (nb : Nat) (pl rw : FI) (ne j : Nat) : Bool := decide (¬ dif nb pl rw ne j = 0)
section
variable {Γ : GE} {h : AH} {Q : PO} {m a np nb ne nh nc y : Nat} {R : FI} {qu ra le ln pl tm rw hw cw pk : FI} {re : Nat → UInt32} {bk bk2 : Nat → Int64} {t x z w v th tl at' bg er ea lr cm : Int32}
theorem dif_bnd (hI : Inv np qu ra re le ln nb pl tm ne rw bk nh hw nc cw t y) {j : Nat} (hj : j < np) : (dif nb pl rw ne j).toInt = (bkd nb rw (nI j) ne).toInt - cnt pl (nI j) nb ∧ -100000 ≤ (dif nb pl rw ne j).toInt ∧ (dif nb pl rw ne j).toInt ≤ 100000 := by
  obtain ⟨⟨s1, s2, s3, s4, s5, s6, s7, s8, tn, s9, s10⟩, IM, IP, IJ, IR, IC⟩ := hI
  obtain ⟨b1, b2⟩ := IJ.2.2 j hj
  have hc := cnt_le pl (nI j) nb
  have e : (dif nb pl rw ne j).toInt = (bkd nb rw (nI j) ne).toInt - (nI (cnt pl (nI j) nb)).toInt := i32_sub (by rw [nI_toInt (by omega)]; omega) (by rw [nI_toInt (by omega)]; omega)
  rw [nI_toInt (by omega)] at e
  exact ⟨e, by omega, by omega⟩
theorem dif_sum (hI : Inv np qu ra re le ln nb pl tm ne rw bk nh hw nc cw t y) : sumI (fun q => dif nb pl rw ne q) np = 0 := by
  obtain ⟨⟨s1, s2, s3, s4, s5, s6, s7, s8, tn, s9, s10⟩, IM, IP, IJ, IR, IC⟩ := hI
  show sumI (fun q => bkd nb rw (nI q) ne - nI (cnt pl (nI q) nb)) np = 0
  rw [sumI_sub (fun q => bkd nb rw (nI q) ne) (fun q => nI (cnt pl (nI q) nb)), sum_bkd s1 s2 ne (fun e he => ⟨(IJ.1 e he).1, (IJ.1 e he).2.1⟩), sum_cnt s2 nb (fun d hd => (IM d hd).1), Int32.sub_self]
theorem pos_iff {d : Int32} : 0 < d * nI 1 ↔ 0 < d.toInt := by
  rw [show d * nI 1 = d from Int32.mul_one d, Int32.lt_iff_toInt_lt]
  exact Iff.rfl
theorem neg_iff {d : Int32} (h : -100000 ≤ d.toInt) (h2 : d.toInt ≤ 100000) : 0 < d * (-1) ↔ d.toInt < 0 := by
  rw [show d * (-1) = - d by rw [Int32.mul_neg, Int32.mul_one], Int32.lt_iff_toInt_lt, i32_negI h h2]
  show (0 : Int) < _ ↔ _
  omega
theorem pos_some {f : Nat} (h : posO nb pl rw ne np (nI 1) = some f) : f < np ∧ 0 < (dif nb pl rw ne f).toInt := by
  obtain ⟨_, a, b⟩ := fstG_some h
  exact ⟨by omega, pos_iff.mp (of_decide_eq_true b)⟩
theorem neg_some (hI : Inv np qu ra re le ln nb pl tm ne rw bk nh hw nc cw t y) {o : Nat} (h : posO nb pl rw ne np (-1) = some o) : o < np ∧ (dif nb pl rw ne o).toInt < 0 := by
  obtain ⟨_, a, b⟩ := fstG_some h
  have hb := dif_bnd hI (j := o) (by omega)
  exact ⟨by omega, (neg_iff hb.2.1 hb.2.2).mp (of_decide_eq_true b)⟩
theorem neg_ex (hI : Inv np qu ra re le ln nb pl tm ne rw bk nh hw nc cw t y) {f : Nat} (h : posO nb pl rw ne np (nI 1) = some f) : ∃ o, posO nb pl rw ne np (-1) = some o := by
  obtain ⟨hf, hp⟩ := pos_some h
  cases q : posO nb pl rw ne np (-1) with
  | some o => exact ⟨o, rfl⟩
  | none =>
    have hn := hI.1.2.1
    have a := pos_sum (f := fun q => dif nb pl rw ne q) np hn (fun j hj => by
      have hb := dif_bnd hI hj
      have := of_decide_eq_false (fstG_no q j (Nat.zero_le _) (by omega))
      rw [neg_iff hb.2.1 hb.2.2] at this
      exact ⟨by omega, hb.2.2⟩)
    rw [dif_sum hI] at a
    have := a.2.2 f hf
    have z0 : (0 : Int32).toInt = 0 := rfl
    omega
theorem dif_step {f o : Nat} {c d g l : Int32} (j : Nat) : dif nb pl (upd7 rw ne (nI f) (nI o) c d t g l) (ne + 1) j = dif nb pl rw ne j + ((if nI o = nI j then c else 0) - (if nI f = nI j then c else 0)) := by
  unfold dif
  rw [bkd_upd7, i32_sw]
theorem adjC_val (hI : Inv np qu ra re le ln nb pl tm ne rw bk nh hw nc cw t y) {f o : Nat} (hf : f < np ∧ 0 < (dif nb pl rw ne f).toInt) (ho : o < np ∧ (dif nb pl rw ne o).toInt < 0) : 0 < (adjC nb pl rw ne f o).toInt ∧ (adjC nb pl rw ne f o).toInt ≤ (dif nb pl rw ne f).toInt ∧ (adjC nb pl rw ne f o).toInt ≤ - (dif nb pl rw ne o).toInt ∧ (adjC nb pl rw ne f o = dif nb pl rw ne f ∨ adjC nb pl rw ne f o = - dif nb pl rw ne o) := by
  have bf := dif_bnd hI hf.1
  have bo := dif_bnd hI ho.1
  have en := i32_negI bo.2.1 bo.2.2
  unfold adjC
  by_cases q : - dif nb pl rw ne o < dif nb pl rw ne f
  · rw [if_pos q, en]
    rw [Int32.lt_iff_toInt_lt, en] at q
    exact ⟨by omega, by omega, by omega, Or.inr rfl⟩
  · rw [if_neg q]
    rw [Int32.lt_iff_toInt_lt, en] at q
    exact ⟨by omega, by omega, by omega, Or.inl rfl⟩
theorem Inv.adj (hI : Inv np qu ra re le ln nb pl tm ne rw bk nh hw nc cw t y) {f o : Nat} (hf : f < np ∧ 0 < (dif nb pl rw ne f).toInt) (ho : o < np ∧ (dif nb pl rw ne o).toInt < 0) (he : ne < 300) (hb : ∀ d, d < 200 → blk bk ne d = false) : Inv np qu ra re le ln nb pl tm (ne + 1) (upd7 rw ne (nI f) (nI o) (adjC nb pl rw ne f o) 0 t (nI 2) (-1)) bk nh hw nc cw t y := by
  have hI0 := hI
  have av := adjC_val hI hf ho
  have ht := hI.1.t0
  obtain ⟨⟨s1, s2, s3, s4, s5, s6, s7, s8, tn, s9, s10⟩, IM, IP, IJ, IR, IC⟩ := hI
  obtain ⟨u0, u1, u2, u3, u4, u5, u6⟩ := upd7_at rw ne (nI f) (nI o) (adjC nb pl rw ne f o) 0 t (nI 2) (-1)
  have lt : ∀ e q, e < ne → q < 7 → upd7 rw ne (nI f) (nI o) (adjC nb pl rw ne f o) 0 t (nI 2) (-1) (e * 7 + q) = rw (e * 7 + q) := fun e q he hq => upd7_lt _ _ _ _ _ _ _ _ (by omega)
  refine ⟨⟨s1, s2, s3, s4, by omega, s6, s7, s8, tn, s9, s10⟩, IM, IP, ⟨fun e he1 => ?_, fun e e' h1 h2 => ?_, fun q hq => ?_⟩, IR, IC.more⟩
  · by_cases c : e = ne
    · subst c
      refine ⟨⟨f, hf.1, u0⟩, ⟨o, ho.1, u1⟩, by rw [u4]; exact ht, by rw [u4]; exact Int32.le_refl _, fun z => ?_, fun d hd hq => ?_⟩
      · rw [u5] at z; exact absurd z (by decide)
      · rw [hb d hd] at hq; cases hq
    · have hlt : e < ne := by omega
      rw [lt e 0 hlt (by omega), lt e 1 hlt (by omega), lt e 4 hlt (by omega), lt e 5 hlt (by omega), lt e 2 hlt (by omega)]
      exact IJ.1 e hlt
  · by_cases c : e' = ne
    · subst c
      rw [u4]
      by_cases c2 : e = e'
      · subst c2; rw [u4]; exact Int32.le_refl _
      · rw [lt e 4 (by omega) (by omega)]
        exact (IJ.1 e (by omega)).2.2.2.1
    · rw [lt e 4 (by omega) (by omega), lt e' 4 (by omega) (by omega)]
      exact IJ.2.1 e e' h1 (by omega)
  · obtain ⟨b1, b2⟩ := IJ.2.2 q hq
    have hfo : ¬ f = o := fun z => by rw [z] at hf; omega
    have bf := dif_bnd hI0 hf.1
    have bo := dif_bnd hI0 ho.1
    have cf := cnt_le pl (nI f) nb
    have co := cnt_le pl (nI o) nb
    rw [bkd_upd7]
    by_cases e1 : q = o
    · subst e1
      rw [if_pos rfl, if_neg (fun z => hfo ((nI_eq9 (by omega) (by omega)).mp z)), Int32.sub_zero, i32_add (by omega) (by omega)]
      omega
    · by_cases e2 : q = f
      · subst e2
        rw [if_neg (fun z => e1 ((nI_eq9 (by omega) (by omega)).mp z).symm), if_pos rfl, Int32.zero_sub, ← Int32.sub_eq_add_neg, i32_sub (by omega) (by omega)]
        omega
      · rw [if_neg (fun z => e1 ((nI_eq9 (by omega) (by omega)).mp z).symm), if_neg (fun z => e2 ((nI_eq9 (by omega) (by omega)).mp z).symm), Int32.sub_zero, Int32.add_zero]
        omega
theorem nz_less (hI : Inv np qu ra re le ln nb pl tm ne rw bk nh hw nc cw t y) {f o : Nat} (hf : f < np ∧ 0 < (dif nb pl rw ne f).toInt) (ho : o < np ∧ (dif nb pl rw ne o).toInt < 0) : cntB (nzB nb pl (upd7 rw ne (nI f) (nI o) (adjC nb pl rw ne f o) 0 t (nI 2) (-1)) (ne + 1)) np < cntB (nzB nb pl rw ne) np := by
  have av := adjC_val hI hf ho
  have hn := hI.1.2.1
  have hfo : ¬ f = o := fun z => by rw [z] at hf; omega
  have z0 : (0 : Int32).toInt = 0 := rfl
  have nf : nzB nb pl rw ne f = true := decide_eq_true (fun z => by rw [z] at hf; omega)
  have no : nzB nb pl rw ne o = true := decide_eq_true (fun z => by rw [z] at ho; omega)
  have ef : dif nb pl (upd7 rw ne (nI f) (nI o) (adjC nb pl rw ne f o) 0 t (nI 2) (-1)) (ne + 1) f = dif nb pl rw ne f - adjC nb pl rw ne f o := by
    rw [dif_step, if_neg (fun z => hfo ((nI_eq9 (by omega) (by omega)).mp z).symm), if_pos rfl, Int32.zero_sub, ← Int32.sub_eq_add_neg]
  have eo : dif nb pl (upd7 rw ne (nI f) (nI o) (adjC nb pl rw ne f o) 0 t (nI 2) (-1)) (ne + 1) o = dif nb pl rw ne o + adjC nb pl rw ne f o := by
    rw [dif_step, if_pos rfl, if_neg (fun z => hfo ((nI_eq9 (by omega) (by omega)).mp z)), Int32.sub_zero]
  have ea : ∀ j, j < np → ¬ j = f → ¬ j = o → dif nb pl (upd7 rw ne (nI f) (nI o) (adjC nb pl rw ne f o) 0 t (nI 2) (-1)) (ne + 1) j = dif nb pl rw ne j := fun j hj h1 h2 => by
    rw [dif_step, if_neg (fun z => h2 ((nI_eq9 (by omega) (by omega)).mp z).symm), if_neg (fun z => h1 ((nI_eq9 (by omega) (by omega)).mp z).symm), Int32.sub_zero, Int32.add_zero]
  have imp : ∀ j, j < np → nzB nb pl (upd7 rw ne (nI f) (nI o) (adjC nb pl rw ne f o) 0 t (nI 2) (-1)) (ne + 1) j = true → nzB nb pl rw ne j = true := by
    intro j hj h
    by_cases e1 : j = f
    · rw [e1]; exact nf
    · by_cases e2 : j = o
      · rw [e2]; exact no
      · unfold nzB at h
        rw [ea j hj e1 e2] at h
        exact h
  rcases av.2.2.2 with q | q
  · refine cntB_lt hf.1 imp nf (fun z => ?_)
    unfold nzB at z
    rw [ef, q, Int32.sub_self] at z
    exact absurd rfl (of_decide_eq_true z)
  · refine cntB_lt ho.1 imp no (fun z => ?_)
    unfold nzB at z
    rw [eo, q, ← Int32.sub_eq_add_neg, Int32.sub_self] at z
    exact absurd rfl (of_decide_eq_true z)
theorem Inv.congr {rw' : FI} (h : Inv np qu ra re le ln nb pl tm ne rw bk nh hw nc cw t y) (e1 : ∀ i, i < ne * 7 → rw' i = rw i) (e2 : ∀ e d, e < ne → d < 200 → blk bk2 e d = blk bk e d) : Inv np qu ra re le ln nb pl tm ne rw' bk2 nh hw nc cw t y := by
  obtain ⟨S, IM, IP, IJ, IR, IC⟩ := h
  refine ⟨S, IM, IP, ⟨fun e he => ?_, fun e e' h1 h2 => ?_, fun q hq => ?_⟩, IR, IC⟩
  · rw [e1 _ (by omega), e1 _ (by omega), e1 _ (by omega), e1 _ (by omega), e1 _ (by omega)]
    obtain ⟨a1, a2, a3, a4, a5, a6⟩ := IJ.1 e he
    exact ⟨a1, a2, a3, a4, a5, fun d hd hb => a6 d hd (by rw [← e2 e d he hd]; exact hb)⟩
  · rw [e1 _ (by omega), e1 _ (by omega)]
    exact IJ.2.1 e e' h1 h2
  · have : bkd nb rw' (nI q) ne = bkd nb rw (nI q) ne := by
      unfold bkd
      rw [sumI_congr (g := chgJ rw (nI q)) (fun e he => by unfold chgJ; rw [e1 _ (by omega), e1 _ (by omega), e1 _ (by omega)])]
    rw [this]
    exact IJ.2.2 q hq
theorem RowR.bkC {rw' : FI} (h : RowR R np qu ra re le ln nb pl tm ne rw bk nh hw nc cw t y) (e1 : ∀ i, i < ne * 7 → rw' i = rw i) (e2 : ∀ e d, e < ne → d < 200 → blk bk2 e d = blk bk e d) : RowR R np qu ra re le ln nb pl tm ne rw' bk2 nh hw nc cw t y := by
  obtain ⟨S, rM, rP, rJ, rH, rC⟩ := h
  exact ⟨S, rM, rP, fun e he => ⟨fun q hq => by rw [e1 _ (by omega)]; exact (rJ e he).1 q hq, fun d hd => by rw [e2 e d he hd]; exact (rJ e he).2 d hd⟩, rH, rC⟩
theorem RowR.adds {R' : FI} {i j c d g l : Int32} (h : RowR R np qu ra re le ln nb pl tm ne rw bk nh hw nc cw t y) (hS : InvS np nb ne nh nc y t) (he : ne < 300) (ha : addR R R' ne i j c d t g l) (hb : ∀ d, d < 200 → blk bk ne d = false) : RowR R' np qu ra re le ln nb pl tm (ne + 1) (upd7 rw ne i j c d t g l) bk nh hw nc cw t y := by
  obtain ⟨i1, i2, i3, i4, i5, i6, i7, i8, i9⟩ := hS
  obtain ⟨⟨r0, r1, r2, r3, r4, r5, r6⟩, rM, rP, rJ, rH, rC⟩ := h
  obtain ⟨z4, z0, z1, z2, z3, z5, z6, z7, z8, eo⟩ := ha
  obtain ⟨u0, u1, u2, u3, u4, u5, u6⟩ := upd7_at rw ne i j c d t g l
  refine ⟨⟨(eo 0 (by omega) (by omega)).trans r0, (eo 1 (by omega) (by omega)).trans r1, (eo 2 (by omega) (by omega)).trans r2, (eo 3 (by omega) (by omega)).trans r3, z4, (eo 5 (by omega) (by omega)).trans r5, (eo 6 (by omega) (by omega)).trans r6⟩, fun d hd => ⟨(eo _ (by omega) (by omega)).trans (rM d hd).1, (eo _ (by omega) (by omega)).trans (rM d hd).2⟩, fun j hj => ⟨(eo _ (by omega) (by omega)).trans (rP j hj).1, (eo _ (by omega) (by omega)).trans (rP j hj).2.1, fun i hi => (eo _ (by omega) (by omega)).trans ((rP j hj).2.2 i hi)⟩, fun e he1 => ⟨fun q hq => ?_, fun d hd => ?_⟩, fun r hr q hq => (eo _ (by omega) (by omega)).trans (rH r hr q hq), fun c hc => ⟨fun j hj => (eo _ (by omega) (by omega)).trans ((rC c hc).1 j hj), (eo _ (by omega) (by omega)).trans (rC c hc).2⟩⟩
  · by_cases e9 : e = ne
    · subst e9
      match q, hq with
      | 0, _ => rw [u0]; exact z0
      | 1, _ => rw [u1]; exact z1
      | 2, _ => rw [u2]; exact z2
      | 3, _ => rw [u3]; exact z3
      | 4, _ => rw [u4]; exact z5
      | 5, _ => rw [u5]; exact z6
      | 6, _ => rw [u6]; exact z7
    · rw [upd7_lt _ _ _ _ _ _ _ _ (by omega), eo _ (by omega) (by omega)]
      exact (rJ e (by omega)).1 q hq
  · by_cases e9 : e = ne
    · subst e9
      rw [hb d hd, show 471 + 14 * e + (7 + d / 32) = 471 + 14 * e + 7 + d / 32 by omega, z8 _ (by omega), testI_zero]
    · rw [eo _ (by omega) (by omega)]
      exact (rJ e (by omega)).2 d hd
end
