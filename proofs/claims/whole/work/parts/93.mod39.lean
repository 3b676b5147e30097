/-! ===== what holds of what is read ===== -/

section
variable {Γ : GE} {h : AH} {Q : PO} {m a len b s0 np nb ne nh nc y : Nat} {bs B R qu ra le ln pl tm rw hw cw pk : FI} {re : Nat → UInt32} {bk : Nat → Int64} {t x z w th bg er ea lr cm : Int32}
theorem Inv.pool {s l u v : Nat} (h : Inv np qu ra re le ln nb pl tm ne rw bk 0 hw 0 cw t y) (hn : np < 8) (h1 : 1 ≤ l) (h6 : l ≤ 6) (hu : u ≤ 200) (hv : v ≤ 9999) (hw9 : ∀ i, s ≤ i → i < s + l → isAl (bs i) = true) : Inv (np + 1) (upd qu np (nI u)) (upd ra np (nI v)) (vf_upd re np FP.fconst0) (opnL le bs np s l) (upd ln np (nI l)) nb pl tm ne rw bk 0 hw 0 cw t y := by
  obtain ⟨⟨s1, s2, s3, s4, s5, s6, s7, s8, s9⟩, IM, IP, ⟨J1, J2, J3⟩, IR, IC⟩ := h
  refine ⟨⟨by omega, by omega, s3, s4, s5, s6, s7, s8, s9⟩, fun d hd => ?_, fun j hj => ?_, ⟨fun e he => ?_, J2, fun q hq => ?_⟩, fun r hr => absurd hr (Nat.not_lt_zero _), IC⟩
  · obtain ⟨⟨j, j1, j2⟩, a⟩ := IM d hd
    exact ⟨⟨j, by omega, j2⟩, a⟩
  · by_cases e : j = np
    · subst e
      refine ⟨?_, ⟨v, hv, if_pos rfl⟩, ⟨u, hu, if_pos rfl⟩, l, h1, h6, if_pos rfl, fun i hi => ?_⟩
      · rw [show vf_upd re j FP.fconst0 j = FP.fconst0 from if_pos rfl]; exact ff_zero.pf
      · unfold opnL
        rw [if_pos (by omega)]
        exact hw9 _ (by omega) (by omega)
    · obtain ⟨p1, ⟨v2, v3, v4⟩, ⟨u2, u3, u4⟩, l2, l3, l4, l5, l6⟩ := IP j (by omega)
      refine ⟨?_, ⟨v2, v3, (if_neg e).trans v4⟩, ⟨u2, u3, (if_neg e).trans u4⟩, l2, l3, l4, (if_neg e).trans l5, fun i hi => ?_⟩
      · rw [show vf_upd re np FP.fconst0 j = re j from if_neg e]; exact p1
      · unfold opnL
        rw [if_neg (show ¬ (np * 6 ≤ j * 6 + i ∧ j * 6 + i < np * 6 + min l 6) by omega)]
        exact l6 i hi
  · obtain ⟨⟨i, i1, i2⟩, ⟨j, j1, j2⟩, a⟩ := J1 e he
    exact ⟨⟨i, by omega, i2⟩, ⟨j, by omega, j2⟩, a⟩
  · by_cases e : q = np
    · subst e
      have z : bkd nb rw (nI q) ne = 0 := by
        unfold bkd
        rw [sumI_zero (fun e he => by
          obtain ⟨⟨i, i1, i2⟩, ⟨j, j1, j2⟩, _⟩ := J1 e he
          unfold chgJ
          rw [i2, j2, if_neg (fun w => by have := (nI_eq9 (by omega) (by omega)).mp w; omega), if_neg (fun w => by have := (nI_eq9 (by omega) (by omega)).mp w; omega), Int32.sub_self]), Int32.add_zero]
        unfold opn
        exact if_neg (fun w => by have := (nI_eq9 (b := 0) (by omega) (by omega)).mp w; omega)
      rw [z]
      show -(200 * ((ne : Int) + 1)) ≤ 0 ∧ (0 : Int) ≤ 200 * ((ne : Int) + 1)
      omega
    · exact J3 q (by omega)
theorem beg_row {v : Nat} {K : KL} (hR : begRow R (nI v)) (h1 : 1 ≤ v) (h2 : v ≤ 200) (hK : BegOk v K) : RowK R K ∧ InvK K ∧ K.1.2.2.2.1 0 = FP.fconst0 ∧ K.1.1 = 1 := by
  obtain ⟨e0, e1, e7, e9, e10, e11, e12, ez⟩ := hR
  obtain ⟨qu, ra, re, le, ln, rw, bk, hw, cw, fn, pl, tm, n0, n1, n2, n3, hp, rfl⟩ := hK
  have ez : ∀ u, u < 5061 → (u < 407 ∨ 412 < u ∨ u = 408) → ¬ u = 0 → ¬ u = 1 → R u = 0 := fun u h1 h2 h3 h4 => ez u h1 h3 h4 (by omega) (by omega) (by omega) (by omega) (by omega)
  have op : ∀ i, i < 4 → opnL le fn 0 0 4 (0 * 6 + i) = fn i := fun i hi => by
    unfold opnL
    rw [if_pos (by omega)]
    congr 1
    omega
  refine ⟨⟨⟨e0, e1, ez 2 (by omega) (by omega) (by omega) (by omega), ez 3 (by omega) (by omega) (by omega) (by omega), ez 4 (by omega) (by omega) (by omega) (by omega), ez 5 (by omega) (by omega) (by omega) (by omega), ez 6 (by omega) (by omega) (by omega) (by omega)⟩, fun d hd => ?_, fun j hj => ?_, fun e he => absurd he (Nat.not_lt_zero _), fun r hr => absurd hr (Nat.not_lt_zero _), fun c hc => absurd hc (Nat.not_lt_zero _)⟩, ⟨⟨Nat.le_refl _, (show (1 : Nat) ≤ 8 by omega), h1, h2, (show (0 : Nat) ≤ 300 by omega), (show (0 : Nat) ≤ 60 by omega), (show (0 : Nat) ≤ 10 by omega), (show (0 : Nat) ≤ 3 by omega), 0, by omega, rfl⟩, fun d hd => ?_, fun j hj => ?_, ⟨fun e he => absurd he (Nat.not_lt_zero _), fun e e' _ he => absurd he (Nat.not_lt_zero _), fun q hq => ?_⟩, fun r hr => absurd hr (Nat.not_lt_zero _), fun c hc => absurd hc (Nat.not_lt_zero _), fun c d m n _ hd => absurd hd (Nat.not_lt_zero _)⟩, (show vf_upd re 0 FP.fconst0 0 = FP.fconst0 from if_pos rfl), rfl⟩
  · have hd : d < v := hd
    rw [ez (7 + d) (by omega) (by omega) (by omega) (by omega), ez (207 + d) (by omega) (by omega) (by omega) (by omega)]
    exact ⟨(hp d (by omega)).1.symm, (hp d (by omega)).2.symm⟩
  · have hj : j < 1 := hj
    obtain rfl : j = 0 := by omega
    refine ⟨e7, ez 408 (by omega) (by omega) (by omega) (by omega), fun i hi => ?_⟩
    show R (409 + i) = if nI i < nI 4 then opnL le fn 0 0 4 (0 * 6 + i) else 0
    by_cases q : i < 4
    · rw [if_pos ((nI_lt9 (by omega) (by omega)).mpr q), op i q]
      match i, q with
      | 0, _ => exact e9.trans n0.symm
      | 1, _ => exact e10.trans n1.symm
      | 2, _ => exact e11.trans n2.symm
      | 3, _ => exact e12.trans n3.symm
    · rw [if_neg (fun z => q ((nI_lt9 (by omega) (by omega)).mp z))]
      exact ez _ (by omega) (by omega) (by omega) (by omega)
  · have hd : d < v := hd
    refine ⟨⟨0, (show 0 < 1 by omega), (hp d (by omega)).1⟩, ?_⟩
    show (0 : Int32) ≤ tm d
    rw [(hp d (by omega)).2]
    exact Int32.le_refl _
  · have hj : j < 1 := hj
    obtain rfl : j = 0 := by omega
    refine ⟨?_, ⟨0, by omega, show upd ra 0 0 0 = nI 0 from if_pos rfl⟩, ⟨v, h2, show upd qu 0 (nI v) 0 = nI v from if_pos rfl⟩, 4, by omega, by omega, show upd ln 0 (nI 4) 0 = nI 4 from if_pos rfl, fun i hi => ?_⟩
    · show PF (vf_upd re 0 FP.fconst0 0)
      rw [show vf_upd re 0 FP.fconst0 0 = FP.fconst0 from if_pos rfl]; exact ff_zero.pf
    · show isAl (opnL le fn 0 0 4 (0 * 6 + i)) = true
      rw [op i hi]
      match i, hi with
      | 0, _ => rw [n0]; decide
      | 1, _ => rw [n1]; decide
      | 2, _ => rw [n2]; decide
      | 3, _ => rw [n3]; decide
  · have hq : q < 1 := hq
    obtain rfl : q = 0 := by omega
    have e : bkd v rw (nI 0) 0 = nI v := Int32.add_zero _
    show -(200 * (((0 : Nat) : Int) + 1)) ≤ (bkd v rw (nI 0) 0).toInt ∧ (bkd v rw (nI 0) 0).toInt ≤ 200 * (((0 : Nat) : Int) + 1)
    rw [e, nI_toInt (by omega)]
    omega
end
