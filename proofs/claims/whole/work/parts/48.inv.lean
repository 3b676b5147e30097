/-! ===== what always holds of a ledger ===== -/
def InvS (np nb ne nh nc y : Nat) (t : Int32) : Prop := 1 ≤ np ∧ np ≤ 8 ∧ 1 ≤ nb ∧ nb ≤ 200 ∧ ne ≤ 300 ∧ nh ≤ 60 ∧ nc ≤ 10 ∧ y ≤ 3 ∧ ∃ tn, tn ≤ 1000000 ∧ t = nI tn
def InvM (np nb : Nat) (pl tm : FI) : Prop := ∀ d, d < nb → (∃ j, j < np ∧ pl d = nI j) ∧ 0 ≤ tm d
def InvP (np : Nat) (qu ra : FI) (re : Nat → UInt32) (le ln : FI) : Prop := ∀ j, j < np → PF (re j) ∧ (∃ r, r ≤ 9999 ∧ ra j = nI r) ∧ (∃ q, q ≤ 200 ∧ qu j = nI q) ∧ ∃ m, 1 ≤ m ∧ m ≤ 6 ∧ ln j = nI m ∧ ∀ i, i < m → isAl (le (j * 6 + i)) = true
def InvJ (np nb ne : Nat) (rw : FI) (bk : Nat → Int64) (t : Int32) : Prop := (∀ e, e < ne → (∃ i, i < np ∧ rw (e * 7 + 0) = nI i) ∧ (∃ j, j < np ∧ rw (e * 7 + 1) = nI j) ∧ 0 ≤ rw (e * 7 + 4) ∧ rw (e * 7 + 4) ≤ t ∧ (rw (e * 7 + 5) = 0 → ∃ c, c ≤ 200 ∧ rw (e * 7 + 2) = nI c) ∧ ∀ d, d < 200 → blk bk e d = true → d < nb) ∧ (∀ e e', e ≤ e' → e' < ne → rw (e * 7 + 4) ≤ rw (e' * 7 + 4)) ∧ ∀ j, j < np → -(200 * ((ne : Int) + 1)) ≤ (bkd nb rw (nI j) ne).toInt ∧ (bkd nb rw (nI j) ne).toInt ≤ 200 * ((ne : Int) + 1)
def InvR (np nh : Nat) (hw : FI) : Prop := ∀ r, r < nh → (∃ i, i < np ∧ hw (r * 5 + 0) = nI i) ∧ (∃ j, j < np ∧ hw (r * 5 + 1) = nI j) ∧ ∃ m, 1 ≤ m ∧ m ≤ 200 ∧ hw (r * 5 + 2) = nI m
def InvC (ne nc : Nat) (cw : FI) : Prop := (∀ c, c < nc → ∃ m, m ≤ ne ∧ cw (c * 9 + 8) = nI m) ∧ ∀ c d m n, c ≤ d → d < nc → cw (c * 9 + 8) = nI m → cw (d * 9 + 8) = nI n → m ≤ 300 → n ≤ 300 → m ≤ n
def Inv (np : Nat) (qu ra : FI) (re : Nat → UInt32) (le ln : FI) (nb : Nat) (pl tm : FI) (ne : Nat) (rw : FI) (bk : Nat → Int64) (nh : Nat) (hw : FI) (nc : Nat) (cw : FI) (t : Int32) (y : Nat) : Prop := InvS np nb ne nh nc y t ∧ InvM np nb pl tm ∧ InvP np qu ra re le ln ∧ InvJ np nb ne rw bk t ∧ InvR np nh hw ∧ InvC ne nc cw
def InvK (K : KL) : Prop := Inv K.1.1 K.1.2.1 K.1.2.2.1 K.1.2.2.2.1 K.1.2.2.2.2.1 K.1.2.2.2.2.2 K.2.1.1 K.2.1.2.1 K.2.1.2.2 K.2.2.1.1 K.2.2.1.2.1 K.2.2.1.2.2 K.2.2.2.1.1 K.2.2.2.1.2 K.2.2.2.2.1.1 K.2.2.2.2.1.2 K.2.2.2.2.2.1 K.2.2.2.2.2.2
theorem i32_add {a b : Int32} (h1 : -2147483648 ≤ a.toInt + b.toInt) (h2 : a.toInt + b.toInt < 2147483648) : (a + b).toInt = a.toInt + b.toInt := by
  rw [Int32.toInt_add]
  exact Int.bmod_eq_of_le_mul_two (by omega) (by omega)
theorem i32_sub {a b : Int32} (h1 : -2147483648 ≤ a.toInt - b.toInt) (h2 : a.toInt - b.toInt < 2147483648) : (a - b).toInt = a.toInt - b.toInt := by
  rw [Int32.toInt_sub]
  exact Int.bmod_eq_of_le_mul_two (by omega) (by omega)
theorem nI_ge0 (n : Nat) (h : n < 2147483648) : (0 : Int32) ≤ nI n := (nI_le9 (a := 0) (by omega) h).mpr (Nat.zero_le _)
section
variable {b np nb ne nh nc y : Nat} {qu ra le ln pl tm rw hw cw pk : FI} {re : Nat → UInt32} {bk bk' : Nat → Int64} {t : Int32}
theorem InvJ.book {i j m : Nat} {d g : Int32} (h : InvJ np nb ne rw bk t) (hi : i < np) (hj : j < np) (hp : np ≤ 8) (hm : m ≤ 200) (he : ne < 300) (ht : 0 ≤ t) (hb : bokB bk bk' ne pk) (hpk : ∀ d, d < 200 → ¬ pk d = 0 → d < nb) : InvJ np nb (ne + 1) (upd7 rw ne (nI i) (nI j) (nI m) d t g (-1)) bk' t := by
  obtain ⟨h1, h2, h3⟩ := h
  obtain ⟨u0, u1, u2, u3, u4, u5, u6⟩ := upd7_at rw ne (nI i) (nI j) (nI m) d t g (-1)
  have lt : ∀ e q, e < ne → q < 7 → upd7 rw ne (nI i) (nI j) (nI m) d t g (-1) (e * 7 + q) = rw (e * 7 + q) := fun e q he hq => upd7_lt _ _ _ _ _ _ _ _ (by omega)
  refine ⟨fun e he1 => ?_, fun e e' he1 he2 => ?_, fun q hq => ?_⟩
  · by_cases c : e = ne
    · subst c
      refine ⟨⟨i, hi, u0⟩, ⟨j, hj, u1⟩, by rw [u4]; exact ht, by rw [u4]; exact Int32.le_refl _, fun _ => ⟨m, hm, u2⟩, fun d hd hq => ?_⟩
      rw [hb e d (Nat.le_refl _) hd, if_pos rfl] at hq
      exact hpk d hd (of_decide_eq_true hq)
    · have hlt : e < ne := by omega
      obtain ⟨a1, a2, a3, a4, a5, a6⟩ := h1 e hlt
      rw [lt e 0 hlt (by omega), lt e 1 hlt (by omega), lt e 4 hlt (by omega), lt e 5 hlt (by omega), lt e 2 hlt (by omega)]
      refine ⟨a1, a2, a3, a4, a5, fun d hd hq => ?_⟩
      rw [hb e d (by omega) hd, if_neg c] at hq
      exact a6 d hd hq
  · by_cases c : e' = ne
    · subst c
      rw [u4]
      by_cases c2 : e = e'
      · subst c2; rw [u4]; exact Int32.le_refl _
      · rw [lt e 4 (by omega) (by omega)]
        exact (h1 e (by omega)).2.2.2.1
    · rw [lt e 4 (by omega) (by omega), lt e' 4 (by omega) (by omega)]
      exact h2 e e' he1 (by omega)
  · obtain ⟨b1, b2⟩ := h3 q hq
    rw [bkd_upd7]
    have em : (nI m).toInt = m := nI_toInt (by omega)
    have z0 : (0 : Int32).toInt = 0 := rfl
    have key : ∀ s : Int32, -200 ≤ s.toInt → s.toInt ≤ 200 → -(200 * (((ne + 1 : Nat) : Int) + 1)) ≤ (bkd nb rw (nI q) ne + s).toInt ∧ (bkd nb rw (nI q) ne + s).toInt ≤ 200 * (((ne + 1 : Nat) : Int) + 1) := by
      intro s s1 s2
      rw [i32_add (by omega) (by omega)]
      omega
    have k2 : ∀ u v : Int32, 0 ≤ u.toInt → u.toInt ≤ 200 → 0 ≤ v.toInt → v.toInt ≤ 200 → -200 ≤ (u - v).toInt ∧ (u - v).toInt ≤ 200 := by
      intro u v u1 u2 v1 v2
      rw [i32_sub (by omega) (by omega)]
      omega
    have k3 : ∀ P : Prop, ∀ [Decidable P], 0 ≤ (if P then nI m else (0 : Int32)).toInt ∧ (if P then nI m else (0 : Int32)).toInt ≤ 200 := by
      intro P _
      split
      · rw [em]; omega
      · rw [z0]; omega
    obtain ⟨c1, c2⟩ := k2 _ _ (k3 (nI j = nI q)).1 (k3 (nI j = nI q)).2 (k3 (nI i = nI q)).1 (k3 (nI i = nI q)).2
    exact key _ c1 c2
theorem InvM.put {j : Nat} (h : InvM np nb pl tm) (hj : j < np) (ht : 0 ≤ t) : InvM np nb (putF pl nb pk (nI j)) (putF tm nb pk t) := by
  intro d hd
  unfold putF
  obtain ⟨a1, a2⟩ := h d hd
  constructor
  · split
    · exact ⟨j, hj, rfl⟩
    · exact a1
  · split
    · exact ht
    · exact a2
theorem InvC.more (h : InvC ne nc cw) : InvC (ne + 1) nc cw := ⟨fun c hc => by obtain ⟨m, a, b⟩ := h.1 c hc; exact ⟨m, by omega, b⟩, h.2⟩
theorem InvS.t0 (h : InvS np nb ne nh nc y t) : 0 ≤ t := by
  obtain ⟨_, _, _, _, _, _, _, _, tn, a, rfl⟩ := h
  exact nI_ge0 tn (by omega)
theorem Inv.book {i j m : Nat} {d g : Int32} (h : Inv np qu ra re le ln nb pl tm ne rw bk nh hw nc cw t y) (hi : i < np) (hj : j < np) (hm : m ≤ 200) (he : ne < 300) (hb : bokB bk bk' ne pk) (hpk : ∀ d, d < 200 → ¬ pk d = 0 → d < nb) : Inv np qu ra re le ln nb (putF pl nb pk (nI j)) (putF tm nb pk t) (ne + 1) (upd7 rw ne (nI i) (nI j) (nI m) d t g (-1)) bk' nh hw nc cw t y := by
  obtain ⟨s, M, P, J, R, C⟩ := h
  have ht := s.t0
  obtain ⟨s1, s2, s3, s4, s5, s6, s7, s8, s9⟩ := s
  exact ⟨⟨s1, s2, s3, s4, by omega, s6, s7, s8, s9⟩, M.put hj ht, P, J.book hi hj s2 hm he ht hb hpk, R, C.more⟩
theorem chgJ_link {rw : FI} {e v x : Nat} {z : Int32} : chgJ (upd rw (v * 7 + 6) z) (nI x) e = chgJ rw (nI x) e := by
  have h : ∀ q, q < 6 → upd rw (v * 7 + 6) z (e * 7 + q) = rw (e * 7 + q) := fun q hq => if_neg (by omega)
  unfold chgJ
  rw [h 0 (by omega), h 1 (by omega), h 2 (by omega)]
theorem InvJ.link {v : Nat} {z : Int32} (h : InvJ np nb ne rw bk t) : InvJ np nb ne (upd rw (v * 7 + 6) z) bk t := by
  obtain ⟨h1, h2, h3⟩ := h
  have e : ∀ e q, q < 6 → upd rw (v * 7 + 6) z (e * 7 + q) = rw (e * 7 + q) := fun e q hq => if_neg (by omega)
  refine ⟨fun e1 he => ?_, fun e1 e2 a1 a2 => ?_, fun q hq => ?_⟩
  · rw [e e1 0 (by omega), e e1 1 (by omega), e e1 4 (by omega), e e1 5 (by omega), e e1 2 (by omega)]
    exact h1 e1 he
  · rw [e e1 4 (by omega), e e2 4 (by omega)]
    exact h2 e1 e2 a1 a2
  · have : bkd nb (upd rw (v * 7 + 6) z) (nI q) ne = bkd nb rw (nI q) ne := by
      unfold bkd
      rw [sumI_congr (fun i _ => chgJ_link)]
    rw [this]
    exact h3 q hq
theorem Inv.link {v : Nat} {z : Int32} (h : Inv np qu ra re le ln nb pl tm ne rw bk nh hw nc cw t y) : Inv np qu ra re le ln nb pl tm ne (upd rw (v * 7 + 6) z) bk nh hw nc cw t y := ⟨h.1, h.2.1, h.2.2.1, h.2.2.2.1.link, h.2.2.2.2⟩
theorem Inv.way {m : Nat} (h : Inv np qu ra re le ln nb pl tm ne rw bk nh hw nc cw t y) (hm : m ≤ 3) : Inv np qu ra re le ln nb pl tm ne rw bk nh hw nc cw t m := by
  obtain ⟨⟨s1, s2, s3, s4, s5, s6, s7, s8, s9⟩, r⟩ := h
  exact ⟨⟨s1, s2, s3, s4, s5, s6, s7, hm, s9⟩, r⟩
theorem Inv.hold {i j m : Nat} {x : Int32} (h : Inv np qu ra re le ln nb pl tm ne rw bk nh hw nc cw t y) (hi : i < np) (hj : j < np) (h1 : 1 ≤ m) (hm : m ≤ 200) (hh : nh < 60) : Inv np qu ra re le ln nb pl tm ne rw bk (nh + 1) (upd5 hw nh (nI i) (nI j) (nI m) x 0) nc cw t y := by
  obtain ⟨⟨s1, s2, s3, s4, s5, s6, s7, s8, s9⟩, M, P, J, R, C⟩ := h
  refine ⟨⟨s1, s2, s3, s4, s5, by omega, s7, s8, s9⟩, M, P, J, fun r hr => ?_, C⟩
  by_cases e : r = nh
  · subst e
    obtain ⟨e0, e1, e2, _⟩ := upd5_at hw r (nI i) (nI j) (nI m) x 0
    exact ⟨⟨i, hi, e0⟩, ⟨j, hj, e1⟩, m, h1, hm, e2⟩
  · rw [upd5_lt _ _ _ _ _ _ (by omega), upd5_lt _ _ _ _ _ _ (by omega), upd5_lt _ _ _ _ _ _ (by omega)]
    exact R r (by omega)
/-- fields 3 and 4 of reservations may change -/
theorem InvR.chg {hw' : FI} (h : InvR np nh hw) (e : ∀ r q, r < nh → q < 3 → hw' (r * 5 + q) = hw (r * 5 + q)) : InvR np nh hw' := by
  intro r hr
  rw [e r 0 hr (by omega), e r 1 hr (by omega), e r 2 hr (by omega)]
  exact h r hr
theorem Inv.res {hw' : FI} (h : Inv np qu ra re le ln nb pl tm ne rw bk nh hw nc cw t y) (e : ∀ r q, r < nh → q < 3 → hw' (r * 5 + q) = hw (r * 5 + q)) : Inv np qu ra re le ln nb pl tm ne rw bk nh hw' nc cw t y := ⟨h.1, h.2.1, h.2.2.1, h.2.2.2.1, h.2.2.2.2.1.chg e, h.2.2.2.2.2⟩
theorem Inv.pass {tn k1 : Nat} {re' : Nat → UInt32} {hw' : FI} (h : Inv np qu ra re le ln nb pl tm ne rw bk nh hw nc cw t y) (ht : t = nI tn) (h1 : tn + k1 ≤ 1000000) (hre : ∀ j, j < np → PF (re' j)) (e : ∀ r q, r < nh → q < 3 → hw' (r * 5 + q) = hw (r * 5 + q)) : Inv np qu ra re' le ln nb pl tm ne rw bk nh hw' nc cw (nI (tn + k1)) y := by
  subst ht
  obtain ⟨⟨s1, s2, s3, s4, s5, s6, s7, s8, s9⟩, M, P, ⟨J1, J2, J3⟩, R, C⟩ := h
  refine ⟨⟨s1, s2, s3, s4, s5, s6, s7, s8, tn + k1, h1, rfl⟩, M, fun j hj => ⟨hre j hj, (P j hj).2⟩, ⟨fun e he => ?_, J2, J3⟩, R.chg e, C⟩
  obtain ⟨a1, a2, a3, a4, a5, a6⟩ := J1 e he
  exact ⟨a1, a2, a3, Int32.le_trans a4 ((nI_le9 (by omega) (by omega)).mpr (by omega)), a5, a6⟩
/-! what a command does, and that it keeps what holds -/
def MovOk (np : Nat) (qu ra : FI) (re : Nat → UInt32) (le ln : FI) (nb : Nat) (pl tm : FI) (ne : Nat) (rw : FI) (bk : Nat → Int64) (nh : Nat) (hw : FI) (nc : Nat) (cw : FI) (t : Int32) (y : Nat) (x : Int32) (j w : Nat) (d : Int32) (K' : KL) : Prop := ne < 300 ∧ obs qu pl nb hw nh x j (nI w) 0 = 0 ∧ ∃ bk' pk', (∀ d', d' < 200 → pk' d' = bI (selW y pl tm nb x w d')) ∧ bokB bk bk' ne pk' ∧ K' = mkK np qu ra re le ln nb (putF pl nb pk' (nI j)) (putF tm nb pk' t) (ne + 1) (upd7 rw ne x (nI j) (nI w) d t 0 (-1)) bk' nh hw nc cw t y
def HldOk (np : Nat) (qu ra : FI) (re : Nat → UInt32) (le ln : FI) (nb : Nat) (pl tm : FI) (ne : Nat) (rw : FI) (bk : Nat → Int64) (nh : Nat) (hw : FI) (nc : Nat) (cw : FI) (t : Int32) (y : Nat) (x : Int32) (j : Nat) (c d : Int32) (K' : KL) : Prop := nh < 60 ∧ obs qu pl nb hw nh x j c 0 = 0 ∧ K' = mkK np qu ra re le ln nb pl tm ne rw bk (nh + 1) (upd5 hw nh x (nI j) c (t + d) 0) nc cw t y
def PasOk (np : Nat) (qu ra : FI) (re : Nat → UInt32) (le ln : FI) (nb : Nat) (pl tm : FI) (ne : Nat) (rw : FI) (bk : Nat → Int64) (nh : Nat) (hw : FI) (nc : Nat) (cw : FI) (t : Int32) (y : Nat) (m : Nat) (K' : KL) : Prop := ∃ tn, t = nI tn ∧ tn + m ≤ 1000000 ∧ ∃ re' hw', (∀ j, re' j = if j < np then rntA ra re pl nb (nI m) j else re j) ∧ (∀ j, j < np → PF (re' j)) ∧ (∀ r j, j < 5 → hw' (r * 5 + j) = if j = 4 ∧ r < nh ∧ dueB hw (nI (tn + m)) r = true then nI 3 else hw (r * 5 + j)) ∧ K' = mkK np qu ra re' le ln nb pl tm ne rw bk nh hw' nc cw (nI (tn + m)) y
def RevF (qu pl : FI) (nb ne : Nat) (rw : FI) (bk : Nat → Int64) (nh : Nat) (hw : FI) (e j : Nat) (r : Int32) : Prop := ((300 ≤ ne ∧ r = -2) ∨ (¬ 300 ≤ ne ∧ ¬ (rw (e * 7 + 5) = 0 ∧ rw (e * 7 + 6) = -1) ∧ r = -5) ∨ (¬ 300 ≤ ne ∧ rw (e * 7 + 5) = 0 ∧ rw (e * 7 + 6) = -1 ∧ ¬ inAll pl nb bk e (rw (e * 7 + 1)) ∧ r = -6) ∨ (¬ 300 ≤ ne ∧ rw (e * 7 + 5) = 0 ∧ rw (e * 7 + 6) = -1 ∧ inAll pl nb bk e (rw (e * 7 + 1)) ∧ r = obs qu pl nb hw nh (rw (e * 7 + 1)) j (rw (e * 7 + 2)) 0 ∧ ¬ r = 0 ∧ r < 0))
def RevOk (np : Nat) (qu ra : FI) (re : Nat → UInt32) (le ln : FI) (nb : Nat) (pl tm : FI) (ne : Nat) (rw : FI) (bk : Nat → Int64) (nh : Nat) (hw : FI) (nc : Nat) (cw : FI) (t : Int32) (y : Nat) (e j : Nat) (K' : KL) : Prop := ne < 300 ∧ rw (e * 7 + 5) = 0 ∧ rw (e * 7 + 6) = -1 ∧ inAll pl nb bk e (rw (e * 7 + 1)) ∧ obs qu pl nb hw nh (rw (e * 7 + 1)) j (rw (e * 7 + 2)) 0 = 0 ∧ ∃ bk' pk', (∀ d, d < 200 → pk' d = bI (blk bk e d)) ∧ bokB bk bk' ne pk' ∧ K' = mkK np qu ra re le ln nb (putF pl nb pk' (nI j)) (putF tm nb pk' t) (ne + 1) (upd (upd (upd7 rw ne (rw (e * 7 + 1)) (nI j) (rw (e * 7 + 2)) (rw (e * 7 + 3)) t (nI 1) (-1)) (e * 7 + 6) (nI ne)) (ne * 7 + 6) (nI e)) bk' nh hw nc cw t y
theorem selW_lt {y : Nat} {pl tm : FI} {n : Nat} {x : Int32} {w d : Nat} (h : selW y pl tm n x w d = true) : d < n := by
  unfold selW at h
  split at h
  · exact (of_decide_eq_true h).1
  · split at h
    · exact (of_decide_eq_true h).1
    · split at h
      · exact (of_decide_eq_true h).2.1
      · exact (of_decide_eq_true h).2.1
theorem Inv.mov {i j w : Nat} {d : Int32} {K' : KL} (h : Inv np qu ra re le ln nb pl tm ne rw bk nh hw nc cw t y) (hi : i < np) (hj : j < np) (hw9 : w ≤ 200) (hm : MovOk np qu ra re le ln nb pl tm ne rw bk nh hw nc cw t y (nI i) j w d K') : InvK K' := by
  obtain ⟨h1, h2, bk', pk', h3, h4, rfl⟩ := hm
  exact h.book hi hj hw9 h1 h4 (fun d hd hq => selW_lt (bI_ne (fun z => hq ((h3 d hd).trans z))))
theorem Inv.hld {i j m : Nat} {d : Int32} {K' : KL} (h : Inv np qu ra re le ln nb pl tm ne rw bk nh hw nc cw t y) (hi : i < np) (hj : j < np) (h1 : 1 ≤ m) (hm : m ≤ 200) (hk : HldOk np qu ra re le ln nb pl tm ne rw bk nh hw nc cw t y (nI i) j (nI m) d K') : InvK K' := by
  obtain ⟨a1, a2, rfl⟩ := hk
  exact h.hold hi hj h1 hm a1
theorem Inv.pas {m : Nat} {K' : KL} (h : Inv np qu ra re le ln nb pl tm ne rw bk nh hw nc cw t y) (hk : PasOk np qu ra re le ln nb pl tm ne rw bk nh hw nc cw t y m K') : InvK K' := by
  obtain ⟨tn, a1, a2, re', hw', a3, a4, a5, rfl⟩ := hk
  exact h.pass (hw' := hw') a1 a2 a4 (fun r q _ hq => (a5 r q (by omega)).trans (if_neg (fun z => by omega)))
theorem Inv.rev {e j : Nat} {K' : KL} (h : Inv np qu ra re le ln nb pl tm ne rw bk nh hw nc cw t y) (he : e < ne) (hj : rw (e * 7 + 0) = nI j) (hjp : j < np) (hk : RevOk np qu ra re le ln nb pl tm ne rw bk nh hw nc cw t y e j K') : InvK K' := by
  obtain ⟨a1, a2, a3, a4, a5, bk', pk', a6, a7, rfl⟩ := hk
  obtain ⟨b1, ⟨i, b2, b3⟩, b4, b5, b6, b7⟩ := h.2.2.2.1.1 e he
  obtain ⟨c, c1, c2⟩ := b6 a2
  have := h.book (i := i) (j := j) (m := c) (d := rw (e * 7 + 3)) (g := nI 1) b2 hjp c1 a1 a7 (fun d hd hq => b7 d hd (bI_ne (fun z => hq ((a6 d hd).trans z))))
  rw [← b3, ← c2] at this
  exact this.link.link
end
