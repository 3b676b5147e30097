/-! ===== the law: snapshots, texts, and cases without a wrapper ===== -/
section
variable {Γ : GE} {h h1 h2 h3 : AH} {p m b b' D D' sa N len len' n' a j s : Nat} {er er' th tl at' bg ea lr cm : Int32} {bs bs' S : FI} {f f' : Nat → Option Nat} {K K' : KL} {KS : Nat → KL}
theorem Bet.r (ho : OutP h m) (e : ∀ c, (c < p ∨ (m ≤ c ∧ c < m + 14)) → h1.2 c = h.2 c) : Bet p m h h1 h1 := ⟨fun c hc => e c (by omega), fun _ _ => rfl, Nat.le_refl _, ho.mv (e _ (by omega)) (e _ (by omega))⟩
theorem ClsP.svS (c1 : ClsP h p m b D er bs len f K KS) (hj : j < 2) (ef : f j = some s) (fr : ax_fr s (s + 19) h h1) (hL : LedK h1 s K) : ClsP h1 p m b D er bs len f K (fun q => if q = j then K else KS q) := by
  obtain ⟨c1, c2, c3, ⟨n, rs, c4, c4'⟩, c5, c6, c7, c8, c9, c10, c11, c12⟩ := c1
  obtain ⟨y1, y2, y3⟩ := c11 j s hj ef
  refine ⟨(fr.2 _ (by omega)).trans c1, c2.ext (fun c _ _ => fr.2 c (by omega)), (fr.2 _ (by omega)).trans c3, ⟨n, rs, (fr.2 _ (by omega)).trans c4, (fr.2 _ (by omega)).trans c4'⟩, (fr.2 _ (by omega)).trans c5, c6.ext (fun c _ _ => fr.2 c (by omega)), c7.ext (fun c _ _ => fr.2 c (by omega)), c8, c9, by rw [fr.1]; exact c10, fun i s' hi hs => ?_, c12⟩
  obtain ⟨d1, d2, d3⟩ := c11 i s' hi hs
  refine ⟨?_, d2, by rw [fr.1]; exact d3⟩
  by_cases e : i = j
  · subst e
    obtain rfl : s = s' := Option.some.inj (ef.symm.trans hs)
    dsimp only
    rw [if_pos rfl]
    exact hL
  · dsimp only
    rw [if_neg e]
    have hd : s + 19 ≤ s' ∨ s' + 19 ≤ s := by
      rcases (by omega : (i = 0 ∧ j = 1) ∨ (i = 1 ∧ j = 0)) with ⟨rfl, rfl⟩ | ⟨rfl, rfl⟩
      · have z := c12 s' s hs ef
        omega
      · exact c12 s s' ef hs
    exact d1.ext (fun c _ _ => fr.2 c (by omega))
theorem ClsP.svN (c1 : ClsP h p m b D er bs len f K KS) (hj : j < 2) (ef : f j = none) (hz : h1.1 = h.1 + 19) (fr : ∀ a, a < h.1 → ¬ a = p + 6 → h1.2 a = h.2 a) (hS : SnaC h1 p (va_up f j (some h.1))) (hL : LedK h1 h.1 K) : ClsP h1 p m b D er bs len (va_up f j (some h.1)) K (fun q => if q = j then K else KS q) := by
  obtain ⟨c1, c2, c3, ⟨n, rs, c4, c4'⟩, c5, c6, c7, c8, c9, c10, c11, c12⟩ := c1
  refine ⟨(fr _ (by omega) (by omega)).trans c1, c2.ext (fun c _ _ => fr c (by omega) (by omega)), (fr _ (by omega) (by omega)).trans c3, ⟨n, rs, (fr _ (by omega) (by omega)).trans c4, (fr _ (by omega) (by omega)).trans c4'⟩, hS, c6.ext (fun c _ _ => fr c (by omega) (by omega)), c7.ext (fun c _ _ => fr c (by omega) (by omega)), c8, c9, by omega, fun i s' hi hs => ?_, fun s1 s2 e1 e2 => ?_⟩
  · by_cases e : i = j
    · subst e
      have z : some h.1 = some s' := (if_pos rfl).symm.trans hs
      obtain rfl : h.1 = s' := Option.some.inj z
      dsimp only
      rw [if_pos rfl]
      exact ⟨hL, by omega, by omega⟩
    · have z : f i = some s' := (if_neg e).symm.trans hs
      obtain ⟨d1, d2, d3⟩ := c11 i s' hi z
      dsimp only
      rw [if_neg e]
      exact ⟨d1.ext (fun c _ _ => fr c (by omega) (by omega)), d2, by omega⟩
  · rcases (by omega : j = 0 ∨ j = 1) with rfl | rfl
    · have z1 : h.1 = s1 := Option.some.inj ((if_pos rfl).symm.trans e1)
      have z2 : f 1 = some s2 := (if_neg (by decide)).symm.trans e2
      have z3 := (c11 1 s2 (by omega) z2).2.2
      omega
    · have z1 : h.1 = s2 := Option.some.inj ((if_pos rfl).symm.trans e2)
      have z2 : f 0 = some s1 := (if_neg (by decide)).symm.trans e1
      have z3 := (c11 0 s1 (by omega) z2).2.2
      omega
theorem RowK.same {R R' : FI} (h : RowK R K) (hI : InvK K) (e : ∀ u, u < 5061 → R' u = R u) : RowK R' K := RowR.same h hI.1 e
theorem sv_rows {R CC C9 SV : FI} {RE CE E9 : Nat → UInt32} (hj : j < 2) (hf : ∀ q, ¬ q = j → f' q = f q) (hfj : ∃ s, f' j = some s) (hI : InvK K) (hIS : ∀ j s, j < 2 → f j = some s → InvK (KS j)) (hr : RowK R K) (hre : ∀ q, q < K.1.1 → RE q = K.1.2.2.2.1 q) (hsv : ∀ j, j < 2 → (SV j = 0 ↔ f j = none)) (hsr : ∀ j s, j < 2 → f j = some s → RowK (fun u => CC (5061 * j + u)) (KS j) ∧ ∀ q, q < (KS j).1.1 → CE (8 * j + q) = (KS j).1.2.2.2.1 q)
    (eC1 : ∀ q, q < 5061 → C9 (5061 * j + q) = R q) (eC2 : ∀ u, (u < 5061 * j ∨ 5061 * j + 5061 ≤ u) → C9 u = CC u) (eE1 : ∀ q, q < 8 → E9 (8 * j + q) = RE q) (eE2 : ∀ u, (u < 8 * j ∨ 8 * j + 8 ≤ u) → E9 u = CE u) :
    (∀ q, q < 2 → (upd SV j (nI 1) q = 0 ↔ f' q = none)) ∧ (∀ q s, q < 2 → f' q = some s → InvK ((fun q => if q = j then K else KS q) q)) ∧ ∀ q s, q < 2 → f' q = some s → RowK (fun u => C9 (5061 * q + u)) ((fun q => if q = j then K else KS q) q) ∧ ∀ i, i < ((fun q => if q = j then K else KS q) q).1.1 → E9 (8 * q + i) = ((fun q => if q = j then K else KS q) q).1.2.2.2.1 i := by
  obtain ⟨s0, hfj⟩ := hfj
  refine ⟨fun q hq => ?_, fun q s hq hs => ?_, fun q s hq hs => ?_⟩
  · by_cases e : q = j
    · subst e
      rw [hfj]
      have z : upd SV q (nI 1) q = nI 1 := if_pos rfl
      rw [z]
      exact ⟨fun w => absurd w (by decide), fun w => by cases w⟩
    · have z : upd SV j (nI 1) q = SV q := if_neg e
      rw [z, hf q e]
      exact hsv q hq
  · dsimp only
    by_cases e : q = j
    · rw [if_pos e]
      exact hI
    · rw [if_neg e]
      exact hIS q s hq ((hf q e).symm.trans hs)
  · dsimp only
    by_cases e : q = j
    · subst e
      rw [if_pos rfl]
      have hnp : K.1.1 ≤ 8 := hI.1.2.1
      exact ⟨hr.same hI (fun u hu => eC1 u hu), fun i hi => (eE1 i (by omega)).trans (hre i hi)⟩
    · rw [if_neg e]
      have hs' := (hf q e).symm.trans hs
      obtain ⟨d1, d2⟩ := hsr q s hq hs'
      have hnp : (KS q).1.1 ≤ 8 := (hIS q s hq hs').1.2.1
      exact ⟨d1.same (hIS q s hq hs') (fun u hu => eC2 _ (by omega)), fun i hi => (eE2 _ (by omega)).trans (d2 i hi)⟩
/-- faces, text and draft change -/
theorem ClsP.re (c1 : ClsP h p m b D er bs len f K KS) (hF : FacC h1 p b' D' er') (hT : TxI h1 (p + 1) bs len') (hR3 : h1.2 (p + 3) = h.2 (p + 3)) (hBt : ∃ n rs, BatAt h1 (p + 4) (p + 1) n rs) (hS6 : h1.2 (p + 6) = h.2 (p + 6)) (hL : LedK h1 b' K') (hX : LedX h1 D') (hbD : (b' = p + 7 ∧ D' = p + 26) ∨ (b' = p + 26 ∧ D' = p + 7)) (hz : h1.1 = h.1) (e : ∀ c, m ≤ c → h1.2 c = h.2 c) : ClsP h1 p m b' D' er' bs len' f K' KS := by
  obtain ⟨c1, c2, c3, c4, c5, c6, c7, c8, c9, c10, c11, c12⟩ := c1
  refine ⟨hF, hT, hR3.trans c3, hBt, hS6.trans c5, hL, hX, hbD, c9, by omega, fun i s hi hs => ?_, c12⟩
  obtain ⟨d1, d2, d3⟩ := c11 i s hi hs
  exact ⟨d1.ext (fun c _ _ => e c (by omega)), d2, by omega⟩
theorem ModP.re (hM : ModP h m er bs len f K KS) (m2 : ∃ th at' bg e9 ea cm, ModC h2 m (m + 1) th (nI 0) at' bg e9 ea er' cm) (hR : ∃ R, h2.2 (m + 1) = some (.inl (.int, 5061, .inl R)) ∧ RowK R K') (hE : ∃ RE, h2.2 (m + 5) = some (.inl (.float, 8, .inr (.inr (.inl RE)))) ∧ ∀ j, j < K'.1.1 → RE j = K'.1.2.2.2.1 j) (x2 : ∃ R, h2.2 (m + 2) = some (.inl (.int, 5061, .inl R))) (x3 : ∃ R, h2.2 (m + 3) = some (.inl (.int, 5061, .inl R))) (x6 : ∃ RA, h2.2 (m + 6) = some (.inl (.float, 8, .inr (.inr (.inl RA))))) (x9 : ∃ pk, h2.2 (m + 9) = some (.inl (.boolean, 200, .inl pk))) (x11 : ∃ CM, h2.2 (m + 11) = some (.inl (.int, 1250, .inl CM))) (e : ∀ c, (c = m + 4 ∨ c = m + 7 ∨ c = m + 8 ∨ c = m + 10) → h2.2 c = h.2 c) : ModP h2 m er' bs 0 f K' KS := by
  obtain ⟨_, _, _, _, _, _, _, ⟨B, a10, bu⟩, _, CC, CE, SV, a4, a7, a8, q1, q2⟩ := hM
  exact ⟨m2, hR, x2, x3, hE, x6, x9, ⟨B, (e _ (by omega)).trans a10, fun i hi => absurd hi (by omega)⟩, x11, CC, CE, SV, (e _ (by omega)).trans a4, (e _ (by omega)).trans a7, (e _ (by omega)).trans a8, q1, q2⟩
theorem fin_r (hA : Γ.2.1 ≤ p) (hs : ScrP Γ h sa N S) (hpm : m = p + 45) (c1 : ClsP h1 p m b D er bs len f K KS) (hP : PurP len f K KS) (B : Bet p m h h1 h3) (e2 : ∀ c, (c < m ∨ m + 12 ≤ c) → h2.2 c = h3.2 c) (hz : h2.1 = h3.1) (hM : ModP h2 m er bs len f K KS) : Sim Γ h2 p m sa N S :=
  ⟨hA, hs.ext hA (fun c hc => (e2 c (by omega)).trans (B.1 c (by omega))), B.2.2.2.mv (e2 _ (by omega)) (e2 _ (by omega)), b, D, er, bs, len, f, K, KS, c1.ext (fun c hc => (e2 c (by omega)).trans (B.2.1 c hc)) (by rw [hz]; exact B.2.2.1), hP, hM⟩
theorem LedK.x {s : Nat} (hL : LedK h s K) : LedX h s := by
  obtain ⟨pk, hL⟩ := hL
  exact ⟨_, _, _, _, _, _, _, _, _, _, _, _, _, _, _, _, _, _, pk, hL⟩
theorem InvC.add {ne nc : Nat} {cw cw1 : FI} (h : InvC ne nc cw) (he : ne ≤ 300) (e1 : ∀ i, i < nc * 9 → cw1 i = cw i) (e3 : cw1 (nc * 9 + 8) = nI ne) : InvC ne (nc + 1) cw1 := by
  have g : ∀ c, c < nc + 1 → ∃ m, m ≤ ne ∧ cw1 (c * 9 + 8) = nI m := by
    intro c hc
    by_cases e : c = nc
    · subst e
      exact ⟨ne, Nat.le_refl _, e3⟩
    · obtain ⟨u, a, b⟩ := h.1 c (by omega)
      exact ⟨u, a, (e1 _ (by omega)).trans b⟩
  refine ⟨g, fun c d m n hcd hd em en hm hn => ?_⟩
  by_cases e : d = nc
  · subst e
    have z : n = ne := (nI_eq9 (by omega) (by omega)).mp (en.symm.trans e3)
    obtain ⟨u, a, b⟩ := g c (by omega)
    have z2 : m = u := (nI_eq9 (by omega) (by omega)).mp (em.symm.trans b)
    omega
  · exact h.2 c d m n hcd (by omega) ((e1 _ (by omega)).symm.trans em) ((e1 _ (by omega)).symm.trans en) hm hn
end
