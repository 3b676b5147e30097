/-! ===== the law: what holds between two calls ===== -/
def ClsP (h : AH) (p m b D : Nat) (er : Int32) (bs : FI) (len : Nat) (f : Nat → Option Nat) (K : KL) (KS : Nat → KL) : Prop :=
  FacC h p b D er ∧ TxI h (p + 1) bs len ∧ h.2 (p + 3) = some (.inr (3, [.ref (p + 1)])) ∧ (∃ n rs, BatAt h (p + 4) (p + 1) n rs) ∧ SnaC h p f ∧ LedK h b K ∧ LedX h D ∧ ((b = p + 7 ∧ D = p + 26) ∨ (b = p + 26 ∧ D = p + 7)) ∧ m = p + 45 ∧ m + 14 ≤ h.1 ∧ (∀ j s, j < 2 → f j = some s → LedK h s (KS j) ∧ m + 14 ≤ s ∧ s + 19 ≤ h.1) ∧ ∀ s s', f 0 = some s → f 1 = some s' → (s + 19 ≤ s' ∨ s' + 19 ≤ s)
def PurP (len : Nat) (f : Nat → Option Nat) (K : KL) (KS : Nat → KL) : Prop := len ≤ 500 ∧ InvK K ∧ ∀ j s, j < 2 → f j = some s → InvK (KS j)
def ModP (h : AH) (m : Nat) (er : Int32) (bs : FI) (len : Nat) (f : Nat → Option Nat) (K : KL) (KS : Nat → KL) : Prop :=
  (∃ th at' bg e9 ea cm, ModC h m (m + 1) th (nI len) at' bg e9 ea er cm) ∧ (∃ R, h.2 (m + 1) = some (.inl (.int, 5061, .inl R)) ∧ RowK R K) ∧ (∃ R, h.2 (m + 2) = some (.inl (.int, 5061, .inl R))) ∧ (∃ R, h.2 (m + 3) = some (.inl (.int, 5061, .inl R))) ∧ (∃ RE, h.2 (m + 5) = some (.inl (.float, 8, .inr (.inr (.inl RE)))) ∧ ∀ j, j < K.1.1 → RE j = K.1.2.2.2.1 j) ∧ (∃ RA, h.2 (m + 6) = some (.inl (.float, 8, .inr (.inr (.inl RA))))) ∧ (∃ pk, h.2 (m + 9) = some (.inl (.boolean, 200, .inl pk))) ∧ (∃ B, h.2 (m + 10) = some (.inl (.byte, 500, .inl B)) ∧ BufR bs B len) ∧ (∃ CM, h.2 (m + 11) = some (.inl (.int, 1250, .inl CM))) ∧ ∃ CC CE SV, h.2 (m + 4) = some (.inl (.int, 10122, .inl CC)) ∧ h.2 (m + 7) = some (.inl (.float, 16, .inr (.inr (.inl CE)))) ∧ h.2 (m + 8) = some (.inl (.boolean, 2, .inl SV)) ∧ (∀ j, j < 2 → (SV j = 0 ↔ f j = none)) ∧ ∀ j s, j < 2 → f j = some s → RowK (fun u => CC (5061 * j + u)) (KS j) ∧ ∀ q, q < (KS j).1.1 → CE (8 * j + q) = (KS j).1.2.2.2.1 q
def OutP (h : AH) (m : Nat) : Prop := (∃ fo, h.2 (m + 12) = some (.inl (.long, 1, .inr (.inl fo)))) ∧ ∃ fd, h.2 (m + 13) = some (.inl (.double, 1, .inr (.inr (.inr (.inl fd)))))
def ScrP (Γ : GE) (h : AH) (sa N : Nat) (S : FI) : Prop := h.2 sa = some (.inl (.int, N, .inl S)) ∧ sa < Γ.2.1 ∧ N ≤ 2560 ∧ FreeAt Γ h
def Sim (Γ : GE) (h : AH) (p m sa N : Nat) (S : FI) : Prop := Γ.2.1 ≤ p ∧ ScrP Γ h sa N S ∧ OutP h m ∧ ∃ b D er bs len f K KS, ClsP h p m b D er bs len f K KS ∧ PurP len f K KS ∧ ModP h m er bs len f K KS
section
variable {Γ : GE} {h h1 h2 : AH} {p m b D sa N len : Nat} {er : Int32} {bs S : FI} {f : Nat → Option Nat} {K K' : KL} {KS : Nat → KL}
theorem LedK.ext {s : Nat} (hL : LedK h s K) (q : ∀ c, s ≤ c → c < s + 19 → h2.2 c = h.2 c) : LedK h2 s K := LedAt.ext hL q
theorem LedX.ext {s : Nat} (hL : LedX h s) (q : ∀ c, s ≤ c → c < s + 19 → h2.2 c = h.2 c) : LedX h2 s := by
  obtain ⟨np, qu, ra, re, le, ln, nb, pl, tm, ne, rw, bk, nh, hw, nc, cw, t, y, pk, hL⟩ := hL
  exact ⟨np, qu, ra, re, le, ln, nb, pl, tm, ne, rw, bk, nh, hw, nc, cw, t, y, pk, hL.ext q⟩
theorem TxI.ext {q len : Nat} {bs : FI} (hT : TxI h q bs len) (e : ∀ c, q ≤ c → c < q + 2 → h2.2 c = h.2 c) : TxI h2 q bs len := by
  obtain ⟨kd, st, bh, er, ea, t1, t2⟩ := hT
  exact ⟨kd, st, bh, er, ea, (e _ (by omega) (by omega)).trans t1, (e _ (by omega) (by omega)).trans t2⟩
/-- class cells as they were -/
theorem ClsP.ext (c1 : ClsP h p m b D er bs len f K KS) (fC : ∀ c, (p ≤ c ∧ c < m ∨ m + 14 ≤ c) → h2.2 c = h.2 c) (hz : h.1 ≤ h2.1) : ClsP h2 p m b D er bs len f K KS := by
  obtain ⟨c1, c2, c3, ⟨n, rs, c4, c4'⟩, c5, c6, c7, c8, c9, c10, c11, c12⟩ := c1
  refine ⟨(fC _ (by omega)).trans c1, c2.ext (fun c _ _ => fC c (by omega)), (fC _ (by omega)).trans c3, ⟨n, rs, (fC _ (by omega)).trans c4, (fC _ (by omega)).trans c4'⟩, (fC _ (by omega)).trans c5, c6.ext (fun c _ _ => fC c (by omega)), c7.ext (fun c _ _ => fC c (by omega)), c8, c9, by omega, fun j s hj hs => ?_, c12⟩
  obtain ⟨d1, d2, d3⟩ := c11 j s hj hs
  exact ⟨d1.ext (fun c _ _ => fC c (by omega)), d2, by omega⟩
/-- the ledger changes -/
theorem ClsP.led (c1 : ClsP h p m b D er bs len f K KS) (fr : ax_fr b (b + 19) h h1) (hL : LedK h1 b K') : ClsP h1 p m b D er bs len f K' KS := by
  obtain ⟨c1, c2, c3, ⟨n, rs, c4, c4'⟩, c5, c6, c7, c8, c9, c10, c11, c12⟩ := c1
  refine ⟨(fr.2 _ (by omega)).trans c1, c2.ext (fun c _ _ => fr.2 c (by omega)), (fr.2 _ (by omega)).trans c3, ⟨n, rs, (fr.2 _ (by omega)).trans c4, (fr.2 _ (by omega)).trans c4'⟩, (fr.2 _ (by omega)).trans c5, hL, c7.ext (fun c _ _ => fr.2 c (by omega)), c8, c9, by rw [fr.1]; exact c10, fun j s hj hs => ?_, c12⟩
  obtain ⟨d1, d2, d3⟩ := c11 j s hj hs
  exact ⟨d1.ext (fun c _ _ => fr.2 c (by omega)), d2, by rw [fr.1]; exact d3⟩
theorem ClsP.big {n' : Nat} (c1 : ClsP h p m b D er bs len f K KS) (hn : h.1 ≤ n') : ClsP (n', h.2) p m b D er bs len f K KS := c1.ext (fun _ _ => rfl) hn
theorem ModP.set (hM : ModP h m er bs len f K KS) (fM : ∀ c, m < c → c < m + 12 → ¬ c = m + 1 → ¬ c = m + 5 → ¬ c = m + 9 → h2.2 c = h.2 c) (m2 : ∃ th at' bg e9 ea cm, ModC h2 m (m + 1) th (nI len) at' bg e9 ea er cm) (hR : ∃ R, h2.2 (m + 1) = some (.inl (.int, 5061, .inl R)) ∧ RowK R K') (hE : ∃ RE, h2.2 (m + 5) = some (.inl (.float, 8, .inr (.inr (.inl RE)))) ∧ ∀ j, j < K'.1.1 → RE j = K'.1.2.2.2.1 j) (hp : ∃ pk, h2.2 (m + 9) = some (.inl (.boolean, 200, .inl pk))) : ModP h2 m er bs len f K' KS := by
  obtain ⟨_, _, ⟨R2, a2⟩, ⟨R3, a3⟩, _, ⟨RA, a6⟩, _, ⟨B, a10, bu⟩, ⟨CM, a11⟩, CC, CE, SV, a4, a7, a8, x1, x2⟩ := hM
  exact ⟨m2, hR, ⟨R2, (fM _ (by omega) (by omega) (by omega) (by omega) (by omega)).trans a2⟩, ⟨R3, (fM _ (by omega) (by omega) (by omega) (by omega) (by omega)).trans a3⟩, hE, ⟨RA, (fM _ (by omega) (by omega) (by omega) (by omega) (by omega)).trans a6⟩, hp, ⟨B, (fM _ (by omega) (by omega) (by omega) (by omega) (by omega)).trans a10, bu⟩, ⟨CM, (fM _ (by omega) (by omega) (by omega) (by omega) (by omega)).trans a11⟩, CC, CE, SV, (fM _ (by omega) (by omega) (by omega) (by omega) (by omega)).trans a4, (fM _ (by omega) (by omega) (by omega) (by omega) (by omega)).trans a7, (fM _ (by omega) (by omega) (by omega) (by omega) (by omega)).trans a8, x1, x2⟩
theorem ScrP.ext (hs : ScrP Γ h sa N S) (hA : Γ.2.1 ≤ p) (fA : ∀ c, c < p → h2.2 c = h.2 c) : ScrP Γ h2 sa N S := by
  obtain ⟨s1, s2, s3, s4, fn, s5, s6⟩ := hs
  exact ⟨(fA _ (by omega)).trans s1, s2, s3, s4, fn, (fA _ (by omega)).trans s5, s6⟩
/-- a call that changes the ledger and nothing else: h1 behind the class, h2 behind the reference -/
theorem Sim.close (hA : Γ.2.1 ≤ p) (hs : ScrP Γ h sa N S) (hM : ModP h m er bs len f K KS) (hP : PurP len f K' KS) (c1 : ClsP h1 p m b D er bs len f K' KS) (fA : ∀ c, c < p → h2.2 c = h.2 c) (fC : ∀ c, (p ≤ c ∧ c < m ∨ m + 14 ≤ c) → h2.2 c = h1.2 c) (hz : h1.1 ≤ h2.1) (fM : ∀ c, m < c → c < m + 12 → ¬ c = m + 1 → ¬ c = m + 5 → ¬ c = m + 9 → h2.2 c = h.2 c) (m2 : ∃ th at' bg e9 ea cm, ModC h2 m (m + 1) th (nI len) at' bg e9 ea er cm) (hR : ∃ R, h2.2 (m + 1) = some (.inl (.int, 5061, .inl R)) ∧ RowK R K') (hE : ∃ RE, h2.2 (m + 5) = some (.inl (.float, 8, .inr (.inr (.inl RE)))) ∧ ∀ j, j < K'.1.1 → RE j = K'.1.2.2.2.1 j) (hp : ∃ pk, h2.2 (m + 9) = some (.inl (.boolean, 200, .inl pk))) (ho : OutP h2 m) : Sim Γ h2 p m sa N S :=
  ⟨hA, hs.ext hA fA, ho, b, D, er, bs, len, f, K', KS, c1.ext fC hz, hP, hM.set fM m2 hR hE hp⟩
/-- a query -/
theorem Sim.closeQ (hA : Γ.2.1 ≤ p) (hs : ScrP Γ h sa N S) (hM : ModP h m er bs len f K KS) (hP : PurP len f K KS) (c1 : ClsP h1 p m b D er bs len f K KS) (fA : ∀ c, c < p → h2.2 c = h.2 c) (fC : ∀ c, (p ≤ c ∧ c < m ∨ m + 14 ≤ c) → h2.2 c = h1.2 c) (hz : h1.1 ≤ h2.1) (fM : ∀ c, m < c → c < m + 12 → h2.2 c = h.2 c) (m2 : ∃ th at' bg e9 ea cm, ModC h2 m (m + 1) th (nI len) at' bg e9 ea er cm) (ho : OutP h2 m) : Sim Γ h2 p m sa N S := by
  obtain ⟨R, r1, r2⟩ := hM.2.1
  obtain ⟨RE, e1, e2⟩ := hM.2.2.2.2.1
  obtain ⟨pk, p1⟩ := hM.2.2.2.2.2.2.1
  exact Sim.close hA hs hM hP c1 fA fC hz (fun c a b _ _ _ => fM c a b) m2 ⟨R, (fM _ (by omega) (by omega)).trans r1, r2⟩ ⟨RE, (fM _ (by omega) (by omega)).trans e1, e2⟩ ⟨pk, (fM _ (by omega) (by omega)).trans p1⟩ ho
theorem lg_self (x : Int64) : lg_cmp x x = 0 := by
  unfold lg_cmp
  simp
end
