/-! ===== the law: between the two calls of a case ===== -/
abbrev ML_law : MD := (yL_law, cL_law, 10, (some .boolean), [])
def Bet (p m : Nat) (h h1 h3 : AH) : Prop := (∀ c, (c < p ∨ (m ≤ c ∧ c < m + 12)) → h3.2 c = h.2 c) ∧ (∀ c, (p ≤ c ∧ c < m ∨ m + 14 ≤ c) → h3.2 c = h1.2 c) ∧ h1.1 ≤ h3.1 ∧ OutP h3 m
section
variable {Γ : GE} {h h1 h2 h3 : AH} {p m b D sa N len n' a : Nat} {er th tl at' bg ea lr cm : Int32} {bs S : FI} {f : Nat → Option Nat} {K K' : KL} {KS : Nat → KL}
theorem ModC.mv (e : h3.2 m = h.2 m) (q : ModC h m a th tl at' bg er ea lr cm) : ModC h3 m a th tl at' bg er ea lr cm := e.trans q
theorem OutP.mv (ho : OutP h3 m) (e1 : h2.2 (m + 12) = h3.2 (m + 12)) (e2 : h2.2 (m + 13) = h3.2 (m + 13)) : OutP h2 m := by
  obtain ⟨⟨fo, o1⟩, fd, o2⟩ := ho
  exact ⟨⟨fo, e1.trans o1⟩, fd, e2.trans o2⟩
theorem Bet.n (ho : OutP h m) (hn : h.1 ≤ n') : Bet p m h h (n', h.2) := ⟨fun _ _ => rfl, fun _ _ => rfl, hn, ho⟩
theorem Bet.o (v : Nat → Int64) (ho : OutP h m) (hpm : m = p + 45) (e : ∀ c, (c < p ∨ (m ≤ c ∧ c < m + 14)) → h1.2 c = h.2 c) : Bet p m h h1 (ax_set h1 (m + 12) (.inl (.long, 1, .inr (.inl v)))) := by
  obtain ⟨_, fd, o2⟩ := ho
  exact ⟨fun c hc => (ax_set_ne _ _ (by omega)).trans (e c (by omega)), fun c hc => ax_set_ne _ _ (by omega), Nat.le_refl _, ⟨v, ax_set_self _ _ _⟩, fd, (ax_set_ne _ _ (by omega)).trans ((e _ (by omega)).trans o2)⟩
theorem Bet.d (v : Nat → UInt64) (ho : OutP h m) (hpm : m = p + 45) (e : ∀ c, (c < p ∨ (m ≤ c ∧ c < m + 14)) → h1.2 c = h.2 c) : Bet p m h h1 (ax_set h1 (m + 13) (.inl (.double, 1, .inr (.inr (.inr (.inl v)))))) := by
  obtain ⟨⟨fo, o1⟩, _⟩ := ho
  exact ⟨fun c hc => (ax_set_ne _ _ (by omega)).trans (e c (by omega)), fun c hc => ax_set_ne _ _ (by omega), Nat.le_refl _, ⟨fo, (ax_set_ne _ _ (by omega)).trans ((e _ (by omega)).trans o1)⟩, v, ax_set_self _ _ _⟩
theorem bet_fr (fr : ax_fr b (b + 19) h h1) (hpb : p ≤ b) (hbm : b + 19 ≤ m) : ∀ c, (c < p ∨ (m ≤ c ∧ c < m + 14)) → h1.2 c = h.2 c := fun c hc => fr.2 c (by omega)
theorem inN_inI {x : Int32} {n : Nat} (hn : n + 1 < 2147483648) : inN x (n + 1) = inI x 0 n := by
  unfold inN inI
  refine decide_eq_decide.mpr ⟨fun ⟨a, b⟩ => ?_, fun ⟨a, b⟩ => ?_⟩
  · obtain ⟨j, hj, rfl⟩ := inN_get hn a b
    exact ⟨(nI_le9 (by omega) (by omega)).mpr (by omega), (nI_le9 (by omega) (by omega)).mpr (by omega)⟩
  · obtain ⟨j, h0, hj, rfl⟩ := inI_get (by omega) (Nat.zero_le _) a b
    exact ⟨nI_ge0 _ (by omega), (nI_lt9 (by omega) (by omega)).mpr (by omega)⟩
theorem fin_q (hA : Γ.2.1 ≤ p) (hs : ScrP Γ h sa N S) (hM : ModP h m er bs len f K KS) (hP : PurP len f K KS) (c1 : ClsP h1 p m b D er bs len f K KS) (hpm : m = p + 45) (B : Bet p m h h1 h3) (fr : ax_fr m (m + 1) h3 h2) (m2 : ∃ th at' bg e9 ea cm, ModC h2 m (m + 1) th (nI len) at' bg e9 ea er cm) : Sim Γ h2 p m sa N S :=
  Sim.closeQ hA hs hM hP c1 (fun c hc => (fr.2 c (by omega)).trans (B.1 c (by omega))) (fun c hc => (fr.2 c (by omega)).trans (B.2.1 c hc)) (by rw [fr.1]; exact B.2.2.1) (fun c a b => (fr.2 c (by omega)).trans (B.1 c (by omega))) m2 (B.2.2.2.mv (fr.2 _ (by omega)) (fr.2 _ (by omega)))
theorem fin_s (hA : Γ.2.1 ≤ p) (hs : ScrP Γ h sa N S) (hM : ModP h m er bs len f K KS) (hP : PurP len f K' KS) (c1 : ClsP h1 p m b D er bs len f K' KS) (hpm : m = p + 45) (B : Bet p m h h1 h3) (fz : h2.1 = h3.1) (fr : ∀ c, ¬ c = m → ¬ c = m + 1 → ¬ c = m + 5 → ¬ c = m + 9 → h2.2 c = h3.2 c) (m2 : ∃ th at' bg e9 ea cm, ModC h2 m (m + 1) th (nI len) at' bg e9 ea er cm) (hR : ∃ R, h2.2 (m + 1) = some (.inl (.int, 5061, .inl R)) ∧ RowK R K') (hE : ∃ RE, h2.2 (m + 5) = some (.inl (.float, 8, .inr (.inr (.inl RE)))) ∧ ∀ j, j < K'.1.1 → RE j = K'.1.2.2.2.1 j) (hp : ∃ pk, h2.2 (m + 9) = some (.inl (.boolean, 200, .inl pk))) : Sim Γ h2 p m sa N S :=
  Sim.close hA hs hM hP c1 (fun c hc => (fr c (by omega) (by omega) (by omega) (by omega)).trans (B.1 c (by omega))) (fun c hc => (fr c (by omega) (by omega) (by omega) (by omega)).trans (B.2.1 c hc)) (by rw [fz]; exact B.2.2.1) (fun c a b q1 q5 q9 => (fr c (by omega) q1 q5 q9).trans (B.1 c (by omega))) m2 hR hE hp (B.2.2.2.mv (fr _ (by omega) (by omega) (by omega) (by omega)) (fr _ (by omega) (by omega) (by omega) (by omega)))
end
