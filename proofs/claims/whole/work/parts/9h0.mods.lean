/-! ===== the law: cases that change something ===== -/
section
variable {Γ : GE} {h h1 h2 h3 : AH} {p m b D sa N len len' n' a : Nat} {er er' th tl at' bg ea lr cm : Int32} {bs bs' S : FI} {f : Nat → Option Nat} {K K' : KL} {KS : Nat → KL}
theorem RevF_det {qu pl : FI} {nb ne : Nat} {rw : FI} {bk : Nat → Int64} {nh : Nat} {hw : FI} {e j : Nat} {r r2 : Int32} (h1 : RevF qu pl nb ne rw bk nh hw e j r) (h2 : RevF qu pl nb ne rw bk nh hw e j r2) : r = r2 := by
  rcases h1 with ⟨a1, a2⟩ | ⟨a1, a2, a3⟩ | ⟨a1, a2, a3, a4, a5⟩ | ⟨a1, a2, a3, a4, a5, a6⟩ <;> rcases h2 with ⟨b1, b2⟩ | ⟨b1, b2, b3⟩ | ⟨b1, b2, b3, b4, b5⟩ | ⟨b1, b2, b3, b4, b5, b6⟩
  · rw [a2, b2]
  · exact absurd a1 b1
  · exact absurd a1 b1
  · exact absurd a1 b1
  · exact absurd b1 a1
  · rw [a3, b3]
  · exact absurd ⟨b2, b3⟩ a2
  · exact absurd ⟨b2, b3⟩ a2
  · exact absurd b1 a1
  · exact absurd ⟨a2, a3⟩ b2
  · rw [a5, b5]
  · exact absurd b4 a4
  · exact absurd b1 a1
  · exact absurd ⟨a2, a3⟩ b2
  · exact absurd a4 b4
  · rw [a5, b5]
theorem RevF_no {qu pl : FI} {nb ne : Nat} {rw : FI} {bk : Nat → Int64} {nh : Nat} {hw : FI} {e j : Nat} {r : Int32} (h1 : RevF qu pl nb ne rw bk nh hw e j r) (q1 : ne < 300) (q2 : rw (e * 7 + 5) = 0) (q3 : rw (e * 7 + 6) = -1) (q4 : inAll pl nb bk e (rw (e * 7 + 1))) (q5 : obs qu pl nb hw nh (rw (e * 7 + 1)) j (rw (e * 7 + 2)) 0 = 0) : False := by
  rcases h1 with ⟨a1, a2⟩ | ⟨a1, a2, a3⟩ | ⟨a1, a2, a3, a4, a5⟩ | ⟨a1, a2, a3, a4, a5, a6, a7⟩
  · omega
  · exact a2 ⟨q2, q3⟩
  · exact a4 q4
  · exact a6 (a5.trans q5)
/-- the text changes -/
theorem ClsP.txt (c1 : ClsP h p m b D er bs len f K KS) (fr : ax_fr (p + 1) (p + 3) h h1) (hT : TxI h1 (p + 1) bs' len') : ClsP h1 p m b D er bs' len' f K KS := by
  obtain ⟨c1, c2, c3, ⟨n, rs, c4, c4'⟩, c5, c6, c7, c8, c9, c10, c11, c12⟩ := c1
  refine ⟨(fr.2 _ (by omega)).trans c1, hT, (fr.2 _ (by omega)).trans c3, ⟨n, rs, (fr.2 _ (by omega)).trans c4, (fr.2 _ (by omega)).trans c4'⟩, (fr.2 _ (by omega)).trans c5, c6.ext (fun c _ _ => fr.2 c (by omega)), c7.ext (fun c _ _ => fr.2 c (by omega)), c8, c9, by rw [fr.1]; exact c10, fun j s hj hs => ?_, c12⟩
  obtain ⟨d1, d2, d3⟩ := c11 j s hj hs
  exact ⟨d1.ext (fun c _ _ => fr.2 c (by omega)), d2, by rw [fr.1]; exact d3⟩
theorem ModP.txt (hM : ModP h m er bs len f K KS) (fM : ∀ c, m < c → c < m + 12 → ¬ c = m + 10 → h2.2 c = h.2 c) (m2 : ∃ th at' bg e9 ea cm, ModC h2 m (m + 1) th (nI len') at' bg e9 ea er cm) (hB : ∃ B, h2.2 (m + 10) = some (.inl (.byte, 500, .inl B)) ∧ BufR bs' B len') : ModP h2 m er bs' len' f K KS := by
  obtain ⟨_, ⟨R, a1, r1⟩, ⟨R2, a2⟩, ⟨R3, a3⟩, ⟨RE, a5, r5⟩, ⟨RA, a6⟩, ⟨pk, a9⟩, _, ⟨CM, a11⟩, CC, CE, SV, a4, a7, a8, x1, x2⟩ := hM
  exact ⟨m2, ⟨R, (fM _ (by omega) (by omega) (by omega)).trans a1, r1⟩, ⟨R2, (fM _ (by omega) (by omega) (by omega)).trans a2⟩, ⟨R3, (fM _ (by omega) (by omega) (by omega)).trans a3⟩, ⟨RE, (fM _ (by omega) (by omega) (by omega)).trans a5, r5⟩, ⟨RA, (fM _ (by omega) (by omega) (by omega)).trans a6⟩, ⟨pk, (fM _ (by omega) (by omega) (by omega)).trans a9⟩, hB, ⟨CM, (fM _ (by omega) (by omega) (by omega)).trans a11⟩, CC, CE, SV, (fM _ (by omega) (by omega) (by omega)).trans a4, (fM _ (by omega) (by omega) (by omega)).trans a7, (fM _ (by omega) (by omega) (by omega)).trans a8, x1, x2⟩
/-- the text changes on both sides -/
theorem fin_t (hA : Γ.2.1 ≤ p) (hs : ScrP Γ h sa N S) (hM : ModP h m er bs len f K KS) (hP : PurP len' f K KS) (c1 : ClsP h1 p m b D er bs' len' f K KS) (hpm : m = p + 45) (B : Bet p m h h1 h3) (fz : h2.1 = h3.1) (fr : ∀ c, ¬ c = m → ¬ c = m + 10 → h2.2 c = h3.2 c) (m2 : ∃ th at' bg e9 ea cm, ModC h2 m (m + 1) th (nI len') at' bg e9 ea er cm) (hB : ∃ B, h2.2 (m + 10) = some (.inl (.byte, 500, .inl B)) ∧ BufR bs' B len') : Sim Γ h2 p m sa N S :=
  ⟨hA, hs.ext hA (fun c hc => (fr c (by omega) (by omega)).trans (B.1 c (by omega))), B.2.2.2.mv (fr _ (by omega) (by omega)) (fr _ (by omega) (by omega)), b, D, er, bs', len', f, K, KS, c1.ext (fun c hc => (fr c (by omega) (by omega)).trans (B.2.1 c hc)) (by rw [fz]; exact B.2.2.1), hP, hM.txt (fun c a b d => (fr c (by omega) d).trans (B.1 c (by omega))) m2 hB⟩
theorem BufR.more {B : FI} {u : Nat} (hB : BufR bs B len) (hu : u ≤ 255) : BufR (upd bs len (nI u)) (upd B len (nI u).toInt8.toInt32) (len + 1) := by
  intro i hi
  by_cases e : i = len
  · subst e
    exact ⟨u, hu, if_pos rfl, if_pos rfl⟩
  · obtain ⟨v, v1, v2, v3⟩ := hB i (by omega)
    exact ⟨v, v1, (if_neg e).trans v2, (if_neg e).trans v3⟩
end
section
variable {Γ : GE} {h : AH} {Q : PO} {m a np nb ne nh nc y : Nat} {R : FI} {qu ra le ln pl tm rw hw cw pk : FI} {re : Nat → UInt32} {RE : Nat → UInt32} {bk : Nat → Int64} {t x z w v th tl at' bg er ea lr cm : Int32}
theorem s_X10_advanceB (hM : ModC h m a th tl at' bg er ea lr cm) (hR : h.2 a = some (.inl (.int, 5061, .inl R))) (hr : RowR R np qu ra re le ln nb pl tm ne rw bk nh hw nc cw t y) (hI : Inv np qu ra re le ln nb pl tm ne rw bk nh hw nc cw t y) (hA : Γ.2.1 ≤ m) (ham : ¬ a = m) (hAa : Γ.2.1 ≤ a) (ham5 : ¬ a = m + 5) (hE : h.2 (m + 5) = some (.inl (.float, 8, .inr (.inr (.inl RE))))) (hre : ∀ j, j < np → RE j = re j)
    (k1 : inI x 1 1000 = false → ∀ h', ax_fr m (m + 1) h h' → ModC h' m a (nI 1) tl at' bg er ea lr cm → Q (.inl (some (.int 0))) h')
    (k0 : ∀ tn u, 1 ≤ u → u ≤ 1000 → x = nI u → t = nI tn → tn ≤ 1000000 → 1000000 < tn + u → ∀ h', ax_fr m (m + 1) h h' → ModC h' m a (0) tl at' bg er ea lr cm → Q (.inl (some (.int (-2)))) h')
    (k : ∀ tn u, 1 ≤ u → u ≤ 1000 → x = nI u → t = nI tn → tn + u ≤ 1000000 → ∀ h' R' RE', h'.1 = h.1 → (∀ c, ¬ c = m → ¬ c = a → ¬ c = m + 5 → h'.2 c = h.2 c) → ModC h' m a 0 tl at' bg er ea lr cm → h'.2 a = some (.inl (.int, 5061, .inl R')) → h'.2 (m + 5) = some (.inl (.float, 8, .inr (.inr (.inl RE')))) → (∀ j, j < np → RE' j = rntA ra re pl nb (nI u) j) → (∀ hw', (∀ r j, j < 5 → hw' (r * 5 + j) = if j = 4 ∧ r < nh ∧ dueB hw (nI (tn + u)) r = true then nI 3 else hw (r * 5 + j)) → RowR R' np qu ra re le ln nb pl tm ne rw bk nh hw' nc cw (nI (tn + u)) y) → Q (.inl (some (.int (nI (cntB (dueB hw (nI (tn + u))) nh))))) h') : WP Γ MX10_advance (3, 68, 0, 0) 0 [some (.ref m), some (.int x)] [] h Q := by
  have hM0 := hM
  unfold ModC at hM
  have hI0 := hI
  have hr0 := hr
  obtain ⟨⟨s1, s2, s3, s4, s5, s6, s7, s8, tn, s9, s10⟩, IM, IP, IJ, IR, IC⟩ := hI
  obtain ⟨⟨r0, r1, r2, r3, r4, r5, r6⟩, rM, rP, rJ, rH, rC⟩ := hr
  refine wp_aload_n (n := 1) dX10_advance_0 rfl rfl ?_
  refine wp_iload_n (n := 2) dX10_advance_1 rfl rfl ?_
  refine wp_iconst (n := 3) (v := nI 1) dX10_advance_2 rfl (by decide) ?_
  refine wp_sipush (n := 6) (v := nI 1000) dX10_advance_3 rfl (by decide) ?_
  refine wp_callS3 (n := 9) (rm' := (0, 0, 0, 0)) rfl dX10_advance_6 rfl mlX10_54 rfl rfl rfl rfl ?_
  refine s_X10_inJ (p := 1) (q := 1000) rfl rfl ?_
  show WP Γ _ _ _ _ _ _ _
  refine wp_iconst (n := 10) (v := nI 1) dX10_advance_9 rfl (by decide) ?_
  refine wp_callV2 (n := 13) (rm' := (0, 0, 0, 0)) rfl dX10_advance_10 rfl mlX10_113 (by repeat first | assumption | exact ax_set_self _ _ _ | exact ax_newA_self _ _ _ | refine (ax_set_ne _ _ (by omega)).trans ?_ | refine (ax_newA_ne _ _ _ (by omega)).trans ?_) rfl rfl rfl rfl rfl ?_
  refine s_X10_isThrown hM0 hA (fun hB f1 mB => ?_)
  show WP Γ _ _ _ _ _ _ _
  have fB := f1
  have hRB := fB.get hR (by omega)
  cases hx1 : inI x 1 1000 with
  | false =>
    rw [hx1] at mB
    refine wp_if_eq (t := 20) (n := 16) dX10_advance_13 (by decide) rfl (fun hq => ?_) (fun hq => ?_)
    · exact absurd hq (by decide)
    · refine wp_iconst (n := 17) (v := 0) dX10_advance_16 rfl (by decide) ?_
      refine wp_goto (t := 25) dX10_advance_17 (by decide) ?_
      exact wp_ireturn dX10_advance_25 rfl rfl (k1 hx1 hB fB mB)
  | true =>
    rw [hx1] at mB
    have mB' := mB
    unfold ModC at mB'
    refine wp_if_eq (t := 20) (n := 16) dX10_advance_13 (by decide) rfl (fun hq => ?_) (fun hq => ?_)
    · skip
      obtain ⟨u, u1, u2, rfl⟩ := inI_get (a := 1) (b := 1000) (by omega) (by omega) (of_decide_eq_true hx1).1 (of_decide_eq_true hx1).2
      have hEB := fB.get hE (by omega)
      refine wp_aload_n (n := 21) dX10_advance_20 rfl rfl ?_
      refine wp_iload_n (n := 22) dX10_advance_21 rfl rfl ?_
      refine wp_callV1 (n := 25) (rm' := (2, 45, 0, 0)) rfl dX10_advance_22 rfl mlX10_151 (by repeat first | assumption | exact ax_set_self _ _ _ | exact ax_newA_self _ _ _ | refine (ax_set_ne _ _ (by omega)).trans ?_ | refine (ax_newA_ne _ _ _ (by omega)).trans ?_) rfl rfl rfl rfl rfl ?_
      refine s_X10_passes mB hRB hr0 hI0 hA hAa ham ham5 hEB hre u1 u2 s10 s9 (fun e1 => ?_) (fun e1 h3 R3 RE3 f3 c3 d3 z3 z4 => ?_)
      · show WP Γ _ _ _ _ _ _ _
        exact wp_ireturn dX10_advance_25 rfl rfl (k0 tn u u1 u2 rfl s10 s9 e1 hB fB mB)
      · show WP Γ _ _ _ _ _ _ _
        exact wp_ireturn dX10_advance_25 rfl rfl (k tn u u1 u2 rfl s10 e1 h3 R3 RE3 (f3.1.trans fB.1) (fun c c1 c2 c9 => (f3.2 c c2 c9).trans (fB.2 c (by omega))) ((f3.2 m (by omega) (by omega)).trans mB) c3 d3 z3 z4)
    · exact absurd rfl hq
end
