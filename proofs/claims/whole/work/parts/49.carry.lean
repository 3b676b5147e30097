/-! ===== BatchReader: carrying out ===== -/
/-- a command on a ledger: none if it can't be carried out -/
def CmdR (c : Nat) (v f g l : Int32) : KL → Option KL → Prop
  | ((np, qu, ra, re, le, ln), (nb, pl, tm), (ne, rw, bk), (nh, hw), (nc, cw), t, y), o =>
    (c = 0 ∧ ∃ m i j, v = nI m ∧ m ≤ 200 ∧ f = nI i ∧ g = nI j ∧ i < np ∧ j < np ∧ (((if 300 ≤ ne then -2 else obs qu pl nb hw nh (nI i) j (nI m) 0) < 0 ∧ o = none) ∨ ∃ K', MovOk np qu ra re le ln nb pl tm ne rw bk nh hw nc cw t y (nI i) j m l K' ∧ o = some K'))
    ∨ (c = 1 ∧ ∃ m i j, v = nI m ∧ 1 ≤ m ∧ m ≤ 200 ∧ f = nI i ∧ g = nI j ∧ i < np ∧ j < np ∧ (((if 60 ≤ nh then -2 else obs qu pl nb hw nh (nI i) j (nI m) 0) < 0 ∧ o = none) ∨ ∃ K', HldOk np qu ra re le ln nb pl tm ne rw bk nh hw nc cw t y (nI i) j (nI m) l K' ∧ o = some K'))
    ∨ (c = 2 ∧ ∃ m tn, v = nI m ∧ 1 ≤ m ∧ m ≤ 1000 ∧ t = nI tn ∧ tn ≤ 1000000 ∧ ((1000000 < tn + m ∧ o = none) ∨ ∃ K', PasOk np qu ra re le ln nb pl tm ne rw bk nh hw nc cw t y m K' ∧ o = some K'))
    ∨ (c = 3 ∧ ∃ m, v = nI m ∧ m ≤ 299 ∧ ((¬ m < ne ∧ o = none) ∨ ∃ j, m < ne ∧ rw (m * 7 + 0) = nI j ∧ j < np ∧ ((∃ r, RevF qu pl nb ne rw bk nh hw m j r ∧ o = none) ∨ ∃ K', RevOk np qu ra re le ln nb pl tm ne rw bk nh hw nc cw t y m j K' ∧ o = some K')))
theorem RevF.neg {qu pl : FI} {nb ne : Nat} {rw : FI} {bk : Nat → Int64} {nh : Nat} {hw : FI} {e j : Nat} {r : Int32} (h : RevF qu pl nb ne rw bk nh hw e j r) : r < 0 := by
  rcases h with ⟨_, rfl⟩ | ⟨_, _, rfl⟩ | ⟨_, _, _, _, rfl⟩ | ⟨_, _, _, _, _, _, h⟩
  · decide
  · decide
  · decide
  · exact h
theorem nI_nn {n : Nat} (h : n < 2147483648) : ¬ nI n < 0 := Int32.not_lt.mpr (nI_ge0 n h)
section
variable {Γ : GE} {h : AH} {Q : PO} {q p n b np nb ne nh nc y : Nat} {rs : FI} {qu ra le ln pl tm rw hw cw pk : FI} {re : Nat → UInt32} {bk : Nat → Int64} {t x : Int32}
theorem s_X0_carryOutOne {i c : Nat} (hB : BatAt h q p n rs) (hL : LedP h b np qu ra re le ln nb pl tm ne rw bk nh hw nc cw t y pk) (hI : Inv np qu ra re le ln nb pl tm ne rw bk nh hw nc cw t y) (hA : Γ.2.1 ≤ b) (hi : i < 100) (hc9 : rs (i * 5 + 0) = nI c) (hV : VC np c (rs (i * 5 + 1)) (rs (i * 5 + 2)) (rs (i * 5 + 3)) (rs (i * 5 + 4)))
    (k0 : ∀ r h', r < 0 → CmdR c (rs (i * 5 + 1)) (rs (i * 5 + 2)) (rs (i * 5 + 3)) (rs (i * 5 + 4)) (mkK np qu ra re le ln nb pl tm ne rw bk nh hw nc cw t y) none → ax_fr b (b + 19) h h' → LedAt h' b np qu ra re le ln nb pl tm ne rw bk nh hw nc cw t y → Q (.inl (some (.int r))) h')
    (k1 : ∀ r K' h', ¬ r < 0 → CmdR c (rs (i * 5 + 1)) (rs (i * 5 + 2)) (rs (i * 5 + 3)) (rs (i * 5 + 4)) (mkK np qu ra re le ln nb pl tm ne rw bk nh hw nc cw t y) (some K') → InvK K' → ax_fr b (b + 19) h h' → LedK h' b K' → Q (.inl (some (.int r))) h') : WP Γ MX0_carryOutOne (4, 99, 0, 0) 0 [some (.ref q), some (.int (nI i * nI 5)), some (.ref b), none, none, none, none] [] h Q := by
  have hO := hB.1
  have hR := hB.2
  have hLO := hL.1
  have hI0 := hI
  obtain ⟨⟨s1, s2, s3, s4, s5, s6, s7, s8, tn, s9, s10⟩, IM, IP, IJ, IR, IC⟩ := hI
  refine wp_aload_n (n := 1) dX0_carryOutOne_0 rfl rfl ?_
  refine wp_getf (n := 4) dX0_carryOutOne_1 rfl flX0_11 (by repeat first | assumption | exact ax_set_self _ _ _ | exact ax_newA_self _ _ _ | refine (ax_set_ne _ _ (by omega)).trans ?_ | refine (ax_newA_ne _ _ _ (by omega)).trans ?_) (by rfl) ?_
  refine wp_iload_n (n := 5) dX0_carryOutOne_4 rfl rfl ?_
  refine wp_iconst (n := 6) (v := nI 1) dX0_carryOutOne_5 rfl (by decide) ?_
  refine wp_iadd (n := 7) dX0_carryOutOne_6 rfl ?_
  refine wp_iald (n := 8) (i * 5 + 1) dX0_carryOutOne_7 rfl (by repeat first | assumption | exact ax_set_self _ _ _ | exact ax_newA_self _ _ _ | refine (ax_set_ne _ _ (by omega)).trans ?_ | refine (ax_newA_ne _ _ _ (by omega)).trans ?_) (by simp only [nI_zero, nI_mul, nI_add]) (by omega) (by omega) ?_
  refine wp_istore_n (n := 9) dX0_carryOutOne_8 rfl rfl rfl rfl ?_
  refine wp_aload_n (n := 10) dX0_carryOutOne_9 rfl rfl ?_
  refine wp_getf (n := 13) dX0_carryOutOne_10 rfl flX0_11 (by repeat first | assumption | exact ax_set_self _ _ _ | exact ax_newA_self _ _ _ | refine (ax_set_ne _ _ (by omega)).trans ?_ | refine (ax_newA_ne _ _ _ (by omega)).trans ?_) (by rfl) ?_
  refine wp_iload_n (n := 14) dX0_carryOutOne_13 rfl rfl ?_
  refine wp_iconst (n := 15) (v := nI 2) dX0_carryOutOne_14 rfl (by decide) ?_
  refine wp_iadd (n := 16) dX0_carryOutOne_15 rfl ?_
  refine wp_iald (n := 17) (i * 5 + 2) dX0_carryOutOne_16 rfl (by repeat first | assumption | exact ax_set_self _ _ _ | exact ax_newA_self _ _ _ | refine (ax_set_ne _ _ (by omega)).trans ?_ | refine (ax_newA_ne _ _ _ (by omega)).trans ?_) (by simp only [nI_zero, nI_mul, nI_add]) (by omega) (by omega) ?_
  refine wp_istore (n := 19) dX0_carryOutOne_17 rfl rfl rfl rfl ?_
  refine wp_aload_n (n := 20) dX0_carryOutOne_19 rfl rfl ?_
  refine wp_getf (n := 23) dX0_carryOutOne_20 rfl flX0_11 (by repeat first | assumption | exact ax_set_self _ _ _ | exact ax_newA_self _ _ _ | refine (ax_set_ne _ _ (by omega)).trans ?_ | refine (ax_newA_ne _ _ _ (by omega)).trans ?_) (by rfl) ?_
  refine wp_iload_n (n := 24) dX0_carryOutOne_23 rfl rfl ?_
  refine wp_iconst (n := 25) (v := nI 3) dX0_carryOutOne_24 rfl (by decide) ?_
  refine wp_iadd (n := 26) dX0_carryOutOne_25 rfl ?_
  refine wp_iald (n := 27) (i * 5 + 3) dX0_carryOutOne_26 rfl (by repeat first | assumption | exact ax_set_self _ _ _ | exact ax_newA_self _ _ _ | refine (ax_set_ne _ _ (by omega)).trans ?_ | refine (ax_newA_ne _ _ _ (by omega)).trans ?_) (by simp only [nI_zero, nI_mul, nI_add]) (by omega) (by omega) ?_
  refine wp_istore (n := 29) dX0_carryOutOne_27 rfl rfl rfl rfl ?_
  refine wp_aload_n (n := 30) dX0_carryOutOne_29 rfl rfl ?_
  refine wp_getf (n := 33) dX0_carryOutOne_30 rfl flX0_11 (by repeat first | assumption | exact ax_set_self _ _ _ | exact ax_newA_self _ _ _ | refine (ax_set_ne _ _ (by omega)).trans ?_ | refine (ax_newA_ne _ _ _ (by omega)).trans ?_) (by rfl) ?_
  refine wp_iload_n (n := 34) dX0_carryOutOne_33 rfl rfl ?_
  refine wp_iconst (n := 35) (v := nI 4) dX0_carryOutOne_34 rfl (by decide) ?_
  refine wp_iadd (n := 36) dX0_carryOutOne_35 rfl ?_
  refine wp_iald (n := 37) (i * 5 + 4) dX0_carryOutOne_36 rfl (by repeat first | assumption | exact ax_set_self _ _ _ | exact ax_newA_self _ _ _ | refine (ax_set_ne _ _ (by omega)).trans ?_ | refine (ax_newA_ne _ _ _ (by omega)).trans ?_) (by simp only [nI_zero, nI_mul, nI_add]) (by omega) (by omega) ?_
  refine wp_istore (n := 39) dX0_carryOutOne_37 rfl rfl rfl rfl ?_
  refine wp_aload_n (n := 40) dX0_carryOutOne_39 rfl rfl ?_
  refine wp_getf (n := 43) dX0_carryOutOne_40 rfl flX0_11 (by repeat first | assumption | exact ax_set_self _ _ _ | exact ax_newA_self _ _ _ | refine (ax_set_ne _ _ (by omega)).trans ?_ | refine (ax_newA_ne _ _ _ (by omega)).trans ?_) (by rfl) ?_
  refine wp_iload_n (n := 44) dX0_carryOutOne_43 rfl rfl ?_
  refine wp_iald (n := 45) (i * 5 + 0) dX0_carryOutOne_44 rfl hR (by rw [nI_mul]; rfl) (by omega) (by omega) ?_
  rw [hc9]
  generalize rs (i * 5 + 1) = v at *
  generalize rs (i * 5 + 2) = f at *
  generalize rs (i * 5 + 3) = g at *
  generalize rs (i * 5 + 4) = l at *
  have hc4 : c ≤ 3 := by rcases hV with z | z | z | z <;> omega
  have eI : (nI c).toInt = c := nI_toInt (by omega)
  rcases hV with ⟨rfl, m, i1, j1, rfl, m1, m2, rfl, rfl, i2, j2, _⟩ | ⟨rfl, m, i1, j1, u, rfl, m1, m2, rfl, rfl, i2, j2, rfl, u1, u2⟩ | ⟨rfl, m, rfl, m1, m2⟩ | ⟨rfl, m, rfl, m2⟩
  · refine wp_tableIn (t := 72) (off := 27) dX0_carryOutOne_45 (by decide) (by decide) (by decide) (by decide) ?_
    refine wp_aload_n (n := 73) dX0_carryOutOne_72 rfl rfl ?_
    refine wp_iload (n := 75) dX0_carryOutOne_73 rfl rfl ?_
    refine wp_iload (n := 77) dX0_carryOutOne_75 rfl rfl ?_
    refine wp_iload_n (n := 78) dX0_carryOutOne_77 rfl rfl ?_
    refine wp_iload (n := 80) dX0_carryOutOne_78 rfl rfl ?_
    refine wp_callV4 (n := 83) (rm' := (3, 74, 0, 0)) rfl dX0_carryOutOne_80 rfl mlX0_98 (by repeat first | assumption | exact ax_set_self _ _ _ | exact ax_newA_self _ _ _ | refine (ax_set_ne _ _ (by omega)).trans ?_ | refine (ax_newA_ne _ _ _ (by omega)).trans ?_) rfl rfl rfl rfl rfl ?_
    refine s_X5_move hL hA s4 s6 s5 (by omega) m2 s8 (fun d hd => (IM d hd).2) (fun r r1 r2 => ?_) (fun a1 a2 h3 bk3 pk3 f3 z3 hL3 b3 => ?_)
    · show WP Γ _ _ _ _ _ _ _
      exact wp_ireturn dX0_carryOutOne_83 rfl rfl (k0 r h r2 (Or.inl ⟨rfl, m, i1, j1, rfl, m2, rfl, rfl, i2, j2, Or.inl ⟨r1 ▸ r2, rfl⟩⟩) ax_fr.rf ⟨pk, hL⟩)
    · show WP Γ _ _ _ _ _ _ _
      have mo : MovOk np qu ra re le ln nb pl tm ne rw bk nh hw nc cw t y (nI i1) j1 m l (mkK np qu ra re le ln nb (putF pl nb pk3 (nI j1)) (putF tm nb pk3 t) (ne + 1) (upd7 rw ne (nI i1) (nI j1) (nI m) l t 0 (-1)) bk3 nh hw nc cw t y) := ⟨a1, a2, bk3, pk3, z3, b3, rfl⟩
      exact wp_ireturn dX0_carryOutOne_83 rfl rfl (k1 _ _ h3 (nI_nn (by omega)) (Or.inl ⟨rfl, m, i1, j1, rfl, m2, rfl, rfl, i2, j2, Or.inr ⟨_, mo, rfl⟩⟩) (hI0.mov i2 j2 m2 mo) f3 ⟨pk3, hL3⟩)
  · refine wp_tableIn (t := 84) (off := 39) dX0_carryOutOne_45 (by decide) (by decide) (by decide) (by decide) ?_
    refine wp_aload_n (n := 85) dX0_carryOutOne_84 rfl rfl ?_
    refine wp_iload (n := 87) dX0_carryOutOne_85 rfl rfl ?_
    refine wp_iload (n := 89) dX0_carryOutOne_87 rfl rfl ?_
    refine wp_iload_n (n := 90) dX0_carryOutOne_89 rfl rfl ?_
    refine wp_iload (n := 92) dX0_carryOutOne_90 rfl rfl ?_
    refine wp_callV4 (n := 95) (rm' := (3, 70, 0, 0)) rfl dX0_carryOutOne_92 rfl mlX0_103 (by repeat first | assumption | exact ax_set_self _ _ _ | exact ax_newA_self _ _ _ | refine (ax_set_ne _ _ (by omega)).trans ?_ | refine (ax_newA_ne _ _ _ (by omega)).trans ?_) rfl rfl rfl rfl rfl ?_
    refine s_X5_hold hL hA s4 s6 (by omega) (fun r r1 r2 => ?_) (fun a1 a2 h3 f3 hL3 => ?_)
    · show WP Γ _ _ _ _ _ _ _
      exact wp_ireturn dX0_carryOutOne_95 rfl rfl (k0 r h r2 (Or.inr (Or.inl ⟨rfl, m, i1, j1, rfl, m1, m2, rfl, rfl, i2, j2, Or.inl ⟨r1 ▸ r2, rfl⟩⟩)) ax_fr.rf ⟨pk, hL⟩)
    · show WP Γ _ _ _ _ _ _ _
      have mo : HldOk np qu ra re le ln nb pl tm ne rw bk nh hw nc cw t y (nI i1) j1 (nI m) (nI u) (mkK np qu ra re le ln nb pl tm ne rw bk (nh + 1) (upd5 hw nh (nI i1) (nI j1) (nI m) (t + nI u) 0) nc cw t y) := ⟨a1, a2, rfl⟩
      exact wp_ireturn dX0_carryOutOne_95 rfl rfl (k1 _ _ h3 (nI_nn (by omega)) (Or.inr (Or.inl ⟨rfl, m, i1, j1, rfl, m1, m2, rfl, rfl, i2, j2, Or.inr ⟨_, mo, rfl⟩⟩)) (hI0.hld i2 j2 m1 m2 mo) f3 ⟨pk, hL3⟩)
  · refine wp_tableIn (t := 96) (off := 51) dX0_carryOutOne_45 (by decide) (by decide) (by decide) (by decide) ?_
    refine wp_aload_n (n := 97) dX0_carryOutOne_96 rfl rfl ?_
    refine wp_iload_n (n := 98) dX0_carryOutOne_97 rfl rfl ?_
    refine wp_callV1 (n := 101) (rm' := (3, 66, 0, 0)) rfl dX0_carryOutOne_98 rfl mlX0_105 (by repeat first | assumption | exact ax_set_self _ _ _ | exact ax_newA_self _ _ _ | refine (ax_set_ne _ _ (by omega)).trans ?_ | refine (ax_newA_ne _ _ _ (by omega)).trans ?_) rfl rfl rfl rfl rfl ?_
    refine s_X5_pass hL hA s4 s2 s6 m2 s10 s9 (fun j hj => (IP j hj).1) (fun j hj => by obtain ⟨r, a, b⟩ := (IP j hj).2.1; exact ⟨r, b, a⟩) (fun z => ?_) (fun z h3 re3 hw3 f3 e1 e2 e3 hL3 => ?_)
    · show WP Γ _ _ _ _ _ _ _
      exact wp_ireturn dX0_carryOutOne_101 rfl rfl (k0 _ h (by decide) (Or.inr (Or.inr (Or.inl ⟨rfl, m, tn, rfl, m1, m2, s10, s9, Or.inl ⟨z, rfl⟩⟩))) ax_fr.rf ⟨pk, hL⟩)
    · show WP Γ _ _ _ _ _ _ _
      have mo : PasOk np qu ra re le ln nb pl tm ne rw bk nh hw nc cw t y m (mkK np qu ra re3 le ln nb pl tm ne rw bk nh hw3 nc cw (nI (tn + m)) y) := ⟨tn, s10, z, re3, hw3, e1, e2, e3, rfl⟩
      have cb := cntB_le (dueB hw (nI (tn + m))) nh
      exact wp_ireturn dX0_carryOutOne_101 rfl rfl (k1 _ _ h3 (nI_nn (by omega)) (Or.inr (Or.inr (Or.inl ⟨rfl, m, tn, rfl, m1, m2, s10, s9, Or.inr ⟨_, mo, rfl⟩⟩))) (hI0.pas mo) f3 ⟨pk, hL3⟩)
  · refine wp_tableOut (t := 102) dX0_carryOutOne_45 (by decide) (by decide) ?_
    have hJ1 := hL.2.2.2.1.1
    refine wp_iload_n (n := 103) dX0_carryOutOne_102 rfl rfl ?_
    refine wp_aload_n (n := 104) dX0_carryOutOne_103 rfl rfl ?_
    refine wp_getf (n := 107) dX0_carryOutOne_104 rfl flX0_109 (by repeat first | assumption | exact ax_set_self _ _ _ | exact ax_newA_self _ _ _ | refine (ax_set_ne _ _ (by omega)).trans ?_ | refine (ax_newA_ne _ _ _ (by omega)).trans ?_) (by rfl) ?_
    refine wp_getf (n := 110) dX0_carryOutOne_107 rfl flX0_113 (by repeat first | assumption | exact ax_set_self _ _ _ | exact ax_newA_self _ _ _ | refine (ax_set_ne _ _ (by omega)).trans ?_ | refine (ax_newA_ne _ _ _ (by omega)).trans ?_) (by rfl) ?_
    refine wp_icmp_ge (t := 121) (n := 113) dX0_carryOutOne_110 (by decide) rfl (fun hq => ?_) (fun hq => ?_)
    · rw [nI_le9 (by omega) (by omega)] at hq
      refine wp_iconst (n := 122) (v := (-1)) dX0_carryOutOne_121 rfl (by decide) ?_
      exact wp_ireturn dX0_carryOutOne_122 rfl rfl (k0 _ h (by decide) (Or.inr (Or.inr (Or.inr ⟨rfl, m, rfl, m2, Or.inl ⟨by omega, rfl⟩⟩))) ax_fr.rf ⟨pk, hL⟩)
    · rw [nI_le9 (by omega) (by omega)] at hq
      obtain ⟨⟨j, j1, j2⟩, _⟩ := IJ.1 m (by omega)
      refine wp_aload_n (n := 114) dX0_carryOutOne_113 rfl rfl ?_
      refine wp_iload_n (n := 115) dX0_carryOutOne_114 rfl rfl ?_
      refine wp_callV1 (n := 118) (rm' := (3, 70, 0, 0)) rfl dX0_carryOutOne_115 rfl mlX0_116 (by repeat first | assumption | exact ax_set_self _ _ _ | exact ax_newA_self _ _ _ | refine (ax_set_ne _ _ (by omega)).trans ?_ | refine (ax_newA_ne _ _ _ (by omega)).trans ?_) rfl rfl rfl rfl rfl ?_
      refine s_X5_moveBack hL hA s4 s6 s5 (by omega) j2 (by omega) (fun r h3 hL3 f3 c3 => ?_) (fun a1 a2 a3 a4 a5 h3 bk3 pk3 f3 z3 hL3 b3 => ?_)
      · show WP Γ _ _ _ _ _ _ _
        have c3 : RevF qu pl nb ne rw bk nh hw m j r := c3
        refine wp_goto (t := 122) dX0_carryOutOne_118 (by decide) ?_
        exact wp_ireturn dX0_carryOutOne_122 rfl rfl (k0 r h3 c3.neg (Or.inr (Or.inr (Or.inr ⟨rfl, m, rfl, m2, Or.inr ⟨j, by omega, j2, j1, Or.inl ⟨r, c3, rfl⟩⟩⟩))) f3 hL3)
      · show WP Γ _ _ _ _ _ _ _
        have mo : RevOk np qu ra re le ln nb pl tm ne rw bk nh hw nc cw t y m j (mkK np qu ra re le ln nb (putF pl nb pk3 (nI j)) (putF tm nb pk3 t) (ne + 1) (upd (upd (upd7 rw ne (rw (m * 7 + 1)) (nI j) (rw (m * 7 + 2)) (rw (m * 7 + 3)) t (nI 1) (-1)) (m * 7 + 6) (nI ne)) (ne * 7 + 6) (nI m)) bk3 nh hw nc cw t y) := ⟨a1, a2, a3, a4, a5, bk3, pk3, z3, b3, rfl⟩
        refine wp_goto (t := 122) dX0_carryOutOne_118 (by decide) ?_
        exact wp_ireturn dX0_carryOutOne_122 rfl rfl (k1 _ _ h3 (nI_nn (by omega)) (Or.inr (Or.inr (Or.inr ⟨rfl, m, rfl, m2, Or.inr ⟨j, by omega, j2, j1, Or.inr ⟨_, mo, rfl⟩⟩⟩))) (hI0.rev (by omega) j2 j1 mo) f3 ⟨pk3, hL3⟩)
end
