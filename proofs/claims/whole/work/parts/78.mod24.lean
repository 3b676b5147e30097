/-! ===== the reference: reservations end ===== -/

theorem sumI_one {f g : FI} {r : Nat} : ∀ {n : Nat}, r < n → (∀ j, j < n → ¬ j = r → f j = g j) → sumI f n = sumI g n - g r + f r
  | 0, h, _ => absurd h (Nat.not_lt_zero _)
  | n + 1, h, e => by
    by_cases q : r = n
    · subst q
      show sumI f r + f r = sumI g r + g r - g r + f r
      rw [sumI_congr (fun i hi => e i (by omega) (by omega)), Int32.add_sub_cancel]
    · show sumI f n + f n = sumI g n + g n - g r + f r
      rw [sumI_one (n := n) (r := r) (by omega) (fun j h1 h2 => e j (by omega) h2), e n (by omega) (by omega)]
      rw [Int32.sub_eq_add_neg, Int32.sub_eq_add_neg, Int32.add_assoc, Int32.add_assoc, Int32.add_assoc, Int32.add_assoc]
      congr 1
      rw [← Int32.add_assoc, ← Int32.add_assoc, Int32.add_comm _ (g n), Int32.add_assoc]
theorem pSum_end {hw : FI} {nh r s : Nat} {x z : Int32} (hr : r < nh) (hp : pend hw r = true) (hz : ¬ z = 0) (hs : s < 2) : pSum (upd hw (r * 5 + 4) z) s x nh = pSum hw s x nh - (if hw (r * 5 + s) = x then hw (r * 5 + 2) else 0) := by
  unfold pSum
  have e : ∀ j q, ¬ (j = r ∧ q = 4) → q < 5 → upd hw (r * 5 + 4) z (j * 5 + q) = hw (j * 5 + q) := fun j q h hq => if_neg (fun w => h (by omega))
  rw [sumI_one (r := r) (g := fun r => if pend hw r = true ∧ hw (r * 5 + s) = x then hw (r * 5 + 2) else 0) hr (fun j hj hne => by
    have h1 : pend (upd hw (r * 5 + 4) z) j = pend hw j := by
      unfold pend
      rw [e j 4 (fun w => hne w.1) (by omega)]
    simp only [h1]
    rw [e j s (fun w => hne w.1) (by omega), e j 2 (fun w => hne w.1) (by omega)])]
  have h2 : ¬ (pend (upd hw (r * 5 + 4) z) r = true) := by
    unfold pend
    rw [show upd hw (r * 5 + 4) z (r * 5 + 4) = z from if_pos rfl, decide_eq_true_eq]
    exact hz
  simp only [h2, hp, Bool.false_eq_true, false_and, true_and, if_false, Int32.add_zero]
theorem i32_sub_sub_add (a b c : Int32) : a - (b - c) = a - b + c := by
  rw [Int32.sub_eq_add_neg, Int32.neg_sub, Int32.sub_eq_add_neg, Int32.sub_eq_add_neg, Int32.add_comm c, ← Int32.add_assoc]
theorem obs_end {qu pl : FI} {nb : Nat} {hw : FI} {nh r j : Nat} {x z c : Int32} (hr : r < nh) (hp : pend hw r = true) (hz : ¬ z = 0) (h0 : hw (r * 5 + 0) = x) (h1 : hw (r * 5 + 1) = nI j) (h2 : hw (r * 5 + 2) = c) : obs qu pl nb (upd hw (r * 5 + 4) z) nh x j c 0 = obs qu pl nb hw nh x j c c := by
  unfold obs avl roo
  rw [pSum_end hr hp hz (by omega), pSum_end hr hp hz (by omega), if_pos h0, if_pos h1, h2, Int32.add_zero, Int32.add_zero, i32_sub_sub_add, i32_sub_sub_add]
section
variable {Γ : GE} {h : AH} {Q : PO} {m a np nb ne nh nc y : Nat} {R : FI} {qu ra le ln pl tm rw hw cw pk : FI} {re : Nat → UInt32} {bk : Nat → Int64} {t x z w v th tl at' bg er ea lr cm : Int32}
theorem RowR.holdU {r q : Nat} {p : Int32} (h : RowR R np qu ra re le ln nb pl tm ne rw bk nh hw nc cw t y) (hS : InvS np nb ne nh nc y t) (hr : r < 60) (hq : q < 5) : RowR (upd R (4671 + 5 * r + q) p) np qu ra re le ln nb pl tm ne rw bk nh (upd hw (r * 5 + q) p) nc cw t y := by
  obtain ⟨i1, i2, i3, i4, i5, i6, i7, i8, i9⟩ := hS
  obtain ⟨⟨r0, r1, r2, r3, r4, r5, r6⟩, rM, rP, rJ, rH, rC⟩ := h
  have eo : ∀ u, ¬ u = 4671 + 5 * r + q → upd R (4671 + 5 * r + q) p u = R u := fun u hu => if_neg hu
  refine ⟨⟨(eo 0 (by omega)).trans r0, (eo 1 (by omega)).trans r1, (eo 2 (by omega)).trans r2, (eo 3 (by omega)).trans r3, (eo 4 (by omega)).trans r4, (eo 5 (by omega)).trans r5, (eo 6 (by omega)).trans r6⟩, fun d hd => ⟨(eo _ (by omega)).trans (rM d hd).1, (eo _ (by omega)).trans (rM d hd).2⟩, fun j hj => ⟨(eo _ (by omega)).trans (rP j hj).1, (eo _ (by omega)).trans (rP j hj).2.1, fun i hi => (eo _ (by omega)).trans ((rP j hj).2.2 i hi)⟩, fun e he => ⟨fun q hq => (eo _ (by omega)).trans ((rJ e he).1 q hq), fun d hd => by rw [eo _ (by omega)]; exact (rJ e he).2 d hd⟩, fun r1 hr1 q1 hq1 => ?_, fun c hc => ⟨fun j hj => (eo _ (by omega)).trans ((rC c hc).1 j hj), (eo _ (by omega)).trans (rC c hc).2⟩⟩
  by_cases e : r1 * 5 + q1 = r * 5 + q
  · rw [show upd R (4671 + 5 * r + q) p (4671 + 5 * r1 + q1) = p from if_pos (by omega), show upd hw (r * 5 + q) p (r1 * 5 + q1) = p from if_pos e]
  · rw [eo _ (by omega), show upd hw (r * 5 + q) p (r1 * 5 + q1) = hw (r1 * 5 + q1) from if_neg e]
    exact rH r1 hr1 q1 hq1
theorem Inv.resU {r q : Nat} {p : Int32} (h : Inv np qu ra re le ln nb pl tm ne rw bk nh hw nc cw t y) (hq : 3 ≤ q) (hq2 : q < 5) : Inv np qu ra re le ln nb pl tm ne rw bk nh (upd hw (r * 5 + q) p) nc cw t y := h.res (fun r1 q1 _ h2 => if_neg (by omega))
end

section
variable {Γ : GE} {h : AH} {Q : PO} {m a np nb ne nh nc y : Nat} {R : FI} {qu ra le ln pl tm rw hw cw pk : FI} {re : Nat → UInt32} {bk : Nat → Int64} {t x z w v th tl at' bg er ea lr cm : Int32}
theorem s_X10_release (hM : ModC h m a th tl at' bg er ea lr cm) (hR : h.2 a = some (.inl (.int, 5061, .inl R))) (hr : RowR R np qu ra re le ln nb pl tm ne rw bk nh hw nc cw t y) (hI : Inv np qu ra re le ln nb pl tm ne rw bk nh hw nc cw t y) (hA : Γ.2.1 ≤ m) (ham : ¬ a = m) (hAa : Γ.2.1 ≤ a)
    (k1 : inN x nh = false → ∀ h', ax_fr m (m + 1) h h' → ModC h' m a (nI 1) tl at' bg er ea lr cm → Q (.inl (some (.int 0))) h')
    (k0 : ∀ r, r < nh → x = nI r → pend hw r = false → ∀ h', ax_fr m (m + 1) h h' → ModC h' m a (0) tl at' bg er ea lr cm → Q (.inl (some (.int (-5)))) h')
    (k : ∀ r, r < nh → x = nI r → pend hw r = true → ∀ h' R', h'.1 = h.1 → (∀ c, ¬ c = m → ¬ c = a → h'.2 c = h.2 c) → ModC h' m a 0 tl at' bg er ea lr cm → h'.2 a = some (.inl (.int, 5061, .inl R')) → RowR R' np qu ra re le ln nb pl tm ne rw bk nh (upd hw (r * 5 + 4) (nI 2)) nc cw t y → Q (.inl (some (.int (nI (cntB (pend (upd hw (r * 5 + 4) (nI 2))) nh))))) h') : WP Γ MX10_release (2, 43, 0, 0) 0 [some (.ref m), some (.int x), none, none] [] h Q := by
  have hM0 := hM
  unfold ModC at hM
  have hI0 := hI
  have hr0 := hr
  obtain ⟨⟨s1, s2, s3, s4, s5, s6, s7, s8, tn, s9, s10⟩, IM, IP, IJ, IR, IC⟩ := hI
  obtain ⟨⟨r0, r1, r2, r3, r4, r5, r6⟩, rM, rP, rJ, rH, rC⟩ := hr
  refine wp_aload_n (n := 1) dX10_release_0 rfl rfl ?_
  refine wp_aload_n (n := 2) dX10_release_1 rfl rfl ?_
  refine wp_iload_n (n := 3) dX10_release_2 rfl rfl ?_
  refine wp_callV1 (n := 6) (rm' := (1, 22, 0, 0)) rfl dX10_release_3 rfl mlX10_142 (by repeat first | assumption | exact ax_set_self _ _ _ | exact ax_newA_self _ _ _ | refine (ax_set_ne _ _ (by omega)).trans ?_ | refine (ax_newA_ne _ _ _ (by omega)).trans ?_) rfl rfl rfl rfl rfl ?_
  refine s_X10_isHold hM0 hR r5 s6 ?_
  show WP Γ _ _ _ _ _ _ _
  refine wp_iconst (n := 7) (v := nI 1) dX10_release_6 rfl (by decide) ?_
  refine wp_callV2 (n := 10) (rm' := (0, 0, 0, 0)) rfl dX10_release_7 rfl mlX10_113 (by repeat first | assumption | exact ax_set_self _ _ _ | exact ax_newA_self _ _ _ | refine (ax_set_ne _ _ (by omega)).trans ?_ | refine (ax_newA_ne _ _ _ (by omega)).trans ?_) rfl rfl rfl rfl rfl ?_
  refine s_X10_isThrown hM0 hA (fun hB f1 mB => ?_)
  show WP Γ _ _ _ _ _ _ _
  have fB := f1
  have hRB := fB.get hR (by omega)
  cases hx1 : inN x nh with
  | false =>
    rw [hx1] at mB
    refine wp_if_eq (t := 15) (n := 13) dX10_release_10 (by decide) rfl (fun hq => ?_) (fun hq => ?_)
    · exact absurd hq (by decide)
    · refine wp_iconst (n := 14) (v := 0) dX10_release_13 rfl (by decide) ?_
      exact wp_ireturn dX10_release_14 rfl rfl (k1 hx1 hB fB mB)
  | true =>
    rw [hx1] at mB
    have mB' := mB
    unfold ModC at mB'
    refine wp_if_eq (t := 15) (n := 13) dX10_release_10 (by decide) rfl (fun hq => ?_) (fun hq => ?_)
    · skip
      obtain ⟨r, r9, rfl⟩ := inN_get (n := nh) (by omega) (of_decide_eq_true hx1).1 (of_decide_eq_true hx1).2
      refine wp_aload_n (n := 16) dX10_release_15 rfl rfl ?_
      refine wp_iload_n (n := 17) dX10_release_16 rfl rfl ?_
      refine wp_iconst (n := 18) (v := nI 4) dX10_release_17 rfl (by decide) ?_
      refine wp_callV2 (n := 21) (rm' := (0, 0, 0, 0)) rfl dX10_release_18 rfl mlX10_58 (by repeat first | assumption | exact ax_set_self _ _ _ | exact ax_newA_self _ _ _ | refine (ax_set_ne _ _ (by omega)).trans ?_ | refine (ax_newA_ne _ _ _ (by omega)).trans ?_) rfl rfl rfl rfl rfl ?_
      refine s_X10_hold mB hRB (by omega) (by omega) ?_
      show WP Γ _ _ _ _ _ _ _
      rw [rH r r9 4 (by omega)]
      refine wp_if_eq (t := 27) (n := 24) dX10_release_21 (by decide) rfl (fun hc => ?_) (fun hc => ?_)
      · refine wp_aload_n (n := 28) dX10_release_27 rfl rfl ?_
        refine wp_iload_n (n := 29) dX10_release_28 rfl rfl ?_
        refine wp_iconst (n := 30) (v := nI 4) dX10_release_29 rfl (by decide) ?_
        refine wp_iconst (n := 31) (v := nI 2) dX10_release_30 rfl (by decide) ?_
        refine wp_callV3 (n := 34) (rm' := (0, 0, 0, 0)) rfl dX10_release_31 rfl mlX10_136 (by repeat first | assumption | exact ax_set_self _ _ _ | exact ax_newA_self _ _ _ | refine (ax_set_ne _ _ (by omega)).trans ?_ | refine (ax_newA_ne _ _ _ (by omega)).trans ?_) rfl rfl rfl rfl rfl ?_
        refine s_X10_setsHold mB hRB hAa (by omega) (by omega) (fun h3 f3 c3 => ?_)
        show WP Γ _ _ _ _ _ _ _
        have hp : pend hw r = true := decide_eq_true hc
        have m3 := mB.fr f3 (by omega)
        have m3' := m3
        unfold ModC at m3'
        have hr3 := hr0.holdU (r := r) (q := 4) (p := nI 2) hI0.1 (by omega) (by omega)
        have x5 := hr3.1.2.2.2.2.2.1
        have xH := hr3.2.2.2.2.1
        have kk := k r r9 rfl hp h3 _ (f3.1.trans fB.1) (fun c c1 c2 => (f3.2 c (by omega)).trans (fB.2 c (by omega))) m3 c3 hr3
        refine wp_iconst (n := 35) (v := 0) dX10_release_34 rfl (by decide) ?_
        refine wp_istore_n (n := 36) dX10_release_35 rfl rfl rfl rfl ?_
        refine wp_iconst (n := 37) (v := 0) dX10_release_36 rfl (by decide) ?_
        refine wp_istore_n (n := 38) dX10_release_37 rfl rfl rfl rfl ?_
        suffices L : ∀ d, d ≤ nh → WP Γ MX10_release (2, 43, 0, 0) 38 [some (.ref m), some (.int (nI r)), some (.int (nI (cntB (pend (upd hw (r * 5 + 4) (nI 2))) d))), some (.int (nI d))] [] h3 Q from L 0 (Nat.zero_le _)
        refine ax_up nh (fun d hd ih => ?_)
        refine wp_iload_n (n := 39) dX10_release_38 rfl rfl ?_
        refine wp_aload_n (n := 40) dX10_release_39 rfl rfl ?_
        refine wp_getf (n := 43) dX10_release_40 rfl flX10_9 (by repeat first | assumption | exact ax_set_self _ _ _ | exact ax_newA_self _ _ _ | refine (ax_set_ne _ _ (by omega)).trans ?_ | refine (ax_newA_ne _ _ _ (by omega)).trans ?_) (by rfl) ?_
        refine wp_iconst (n := 44) (v := nI 5) dX10_release_43 rfl (by decide) ?_
        refine wp_iald (n := 45) _ dX10_release_44 rfl (by repeat first | assumption | exact ax_set_self _ _ _ | exact ax_newA_self _ _ _ | refine (ax_set_ne _ _ (by omega)).trans ?_ | refine (ax_newA_ne _ _ _ (by omega)).trans ?_) rfl (by omega) (by decide) ?_
        rw [x5]
        refine wp_icmp_ge (t := 71) (n := 48) dX10_release_45 (by decide) rfl (fun hq => ?_) (fun hq => ?_)
        · rw [nI_le9 (by omega) (by omega)] at hq
          obtain rfl : d = nh := by omega
          refine wp_iload_n (n := 72) dX10_release_71 rfl rfl ?_
          exact wp_ireturn dX10_release_72 rfl rfl (kk)
        · rw [nI_le9 (by omega) (by omega)] at hq
          have hlt : d < nh := by omega
          have ih := ih hlt
          refine wp_iload_n (n := 49) dX10_release_48 rfl rfl ?_
          refine wp_aload_n (n := 50) dX10_release_49 rfl rfl ?_
          refine wp_iload_n (n := 51) dX10_release_50 rfl rfl ?_
          refine wp_iconst (n := 52) (v := nI 4) dX10_release_51 rfl (by decide) ?_
          refine wp_callV2 (n := 55) (rm' := (0, 0, 0, 0)) rfl dX10_release_52 rfl mlX10_58 (by repeat first | assumption | exact ax_set_self _ _ _ | exact ax_newA_self _ _ _ | refine (ax_set_ne _ _ (by omega)).trans ?_ | refine (ax_newA_ne _ _ _ (by omega)).trans ?_) rfl rfl rfl rfl rfl ?_
          refine s_X10_hold m3 c3 (by omega) (by omega) ?_
          show WP Γ _ _ _ _ _ _ _
          rw [xH d hlt 4 (by omega)]
          refine wp_if_ne (t := 62) (n := 58) dX10_release_55 (by decide) rfl (fun hs => ?_) (fun hs => ?_)
          · rw [show cntB (pend (upd hw (r * 5 + 4) (nI 2))) (d + 1) = cntB (pend (upd hw (r * 5 + 4) (nI 2))) d by
              show _ + (if pend (upd hw (r * 5 + 4) (nI 2)) d = true then 1 else 0) = _
              rw [show pend (upd hw (r * 5 + 4) (nI 2)) d = false from decide_eq_false hs]; rfl] at ih
            refine wp_iconst (n := 63) (v := 0) dX10_release_62 rfl (by decide) ?_
            refine wp_iadd (n := 64) dX10_release_63 rfl ?_
            rw [Int32.add_zero]
            refine wp_istore_n (n := 65) dX10_release_64 rfl rfl rfl rfl ?_
            refine wp_iinc (n := 68) dX10_release_65 rfl rfl (nI_inc d) rfl rfl rfl ?_
            refine wp_goto (t := 38) dX10_release_68 (by decide) ?_
            exact ih
          · rw [show cntB (pend (upd hw (r * 5 + 4) (nI 2))) (d + 1) = cntB (pend (upd hw (r * 5 + 4) (nI 2))) d + 1 by
              show _ + (if pend (upd hw (r * 5 + 4) (nI 2)) d = true then 1 else 0) = _
              rw [show pend (upd hw (r * 5 + 4) (nI 2)) d = true from decide_eq_true hs]; rfl] at ih
            refine wp_iconst (n := 59) (v := nI 1) dX10_release_58 rfl (by decide) ?_
            refine wp_goto (t := 63) dX10_release_59 (by decide) ?_
            refine wp_iadd (n := 64) dX10_release_63 rfl ?_
            rw [nI_add]
            refine wp_istore_n (n := 65) dX10_release_64 rfl rfl rfl rfl ?_
            refine wp_iinc (n := 68) dX10_release_65 rfl rfl (nI_inc d) rfl rfl rfl ?_
            refine wp_goto (t := 38) dX10_release_68 (by decide) ?_
            exact ih
      · refine wp_bipush (n := 26) (v := (-5)) dX10_release_24 rfl (by decide) ?_
        exact wp_ireturn dX10_release_26 rfl rfl (k0 r r9 rfl (decide_eq_false hc) hB fB mB)
    · exact absurd rfl hq
theorem s_X10_extend (hM : ModC h m a th tl at' bg er ea lr cm) (hR : h.2 a = some (.inl (.int, 5061, .inl R))) (hr : RowR R np qu ra re le ln nb pl tm ne rw bk nh hw nc cw t y) (hI : Inv np qu ra re le ln nb pl tm ne rw bk nh hw nc cw t y) (hA : Γ.2.1 ≤ m) (ham : ¬ a = m) (hAa : Γ.2.1 ≤ a)
    (k1 : inN x nh = false → ∀ h', ax_fr m (m + 1) h h' → ModC h' m a (nI 1) tl at' bg er ea lr cm → Q (.inl (some (.int 0))) h')
    (k2 : inN x nh = true → inI z 1 1000 = false → ∀ h', ax_fr m (m + 1) h h' → ModC h' m a (nI 2) tl at' bg er ea lr cm → Q (.inl (some (.int 0))) h')
    (k0 : ∀ r, r < nh → x = nI r → ∀ u, 1 ≤ u → u ≤ 1000 → z = nI u → pend hw r = false → ∀ h', ax_fr m (m + 1) h h' → ModC h' m a (0) tl at' bg er ea lr cm → Q (.inl (some (.int (-5)))) h')
    (k : ∀ r, r < nh → x = nI r → ∀ u, 1 ≤ u → u ≤ 1000 → z = nI u → pend hw r = true → ∀ h' R', h'.1 = h.1 → (∀ c, ¬ c = m → ¬ c = a → h'.2 c = h.2 c) → ModC h' m a 0 tl at' bg er ea lr cm → h'.2 a = some (.inl (.int, 5061, .inl R')) → RowR R' np qu ra re le ln nb pl tm ne rw bk nh (upd hw (r * 5 + 3) (hw (r * 5 + 3) + nI u)) nc cw t y → Q (.inl (some (.int (hw (r * 5 + 3) + nI u)))) h') : WP Γ MX10_extend (2, 43, 0, 0) 0 [some (.ref m), some (.int x), some (.int z)] [] h Q := by
  have hM0 := hM
  unfold ModC at hM
  have hI0 := hI
  have hr0 := hr
  obtain ⟨⟨s1, s2, s3, s4, s5, s6, s7, s8, tn, s9, s10⟩, IM, IP, IJ, IR, IC⟩ := hI
  obtain ⟨⟨r0, r1, r2, r3, r4, r5, r6⟩, rM, rP, rJ, rH, rC⟩ := hr
  refine wp_aload_n (n := 1) dX10_extend_0 rfl rfl ?_
  refine wp_aload_n (n := 2) dX10_extend_1 rfl rfl ?_
  refine wp_iload_n (n := 3) dX10_extend_2 rfl rfl ?_
  refine wp_callV1 (n := 6) (rm' := (1, 22, 0, 0)) rfl dX10_extend_3 rfl mlX10_142 (by repeat first | assumption | exact ax_set_self _ _ _ | exact ax_newA_self _ _ _ | refine (ax_set_ne _ _ (by omega)).trans ?_ | refine (ax_newA_ne _ _ _ (by omega)).trans ?_) rfl rfl rfl rfl rfl ?_
  refine s_X10_isHold hM0 hR r5 s6 ?_
  show WP Γ _ _ _ _ _ _ _
  refine wp_iconst (n := 7) (v := nI 1) dX10_extend_6 rfl (by decide) ?_
  refine wp_callV2 (n := 10) (rm' := (0, 0, 0, 0)) rfl dX10_extend_7 rfl mlX10_113 (by repeat first | assumption | exact ax_set_self _ _ _ | exact ax_newA_self _ _ _ | refine (ax_set_ne _ _ (by omega)).trans ?_ | refine (ax_newA_ne _ _ _ (by omega)).trans ?_) rfl rfl rfl rfl rfl ?_
  refine s_X10_isThrown hM0 hA (fun h1 f1 m1 => ?_)
  show WP Γ _ _ _ _ _ _ _
  have fa1 := f1
  have hR1 := fa1.get hR (by omega)
  cases hx1 : inN x nh with
  | false =>
    rw [hx1] at m1
    refine wp_if_ne (t := 29) (n := 13) dX10_extend_10 (by decide) rfl (fun hq => ?_) (fun hq => ?_)
    · refine wp_iconst (n := 30) (v := 0) dX10_extend_29 rfl (by decide) ?_
      exact wp_ireturn dX10_extend_30 rfl rfl (k1 hx1 h1 fa1 m1)
    · exact absurd hq (by decide)
  | true =>
    rw [hx1] at m1
    have m1' := m1
    unfold ModC at m1'
    refine wp_if_ne (t := 29) (n := 13) dX10_extend_10 (by decide) rfl (fun hq => ?_) (fun hq => ?_)
    · exact absurd rfl hq
    · skip
      refine wp_aload_n (n := 14) dX10_extend_13 rfl rfl ?_
      refine wp_iload_n (n := 15) dX10_extend_14 rfl rfl ?_
      refine wp_iconst (n := 16) (v := nI 1) dX10_extend_15 rfl (by decide) ?_
      refine wp_sipush (n := 19) (v := nI 1000) dX10_extend_16 rfl (by decide) ?_
      refine wp_callS3 (n := 22) (rm' := (0, 0, 0, 0)) rfl dX10_extend_19 rfl mlX10_54 rfl rfl rfl rfl ?_
      refine s_X10_inJ (p := 1) (q := 1000) rfl rfl ?_
      show WP Γ _ _ _ _ _ _ _
      refine wp_iconst (n := 23) (v := nI 2) dX10_extend_22 rfl (by decide) ?_
      refine wp_callV2 (n := 26) (rm' := (0, 0, 0, 0)) rfl dX10_extend_23 rfl mlX10_113 (by repeat first | assumption | exact ax_set_self _ _ _ | exact ax_newA_self _ _ _ | refine (ax_set_ne _ _ (by omega)).trans ?_ | refine (ax_newA_ne _ _ _ (by omega)).trans ?_) rfl rfl rfl rfl rfl ?_
      refine s_X10_isThrown m1 hA (fun hB f2 mB => ?_)
      show WP Γ _ _ _ _ _ _ _
      have fB := fa1.tr (lo := m) (hi := m + 1) f2 (by omega) (by omega)
      have hRB := fB.get hR (by omega)
      cases hx2 : inI z 1 1000 with
      | false =>
        rw [hx2] at mB
        refine wp_if_eq (t := 31) (n := 29) dX10_extend_26 (by decide) rfl (fun hq => ?_) (fun hq => ?_)
        · exact absurd hq (by decide)
        · refine wp_iconst (n := 30) (v := 0) dX10_extend_29 rfl (by decide) ?_
          exact wp_ireturn dX10_extend_30 rfl rfl (k2 hx1 hx2 hB fB mB)
      | true =>
        rw [hx2] at mB
        have mB' := mB
        unfold ModC at mB'
        refine wp_if_eq (t := 31) (n := 29) dX10_extend_26 (by decide) rfl (fun hq => ?_) (fun hq => ?_)
        · skip
          obtain ⟨r, r9, rfl⟩ := inN_get (n := nh) (by omega) (of_decide_eq_true hx1).1 (of_decide_eq_true hx1).2
          obtain ⟨u, u1, u2, rfl⟩ := inI_get (a := 1) (b := 1000) (by omega) (by omega) (of_decide_eq_true hx2).1 (of_decide_eq_true hx2).2
          refine wp_aload_n (n := 32) dX10_extend_31 rfl rfl ?_
          refine wp_iload_n (n := 33) dX10_extend_32 rfl rfl ?_
          refine wp_iconst (n := 34) (v := nI 4) dX10_extend_33 rfl (by decide) ?_
          refine wp_callV2 (n := 37) (rm' := (0, 0, 0, 0)) rfl dX10_extend_34 rfl mlX10_58 (by repeat first | assumption | exact ax_set_self _ _ _ | exact ax_newA_self _ _ _ | refine (ax_set_ne _ _ (by omega)).trans ?_ | refine (ax_newA_ne _ _ _ (by omega)).trans ?_) rfl rfl rfl rfl rfl ?_
          refine s_X10_hold mB hRB (by omega) (by omega) ?_
          show WP Γ _ _ _ _ _ _ _
          rw [rH r r9 4 (by omega)]
          refine wp_if_eq (t := 43) (n := 40) dX10_extend_37 (by decide) rfl (fun hc => ?_) (fun hc => ?_)
          · have hp : pend hw r = true := decide_eq_true hc
            refine wp_aload_n (n := 44) dX10_extend_43 rfl rfl ?_
            refine wp_iload_n (n := 45) dX10_extend_44 rfl rfl ?_
            refine wp_iconst (n := 46) (v := nI 3) dX10_extend_45 rfl (by decide) ?_
            refine wp_aload_n (n := 47) dX10_extend_46 rfl rfl ?_
            refine wp_iload_n (n := 48) dX10_extend_47 rfl rfl ?_
            refine wp_iconst (n := 49) (v := nI 3) dX10_extend_48 rfl (by decide) ?_
            refine wp_callV2 (n := 52) (rm' := (0, 0, 0, 0)) rfl dX10_extend_49 rfl mlX10_58 (by repeat first | assumption | exact ax_set_self _ _ _ | exact ax_newA_self _ _ _ | refine (ax_set_ne _ _ (by omega)).trans ?_ | refine (ax_newA_ne _ _ _ (by omega)).trans ?_) rfl rfl rfl rfl rfl ?_
            refine s_X10_hold mB hRB (by omega) (by omega) ?_
            show WP Γ _ _ _ _ _ _ _
            rw [rH r r9 3 (by omega)]
            refine wp_iload_n (n := 53) dX10_extend_52 rfl rfl ?_
            refine wp_iadd (n := 54) dX10_extend_53 rfl ?_
            refine wp_callV3 (n := 57) (rm' := (0, 0, 0, 0)) rfl dX10_extend_54 rfl mlX10_136 (by repeat first | assumption | exact ax_set_self _ _ _ | exact ax_newA_self _ _ _ | refine (ax_set_ne _ _ (by omega)).trans ?_ | refine (ax_newA_ne _ _ _ (by omega)).trans ?_) rfl rfl rfl rfl rfl ?_
            refine s_X10_setsHold mB hRB hAa (by omega) (by omega) (fun h3 f3 c3 => ?_)
            show WP Γ _ _ _ _ _ _ _
            have m3 := mB.fr f3 (by omega)
            have m3' := m3
            unfold ModC at m3'
            have hr3 := hr0.holdU (r := r) (q := 3) (p := hw (r * 5 + 3) + nI u) hI0.1 (by omega) (by omega)
            refine wp_aload_n (n := 58) dX10_extend_57 rfl rfl ?_
            refine wp_iload_n (n := 59) dX10_extend_58 rfl rfl ?_
            refine wp_iconst (n := 60) (v := nI 3) dX10_extend_59 rfl (by decide) ?_
            refine wp_callV2 (n := 63) (rm' := (0, 0, 0, 0)) rfl dX10_extend_60 rfl mlX10_58 (by repeat first | assumption | exact ax_set_self _ _ _ | exact ax_newA_self _ _ _ | refine (ax_set_ne _ _ (by omega)).trans ?_ | refine (ax_newA_ne _ _ _ (by omega)).trans ?_) rfl rfl rfl rfl rfl ?_
            refine s_X10_hold m3 c3 (by omega) (by omega) ?_
            show WP Γ _ _ _ _ _ _ _
            rw [show upd R (4671 + 5 * r + 3) (hw (r * 5 + 3) + nI u) (4671 + 5 * r + 3) = hw (r * 5 + 3) + nI u from if_pos rfl]
            exact wp_ireturn dX10_extend_63 rfl rfl (k r r9 rfl u u1 u2 rfl hp h3 _ (f3.1.trans fB.1) (fun c c1 c2 => (f3.2 c (by omega)).trans (fB.2 c (by omega))) m3 c3 hr3)
          · refine wp_bipush (n := 42) (v := (-5)) dX10_extend_40 rfl (by decide) ?_
            exact wp_ireturn dX10_extend_42 rfl rfl (k0 r r9 rfl u u1 u2 rfl (decide_eq_false hc) hB fB mB)
        · exact absurd rfl hq
theorem s_X10_commit (hM : ModC h m a th tl at' bg er ea lr cm) (hR : h.2 a = some (.inl (.int, 5061, .inl R))) (hr : RowR R np qu ra re le ln nb pl tm ne rw bk nh hw nc cw t y) (hI : Inv np qu ra re le ln nb pl tm ne rw bk nh hw nc cw t y) (hA : Γ.2.1 ≤ m) (ham : ¬ a = m) (hP : h.2 (m + 9) = some (.inl (.boolean, 200, .inl pk))) (ham9 : ¬ a = m + 9) (hAa : Γ.2.1 ≤ a)
    (k1 : inN x nh = false → ∀ h', ax_fr m (m + 1) h h' → ModC h' m a (nI 1) tl at' bg er ea lr cm → Q (.inl (some (.int 0))) h')
    (k2 : inN x nh = true → inI z 0 9 = false → ∀ h', ax_fr m (m + 1) h h' → ModC h' m a (nI 2) tl at' bg er ea lr cm → Q (.inl (some (.int 0))) h')
    (k0 : ∀ r i j u, r < nh → x = nI r → hw (r * 5 + 0) = nI i → i < np → hw (r * 5 + 1) = nI j → j < np → hw (r * 5 + 2) = nI u → 1 ≤ u → u ≤ 200 → inI z 0 9 = true → ∀ s, s = (if pend hw r = true then (if 300 ≤ ne then -2 else obs qu pl nb hw nh (nI i) j (nI u) (nI u)) else -5) → s < 0 → ∀ h' R', h'.1 = h.1 → (∀ c, ¬ c = m → ¬ c = a → h'.2 c = h.2 c) → ModC h' m a 0 tl at' bg er ea lr cm → h'.2 a = some (.inl (.int, 5061, .inl R')) → RowR R' np qu ra re le ln nb pl tm ne rw bk nh hw nc cw t y → Q (.inl (some (.int s))) h')
    (k : ∀ r i j u, r < nh → x = nI r → hw (r * 5 + 0) = nI i → i < np → hw (r * 5 + 1) = nI j → j < np → hw (r * 5 + 2) = nI u → 1 ≤ u → u ≤ 200 → inI z 0 9 = true → pend hw r = true → ne < 300 → obs qu pl nb hw nh (nI i) j (nI u) (nI u) = 0 → ∀ h' R' pk', h'.1 = h.1 → (∀ c, ¬ c = m → ¬ c = a → ¬ c = m + 9 → h'.2 c = h.2 c) → ModC h' m a 0 tl at' bg er ea lr cm → h'.2 a = some (.inl (.int, 5061, .inl R')) → h'.2 (m + 9) = some (.inl (.boolean, 200, .inl pk')) → (∀ K', MovOk np qu ra re le ln nb pl tm ne rw bk nh (upd hw (r * 5 + 4) (nI 1)) nc cw t y (nI i) j u z K' → RowR R' K'.1.1 K'.1.2.1 K'.1.2.2.1 K'.1.2.2.2.1 K'.1.2.2.2.2.1 K'.1.2.2.2.2.2 K'.2.1.1 K'.2.1.2.1 K'.2.1.2.2 K'.2.2.1.1 K'.2.2.1.2.1 K'.2.2.1.2.2 K'.2.2.2.1.1 K'.2.2.2.1.2 K'.2.2.2.2.1.1 K'.2.2.2.2.1.2 K'.2.2.2.2.2.1 K'.2.2.2.2.2.2) → Q (.inl (some (.int (nI ne)))) h') : WP Γ MX10_commit (5, 115, 0, 0) 0 [some (.ref m), some (.int x), some (.int z), none] [] h Q := by
  have hM0 := hM
  unfold ModC at hM
  have hI0 := hI
  have hr0 := hr
  obtain ⟨⟨s1, s2, s3, s4, s5, s6, s7, s8, tn, s9, s10⟩, IM, IP, IJ, IR, IC⟩ := hI
  obtain ⟨⟨r0, r1, r2, r3, r4, r5, r6⟩, rM, rP, rJ, rH, rC⟩ := hr
  refine wp_aload_n (n := 1) dX10_commit_0 rfl rfl ?_
  refine wp_aload_n (n := 2) dX10_commit_1 rfl rfl ?_
  refine wp_iload_n (n := 3) dX10_commit_2 rfl rfl ?_
  refine wp_callV1 (n := 6) (rm' := (1, 22, 0, 0)) rfl dX10_commit_3 rfl mlX10_142 (by repeat first | assumption | exact ax_set_self _ _ _ | exact ax_newA_self _ _ _ | refine (ax_set_ne _ _ (by omega)).trans ?_ | refine (ax_newA_ne _ _ _ (by omega)).trans ?_) rfl rfl rfl rfl rfl ?_
  refine s_X10_isHold hM0 hR r5 s6 ?_
  show WP Γ _ _ _ _ _ _ _
  refine wp_iconst (n := 7) (v := nI 1) dX10_commit_6 rfl (by decide) ?_
  refine wp_callV2 (n := 10) (rm' := (0, 0, 0, 0)) rfl dX10_commit_7 rfl mlX10_113 (by repeat first | assumption | exact ax_set_self _ _ _ | exact ax_newA_self _ _ _ | refine (ax_set_ne _ _ (by omega)).trans ?_ | refine (ax_newA_ne _ _ _ (by omega)).trans ?_) rfl rfl rfl rfl rfl ?_
  refine s_X10_isThrown hM0 hA (fun h1 f1 m1 => ?_)
  show WP Γ _ _ _ _ _ _ _
  have fa1 := f1
  have hR1 := fa1.get hR (by omega)
  cases hx1 : inN x nh with
  | false =>
    rw [hx1] at m1
    refine wp_if_ne (t := 28) (n := 13) dX10_commit_10 (by decide) rfl (fun hq => ?_) (fun hq => ?_)
    · refine wp_iconst (n := 29) (v := 0) dX10_commit_28 rfl (by decide) ?_
      exact wp_ireturn dX10_commit_29 rfl rfl (k1 hx1 h1 fa1 m1)
    · exact absurd hq (by decide)
  | true =>
    rw [hx1] at m1
    have m1' := m1
    unfold ModC at m1'
    refine wp_if_ne (t := 28) (n := 13) dX10_commit_10 (by decide) rfl (fun hq => ?_) (fun hq => ?_)
    · exact absurd rfl hq
    · skip
      refine wp_aload_n (n := 14) dX10_commit_13 rfl rfl ?_
      refine wp_iload_n (n := 15) dX10_commit_14 rfl rfl ?_
      refine wp_iconst (n := 16) (v := 0) dX10_commit_15 rfl (by decide) ?_
      refine wp_bipush (n := 18) (v := nI 9) dX10_commit_16 rfl (by decide) ?_
      refine wp_callS3 (n := 21) (rm' := (0, 0, 0, 0)) rfl dX10_commit_18 rfl mlX10_54 rfl rfl rfl rfl ?_
      refine s_X10_inJ (p := 0) (q := 9) rfl rfl ?_
      show WP Γ _ _ _ _ _ _ _
      refine wp_iconst (n := 22) (v := nI 2) dX10_commit_21 rfl (by decide) ?_
      refine wp_callV2 (n := 25) (rm' := (0, 0, 0, 0)) rfl dX10_commit_22 rfl mlX10_113 (by repeat first | assumption | exact ax_set_self _ _ _ | exact ax_newA_self _ _ _ | refine (ax_set_ne _ _ (by omega)).trans ?_ | refine (ax_newA_ne _ _ _ (by omega)).trans ?_) rfl rfl rfl rfl rfl ?_
      refine s_X10_isThrown m1 hA (fun hB f2 mB => ?_)
      show WP Γ _ _ _ _ _ _ _
      have fB := fa1.tr (lo := m) (hi := m + 1) f2 (by omega) (by omega)
      have hRB := fB.get hR (by omega)
      cases hx2 : inI z 0 9 with
      | false =>
        rw [hx2] at mB
        refine wp_if_eq (t := 30) (n := 28) dX10_commit_25 (by decide) rfl (fun hq => ?_) (fun hq => ?_)
        · exact absurd hq (by decide)
        · refine wp_iconst (n := 29) (v := 0) dX10_commit_28 rfl (by decide) ?_
          exact wp_ireturn dX10_commit_29 rfl rfl (k2 hx1 hx2 hB fB mB)
      | true =>
        rw [hx2] at mB
        have mB' := mB
        unfold ModC at mB'
        refine wp_if_eq (t := 30) (n := 28) dX10_commit_25 (by decide) rfl (fun hq => ?_) (fun hq => ?_)
        · skip
          obtain ⟨r, r9, rfl⟩ := inN_get (n := nh) (by omega) (of_decide_eq_true hx1).1 (of_decide_eq_true hx1).2
          have g_z := hx2
          obtain ⟨⟨i, i1, i2⟩, ⟨j, j1, j2⟩, u, u1, u2, u3⟩ := IR r r9
          refine wp_aload_n (n := 31) dX10_commit_30 rfl rfl ?_
          refine wp_iload_n (n := 32) dX10_commit_31 rfl rfl ?_
          refine wp_iconst (n := 33) (v := nI 4) dX10_commit_32 rfl (by decide) ?_
          refine wp_callV2 (n := 36) (rm' := (0, 0, 0, 0)) rfl dX10_commit_33 rfl mlX10_58 (by repeat first | assumption | exact ax_set_self _ _ _ | exact ax_newA_self _ _ _ | refine (ax_set_ne _ _ (by omega)).trans ?_ | refine (ax_newA_ne _ _ _ (by omega)).trans ?_) rfl rfl rfl rfl rfl ?_
          refine s_X10_hold mB hRB (by omega) (by omega) ?_
          show WP Γ _ _ _ _ _ _ _
          rw [rH r r9 4 (by omega)]
          refine wp_if_eq (t := 42) (n := 39) dX10_commit_36 (by decide) rfl (fun hc => ?_) (fun hc => ?_)
          · have hp : pend hw r = true := decide_eq_true hc
            have hPB := fB.get hP (by omega)
            refine wp_aload_n (n := 43) dX10_commit_42 rfl rfl ?_
            refine wp_iload_n (n := 44) dX10_commit_43 rfl rfl ?_
            refine wp_iconst (n := 45) (v := nI 4) dX10_commit_44 rfl (by decide) ?_
            refine wp_iconst (n := 46) (v := nI 1) dX10_commit_45 rfl (by decide) ?_
            refine wp_callV3 (n := 49) (rm' := (0, 0, 0, 0)) rfl dX10_commit_46 rfl mlX10_136 (by repeat first | assumption | exact ax_set_self _ _ _ | exact ax_newA_self _ _ _ | refine (ax_set_ne _ _ (by omega)).trans ?_ | refine (ax_newA_ne _ _ _ (by omega)).trans ?_) rfl rfl rfl rfl rfl ?_
            refine s_X10_setsHold mB hRB hAa (by omega) (by omega) (fun h3 f3 c3 => ?_)
            show WP Γ _ _ _ _ _ _ _
            have m3 := mB.fr f3 (by omega)
            have m3' := m3
            unfold ModC at m3'
            have hP3 := f3.get hPB (by omega)
            have hr3 := hr0.holdU (r := r) (q := 4) (p := nI 1) hI0.1 (by omega) (by omega)
            have hI3 := hI0.resU (r := r) (q := 4) (p := nI 1) (by omega) (by omega)
            have xH := hr3.2.2.2.2.1
            have xe : ∀ q, q < 4 → upd hw (r * 5 + 4) (nI 1) (r * 5 + q) = hw (r * 5 + q) := fun q hq => if_neg (by omega)
            have ob : obs qu pl nb (upd hw (r * 5 + 4) (nI 1)) nh (nI i) j (nI u) 0 = obs qu pl nb hw nh (nI i) j (nI u) (nI u) := obs_end r9 hp (by decide) i2 j2 u3
            refine wp_aload_n (n := 50) dX10_commit_49 rfl rfl ?_
            refine wp_aload_n (n := 51) dX10_commit_50 rfl rfl ?_
            refine wp_iload_n (n := 52) dX10_commit_51 rfl rfl ?_
            refine wp_iconst (n := 53) (v := 0) dX10_commit_52 rfl (by decide) ?_
            refine wp_callV2 (n := 56) (rm' := (0, 0, 0, 0)) rfl dX10_commit_53 rfl mlX10_58 (by repeat first | assumption | exact ax_set_self _ _ _ | exact ax_newA_self _ _ _ | refine (ax_set_ne _ _ (by omega)).trans ?_ | refine (ax_newA_ne _ _ _ (by omega)).trans ?_) rfl rfl rfl rfl rfl ?_
            refine s_X10_hold (q := 0) m3 c3 (by omega) (by omega) ?_
            show WP Γ _ _ _ _ _ _ _
            rw [xH r r9 0 (by omega), xe 0 (by omega), i2]
            refine wp_aload_n (n := 57) dX10_commit_56 rfl rfl ?_
            refine wp_iload_n (n := 58) dX10_commit_57 rfl rfl ?_
            refine wp_iconst (n := 59) (v := nI 1) dX10_commit_58 rfl (by decide) ?_
            refine wp_callV2 (n := 62) (rm' := (0, 0, 0, 0)) rfl dX10_commit_59 rfl mlX10_58 (by repeat first | assumption | exact ax_set_self _ _ _ | exact ax_newA_self _ _ _ | refine (ax_set_ne _ _ (by omega)).trans ?_ | refine (ax_newA_ne _ _ _ (by omega)).trans ?_) rfl rfl rfl rfl rfl ?_
            refine s_X10_hold m3 c3 (by omega) (by omega) ?_
            show WP Γ _ _ _ _ _ _ _
            rw [xH r r9 1 (by omega), xe 1 (by omega), j2]
            refine wp_aload_n (n := 63) dX10_commit_62 rfl rfl ?_
            refine wp_iload_n (n := 64) dX10_commit_63 rfl rfl ?_
            refine wp_iconst (n := 65) (v := nI 2) dX10_commit_64 rfl (by decide) ?_
            refine wp_callV2 (n := 68) (rm' := (0, 0, 0, 0)) rfl dX10_commit_65 rfl mlX10_58 (by repeat first | assumption | exact ax_set_self _ _ _ | exact ax_newA_self _ _ _ | refine (ax_set_ne _ _ (by omega)).trans ?_ | refine (ax_newA_ne _ _ _ (by omega)).trans ?_) rfl rfl rfl rfl rfl ?_
            refine s_X10_hold m3 c3 (by omega) (by omega) ?_
            show WP Γ _ _ _ _ _ _ _
            rw [xH r r9 2 (by omega), xe 2 (by omega), u3]
            refine wp_iload_n (n := 69) dX10_commit_68 rfl rfl ?_
            refine wp_callV4 (n := 72) (rm' := (4, 90, 0, 0)) rfl dX10_commit_69 rfl mlX10_117 (by repeat first | assumption | exact ax_set_self _ _ _ | exact ax_newA_self _ _ _ | refine (ax_set_ne _ _ (by omega)).trans ?_ | refine (ax_newA_ne _ _ _ (by omega)).trans ?_) rfl rfl rfl rfl rfl ?_
            refine s_X10_transfers m3 c3 hP3 hr3 hI3 hA hAa ham ham9 i1 j1 u1 u2 (fun r7 e1 e2 => ?_) (fun e1 e2 h4 R4 pk4 f4 c4 p4 z4 => ?_)
            · show WP Γ _ _ _ _ _ _ _
              rw [ob] at e1
              refine wp_istore_n (n := 73) dX10_commit_72 rfl rfl rfl rfl ?_
              refine wp_iload_n (n := 74) dX10_commit_73 rfl rfl ?_
              refine wp_if_ge (t := 84) (n := 77) dX10_commit_74 (by decide) rfl (fun hs => ?_) (fun hs => ?_)
              · exact absurd e2 (Int32.not_lt.mpr hs)
              · refine wp_aload_n (n := 78) dX10_commit_77 rfl rfl ?_
                refine wp_iload_n (n := 79) dX10_commit_78 rfl rfl ?_
                refine wp_iconst (n := 80) (v := nI 4) dX10_commit_79 rfl (by decide) ?_
                refine wp_iconst (n := 81) (v := 0) dX10_commit_80 rfl (by decide) ?_
                refine wp_callV3 (n := 84) (rm' := (0, 0, 0, 0)) rfl dX10_commit_81 rfl mlX10_136 (by repeat first | assumption | exact ax_set_self _ _ _ | exact ax_newA_self _ _ _ | refine (ax_set_ne _ _ (by omega)).trans ?_ | refine (ax_newA_ne _ _ _ (by omega)).trans ?_) rfl rfl rfl rfl rfl ?_
                refine s_X10_setsHold m3 c3 hAa (by omega) (by omega) (fun h5 f5 c5 => ?_)
                show WP Γ _ _ _ _ _ _ _
                have hr5 := hr3.holdU (r := r) (q := 4) (p := 0) hI0.1 (by omega) (by omega)
                have e9 : upd (upd hw (r * 5 + 4) (nI 1)) (r * 5 + 4) 0 = hw := by
                  funext q
                  by_cases q9 : q = r * 5 + 4
                  · rw [q9, show upd (upd hw (r * 5 + 4) (nI 1)) (r * 5 + 4) 0 (r * 5 + 4) = 0 from if_pos rfl]; exact hc.symm
                  · rw [show upd (upd hw (r * 5 + 4) (nI 1)) (r * 5 + 4) 0 q = upd hw (r * 5 + 4) (nI 1) q from if_neg q9]; exact if_neg q9
                rw [e9] at hr5
                refine wp_iload_n (n := 85) dX10_commit_84 rfl rfl ?_
                exact wp_ireturn dX10_commit_85 rfl rfl (k0 r i j u r9 rfl i2 i1 j2 j1 u3 u1 u2 g_z r7 (by rw [hp, if_pos rfl]; exact e1) e2 h5 _ (f5.1.trans (f3.1.trans fB.1)) (fun c c1 c2 => (f5.2 c (by omega)).trans ((f3.2 c (by omega)).trans (fB.2 c (by omega)))) (m3.fr f5 (by omega)) c5 hr5)
            · show WP Γ _ _ _ _ _ _ _
              rw [ob] at e2
              refine wp_istore_n (n := 73) dX10_commit_72 rfl rfl rfl rfl ?_
              refine wp_iload_n (n := 74) dX10_commit_73 rfl rfl ?_
              refine wp_if_ge (t := 84) (n := 77) dX10_commit_74 (by decide) rfl (fun hs => ?_) (fun hs => ?_)
              · refine wp_iload_n (n := 85) dX10_commit_84 rfl rfl ?_
                exact wp_ireturn dX10_commit_85 rfl rfl (k r i j u r9 rfl i2 i1 j2 j1 u3 u1 u2 g_z hp e1 e2 h4 R4 pk4 (f4.1.trans (f3.1.trans fB.1)) (fun c c1 c2 c9 => (f4.2 c c2 c9).trans ((f3.2 c (by omega)).trans (fB.2 c (by omega)))) ((f4.2 m (by omega) (by omega)).trans m3) c4 p4 z4)
              · exact absurd (nI_ge0 ne (by omega)) hs
          · refine wp_bipush (n := 41) (v := (-5)) dX10_commit_39 rfl (by decide) ?_
            exact wp_ireturn dX10_commit_41 rfl rfl (k0 r i j u r9 rfl i2 i1 j2 j1 u3 u1 u2 g_z (-5) (by rw [show pend hw r = false from decide_eq_false hc]; rfl) (by decide) hB R fB.1 (fun c c1 c2 => fB.2 c (by omega)) mB hRB hr0)
        · exact absurd rfl hq
end
