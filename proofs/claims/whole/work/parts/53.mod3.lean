/-! ===== the reference: moves ===== -/
/-- the row behind the blocks picked went to a pool by an entry; n of the blocks are done -/
def movR (R R' : FI) (ne n : Nat) (pk : FI) (i j c d t g l : Int32) : Prop := (R' 4 = nI (ne + 1) ∧ R' (471 + 14 * ne + 0) = i ∧ R' (471 + 14 * ne + 1) = j ∧ R' (471 + 14 * ne + 2) = c ∧ R' (471 + 14 * ne + 3) = d ∧ R' (471 + 14 * ne + 4) = t ∧ R' (471 + 14 * ne + 5) = g ∧ R' (471 + 14 * ne + 6) = l) ∧ (∀ u, u < 7 → ¬ u = 4 → R' u = R u) ∧ (∀ u, u < 200 → R' (7 + u) = if u < n ∧ ¬ pk u = 0 then j else R (7 + u)) ∧ (∀ u, u < 200 → R' (207 + u) = if u < n ∧ ¬ pk u = 0 then t else R (207 + u)) ∧ (∀ u, 407 ≤ u → (u < 471 + 14 * ne ∨ 471 + 14 * ne + 14 ≤ u) → R' u = R u) ∧ ∀ u, u < 200 → testI (R' (471 + 14 * ne + (7 + u / 32))) (u % 32) = decide (u < n ∧ ¬ pk u = 0)
theorem testI_zero (k : Nat) : testI 0 k = false := by
  unfold testI
  simp
section
variable {Γ : GE} {h : AH} {Q : PO} {m a np nb ne nh nc y : Nat} {R : FI} {qu ra le ln pl tm rw hw cw pk : FI} {re : Nat → UInt32} {bk bk' : Nat → Int64} {t x z w th tl at' bg er ea lr cm : Int32}
theorem s_X10_moves {i j c d g l : Int32} (hM : ModC h m a th tl at' bg er ea lr cm) (hR : h.2 a = some (.inl (.int, 5061, .inl R))) (hP : h.2 (m + 9) = some (.inl (.boolean, 200, .inl pk))) (hS4 : R 4 = nI ne) (hS2 : R 2 = t) (hS0 : R 0 = nI nb) (hA : Γ.2.1 ≤ a) (ham : ¬ a = m) (ham9 : ¬ a = m + 9) (he : ne < 300) (hn : nb ≤ 200)
    (k : ∀ h' R', ax_fr a (a + 1) h h' → h'.2 a = some (.inl (.int, 5061, .inl R')) → movR R R' ne nb pk i j c d t g l → Q (.inl (some (.int (nI ne)))) h') : WP Γ MX10_moves (1, 28, 0, 0) 0 [some (.ref m), some (.int i), some (.int j), some (.int c), some (.int d), some (.int g), some (.int l), none, none] [] h Q := by
  have hM0 := hM
  unfold ModC at hM
  refine wp_aload_n (n := 1) dX10_moves_0 rfl rfl ?_
  refine wp_iload_n (n := 2) dX10_moves_1 rfl rfl ?_
  refine wp_iload_n (n := 3) dX10_moves_2 rfl rfl ?_
  refine wp_iload_n (n := 4) dX10_moves_3 rfl rfl ?_
  refine wp_iload (n := 6) dX10_moves_4 rfl rfl ?_
  refine wp_iload (n := 8) dX10_moves_6 rfl rfl ?_
  refine wp_iload (n := 10) dX10_moves_8 rfl rfl ?_
  refine wp_callV6 (n := 13) (rm' := (0, 0, 0, 0)) rfl dX10_moves_10 rfl mlX10_88 (by repeat first | assumption | exact ax_set_self _ _ _ | exact ax_newA_self _ _ _ | refine (ax_set_ne _ _ (by omega)).trans ?_ | refine (ax_newA_ne _ _ _ (by omega)).trans ?_) rfl rfl rfl rfl rfl ?_
  refine s_X10_adds hM0 hR hS4 hS2 hA ham he (fun h1 R1 f1 hR1 z1 => ?_)
  show WP Γ _ _ _ _ _ _ _
  refine wp_istore (n := 15) dX10_moves_13 rfl rfl rfl rfl ?_
  refine wp_iconst (n := 16) (v := 0) dX10_moves_15 rfl (by decide) ?_
  refine wp_istore (n := 18) dX10_moves_16 rfl rfl rfl rfl ?_
  have L : ∀ u, u ≤ nb → ∀ h1 R1, ax_fr a (a + 1) h h1 → h1.2 a = some (.inl (.int, 5061, .inl R1)) → movR R R1 ne u pk i j c d t g l → WP Γ MX10_moves (1, 28, 0, 0) 18 [some (.ref m), some (.int i), some (.int j), some (.int c), some (.int d), some (.int g), some (.int l), some (.int (nI ne)), some (.int (nI u))] [] h1 Q := by
    refine ax_up nb (fun u hu ih => ?_)
    intro h1 R1 f1 hR1 hz
    have hz0 := hz
    obtain ⟨⟨z4, z0, z1, z2, z3, z5, z6, z7⟩, y1, y2, y3, y4, y5⟩ := hz
    have hM1 := f1.get hM (by omega)
    have hP1 := f1.get hP (by omega)
    have e0 : R1 0 = nI nb := (y1 0 (by omega) (by omega)).trans hS0
    have e2 : R1 2 = t := (y1 2 (by omega) (by omega)).trans hS2
    refine wp_iload (n := 20) dX10_moves_18 rfl rfl ?_
    refine wp_aload_n (n := 21) dX10_moves_20 rfl rfl ?_
    refine wp_getf (n := 24) dX10_moves_21 rfl flX10_9 (by repeat first | assumption | exact ax_set_self _ _ _ | exact ax_newA_self _ _ _ | refine (ax_set_ne _ _ (by omega)).trans ?_ | refine (ax_newA_ne _ _ _ (by omega)).trans ?_) (by rfl) ?_
    refine wp_iconst (n := 25) (v := 0) dX10_moves_24 rfl (by decide) ?_
    refine wp_iald (n := 26) 0 dX10_moves_25 rfl hR1 rfl (by omega) (by omega) ?_
    rw [e0]
    refine wp_icmp_ge (t := 106) (n := 29) dX10_moves_26 (by decide) rfl (fun hc => ?_) (fun hc => ?_)
    · rw [nI_le9 (by omega) (by omega)] at hc
      obtain rfl : u = nb := by omega
      refine wp_iload (n := 108) dX10_moves_106 rfl rfl ?_
      exact wp_ireturn dX10_moves_108 rfl rfl (k h1 R1 f1 hR1 hz0)
    · rw [nI_le9 (by omega) (by omega)] at hc
      have hlt : u < 200 := by omega
      refine wp_aload_n (n := 30) dX10_moves_29 rfl rfl ?_
      refine wp_getf (n := 33) dX10_moves_30 rfl flX10_36 (by repeat first | assumption | exact ax_set_self _ _ _ | exact ax_newA_self _ _ _ | refine (ax_set_ne _ _ (by omega)).trans ?_ | refine (ax_newA_ne _ _ _ (by omega)).trans ?_) (by rfl) ?_
      refine wp_iload (n := 35) dX10_moves_33 rfl rfl ?_
      refine wp_zald (n := 36) _ dX10_moves_35 rfl (by repeat first | assumption | exact ax_set_self _ _ _ | exact ax_newA_self _ _ _ | refine (ax_set_ne _ _ (by omega)).trans ?_ | refine (ax_newA_ne _ _ _ (by omega)).trans ?_) rfl (by omega) (by decide) ?_
      refine wp_if_eq (t := 100) (n := 39) dX10_moves_36 (by decide) rfl (fun hq => ?_) (fun hq => ?_)
      · refine wp_iinc (n := 103) dX10_moves_100 rfl rfl (nI_inc u) rfl rfl rfl ?_
        refine wp_goto (t := 18) dX10_moves_103 (by decide) ?_
        have e : ∀ v, (v < u ∧ ¬ pk v = 0) ↔ (v < u + 1 ∧ ¬ pk v = 0) := fun v => by
          constructor
          · rintro ⟨a, b⟩; exact ⟨by omega, b⟩
          · rintro ⟨a, b⟩
            refine ⟨?_, b⟩
            by_cases e9 : v = u
            · subst e9; exact absurd hq b
            · omega
        refine ih (by omega) h1 R1 f1 hR1 ⟨⟨z4, z0, z1, z2, z3, z5, z6, z7⟩, y1, fun v hv => ?_, fun v hv => ?_, y4, fun v hv => ?_⟩
        · rw [y2 v hv]; simp only [e v]
        · rw [y3 v hv]; simp only [e v]
        · rw [y5 v hv]; simp only [e v]
      · refine wp_aload_n (n := 40) dX10_moves_39 rfl rfl ?_
        refine wp_getf (n := 43) dX10_moves_40 rfl flX10_9 (by repeat first | assumption | exact ax_set_self _ _ _ | exact ax_newA_self _ _ _ | refine (ax_set_ne _ _ (by omega)).trans ?_ | refine (ax_newA_ne _ _ _ (by omega)).trans ?_) (by rfl) ?_
        refine wp_bipush (n := 45) (v := nI 7) dX10_moves_43 rfl (by decide) ?_
        refine wp_iload (n := 47) dX10_moves_45 rfl rfl ?_
        refine wp_iadd (n := 48) dX10_moves_47 rfl ?_
        refine wp_iload_n (n := 49) dX10_moves_48 rfl rfl ?_
        refine wp_iast (n := 50) (7 + u) dX10_moves_49 rfl (by repeat first | assumption | exact ax_set_self _ _ _ | exact ax_newA_self _ _ _ | refine (ax_set_ne _ _ (by omega)).trans ?_ | refine (ax_newA_ne _ _ _ (by omega)).trans ?_) (by omega) (by simp only [nI_zero, nI_mul, nI_add]) (by omega) (by omega) ?_
        refine wp_aload_n (n := 51) dX10_moves_50 rfl rfl ?_
        refine wp_getf (n := 54) dX10_moves_51 rfl flX10_9 (by repeat first | assumption | exact ax_set_self _ _ _ | exact ax_newA_self _ _ _ | refine (ax_set_ne _ _ (by omega)).trans ?_ | refine (ax_newA_ne _ _ _ (by omega)).trans ?_) (by rfl) ?_
        refine wp_sipush (n := 57) (v := nI 207) dX10_moves_54 rfl (by decide) ?_
        refine wp_iload (n := 59) dX10_moves_57 rfl rfl ?_
        refine wp_iadd (n := 60) dX10_moves_59 rfl ?_
        refine wp_aload_n (n := 61) dX10_moves_60 rfl rfl ?_
        refine wp_getf (n := 64) dX10_moves_61 rfl flX10_9 (by repeat first | assumption | exact ax_set_self _ _ _ | exact ax_newA_self _ _ _ | refine (ax_set_ne _ _ (by omega)).trans ?_ | refine (ax_newA_ne _ _ _ (by omega)).trans ?_) (by rfl) ?_
        refine wp_iconst (n := 65) (v := nI 2) dX10_moves_64 rfl (by decide) ?_
        refine wp_iald (n := 66) _ dX10_moves_65 rfl (by repeat first | assumption | exact ax_set_self _ _ _ | exact ax_newA_self _ _ _ | refine (ax_set_ne _ _ (by omega)).trans ?_ | refine (ax_newA_ne _ _ _ (by omega)).trans ?_) rfl (by omega) (by decide) ?_
        rw [show upd R1 (7 + u) j 2 = t by simp only [upd]; rw [if_neg (by omega)]; exact e2]
        refine wp_iast (n := 67) (207 + u) dX10_moves_66 rfl (by repeat first | assumption | exact ax_set_self _ _ _ | exact ax_newA_self _ _ _ | refine (ax_set_ne _ _ (by omega)).trans ?_ | refine (ax_newA_ne _ _ _ (by omega)).trans ?_) (by omega) (by simp only [nI_zero, nI_mul, nI_add]) (by omega) (by omega) ?_
        refine wp_aload_n (n := 68) dX10_moves_67 rfl rfl ?_
        refine wp_getf (n := 71) dX10_moves_68 rfl flX10_9 (by repeat first | assumption | exact ax_set_self _ _ _ | exact ax_newA_self _ _ _ | refine (ax_set_ne _ _ (by omega)).trans ?_ | refine (ax_newA_ne _ _ _ (by omega)).trans ?_) (by rfl) ?_
        refine wp_sipush (n := 74) (v := nI 471) dX10_moves_71 rfl (by decide) ?_
        refine wp_bipush (n := 76) (v := nI 14) dX10_moves_74 rfl (by decide) ?_
        refine wp_iload (n := 78) dX10_moves_76 rfl rfl ?_
        refine wp_imul (n := 79) dX10_moves_78 rfl ?_
        refine wp_iadd (n := 80) dX10_moves_79 rfl ?_
        refine wp_bipush (n := 82) (v := nI 7) dX10_moves_80 rfl (by decide) ?_
        refine wp_iadd (n := 83) dX10_moves_82 rfl ?_
        refine wp_iload (n := 85) dX10_moves_83 rfl rfl ?_
        refine wp_bipush (n := 87) (v := nI 32) dX10_moves_85 rfl (by decide) ?_
        refine wp_idiv (n := 88) dX10_moves_87 rfl (by decide) ?_
        rw [nI_d32 u hlt]
        refine wp_iadd (n := 89) dX10_moves_88 rfl ?_
        refine wp_dup2 (n := 90) dX10_moves_89 rfl rfl rfl ?_
        refine wp_iald (n := 91) (471 + 14 * ne + (7 + u / 32)) dX10_moves_90 rfl (ax_set_self _ _ _) (by rw [nI_mul, nI_add, nI_add, nI_add]; congr 1; omega) (by omega) (by omega) ?_
        refine wp_iconst (n := 92) (v := nI 1) dX10_moves_91 rfl (by decide) ?_
        refine wp_iload (n := 94) dX10_moves_92 rfl rfl ?_
        refine wp_bipush (n := 96) (v := nI 32) dX10_moves_94 rfl (by decide) ?_
        refine wp_irem (n := 97) dX10_moves_96 rfl (by decide) ?_
        rw [nI_r32 u hlt]
        refine wp_ishl (n := 98) dX10_moves_97 rfl ?_
        refine wp_ior (n := 99) dX10_moves_98 rfl ?_
        refine wp_iast (n := 100) (471 + 14 * ne + (7 + u / 32)) dX10_moves_99 rfl (ax_set_self _ _ _) (by omega) (by rw [nI_mul, nI_add, nI_add, nI_add]; congr 1; omega) (by omega) (by omega) ?_
        refine wp_iinc (n := 103) dX10_moves_100 rfl rfl (nI_inc u) rfl rfl rfl ?_
        refine wp_goto (t := 18) dX10_moves_103 (by decide) ?_
        refine ih (by omega) _ _ (((f1.put (by omega)).put (by omega)).put (by omega)) (ax_set_self _ _ _) ?_
        rw [show upd (upd R1 (7 + u) j) (207 + u) t (471 + 14 * ne + (7 + u / 32)) = R1 (471 + 14 * ne + (7 + u / 32)) by simp only [upd]; rw [if_neg (by omega), if_neg (by omega)]]
        generalize hw9 : R1 (471 + 14 * ne + (7 + u / 32)) ||| (nI 1 <<< (nI (u % 32) &&& 31)) = wd
        have e : ∀ v, ¬ v = 471 + 14 * ne + (7 + u / 32) → ¬ v = 207 + u → ¬ v = 7 + u → upd (upd (upd R1 (7 + u) j) (207 + u) t) (471 + 14 * ne + (7 + u / 32)) wd v = R1 v := fun v h1 h2 h3 => by simp only [upd]; rw [if_neg h1, if_neg h2, if_neg h3]
        have hb : u / 32 < 7 := by omega
        refine ⟨⟨?_, ?_, ?_, ?_, ?_, ?_, ?_, ?_⟩, fun v h1 h2 => ?_, fun v hv => ?_, fun v hv => ?_, fun v h1 h2 => ?_, fun v hv => ?_⟩
        · rw [e _ (by omega) (by omega) (by omega)]; exact z4
        · rw [e _ (by omega) (by omega) (by omega)]; exact z0
        · rw [e _ (by omega) (by omega) (by omega)]; exact z1
        · rw [e _ (by omega) (by omega) (by omega)]; exact z2
        · rw [e _ (by omega) (by omega) (by omega)]; exact z3
        · rw [e _ (by omega) (by omega) (by omega)]; exact z5
        · rw [e _ (by omega) (by omega) (by omega)]; exact z6
        · rw [e _ (by omega) (by omega) (by omega)]; exact z7
        · rw [e _ (by omega) (by omega) (by omega)]; exact y1 v h1 h2
        · by_cases e9 : v = u
          · subst e9
            rw [if_pos ⟨by omega, hq⟩]
            simp only [upd]
            rw [if_neg (by omega), if_neg (by omega), if_pos trivial]
          · rw [e _ (by omega) (by omega) (by omega), y2 v hv]
            have : (v < u ∧ ¬ pk v = 0) ↔ (v < u + 1 ∧ ¬ pk v = 0) := ⟨fun z => ⟨by omega, z.2⟩, fun z => ⟨by omega, z.2⟩⟩
            simp only [this]
        · by_cases e9 : v = u
          · subst e9
            rw [if_pos ⟨by omega, hq⟩]
            simp only [upd]
            rw [if_neg (by omega), if_pos trivial]
          · rw [e _ (by omega) (by omega) (by omega), y3 v hv]
            have : (v < u ∧ ¬ pk v = 0) ↔ (v < u + 1 ∧ ¬ pk v = 0) := ⟨fun z => ⟨by omega, z.2⟩, fun z => ⟨by omega, z.2⟩⟩
            simp only [this]
        · rw [e _ (by omega) (by omega) (by omega)]; exact y4 v h1 h2
        · by_cases e8 : v / 32 = u / 32
          · rw [e8]
            rw [show upd (upd (upd R1 (7 + u) j) (207 + u) t) (471 + 14 * ne + (7 + u / 32)) wd (471 + 14 * ne + (7 + u / 32)) = wd from if_pos rfl, ← hw9, bi_or (by omega) (by omega)]
            have y5v := y5 v hv
            rw [e8] at y5v
            rw [y5v]
            by_cases e9 : v = u
            · subst e9
              simp [hq]
            · have e7 : ¬ v % 32 = u % 32 := by omega
              have : (v < u ∧ ¬ pk v = 0) ↔ (v < u + 1 ∧ ¬ pk v = 0) := ⟨fun z => ⟨by omega, z.2⟩, fun z => ⟨by omega, z.2⟩⟩
              simp only [this, e7, decide_false, Bool.or_false]
          · rw [e _ (by omega) (by omega) (by omega), y5 v hv]
            have : (v < u ∧ ¬ pk v = 0) ↔ (v < u + 1 ∧ ¬ pk v = 0) := ⟨fun z => ⟨by omega, z.2⟩, fun z => ⟨by have : ¬ v = u := fun q => e8 (by rw [q]); omega, z.2⟩⟩
            simp only [this]
  obtain ⟨z4, z0, z1', z2, z3, z5, z6, z7, z8, z9⟩ := z1
  refine L 0 (Nat.zero_le _) h1 R1 f1 hR1 ⟨⟨z4, z0, z1', z2, z3, z5, z6, z7⟩, fun u h1 h2 => z9 u h2 (by omega), fun u hu => by rw [if_neg (fun q => by omega)]; exact z9 _ (by omega) (by omega), fun u hu => by rw [if_neg (fun q => by omega)]; exact z9 _ (by omega) (by omega), fun u h1 h2 => z9 u (by omega) h2, fun u hu => ?_⟩
  rw [show 471 + 14 * ne + (7 + u / 32) = 471 + 14 * ne + 7 + u / 32 by omega, z8 _ (by omega), testI_zero]
  simp
/-- the row follows the ledger when blocks go -/
theorem RowR.book {R' pk2 : FI} {i j c d g l : Int32} (h : RowR R np qu ra re le ln nb pl tm ne rw bk nh hw nc cw t y) (hI : InvS np nb ne nh nc y t) (he : ne < 300) (hm : movR R R' ne nb pk i j c d t g l) (hb : bokB bk bk' ne pk2) (hpk : ∀ d, d < 200 → (¬ pk d = 0 ↔ ¬ pk2 d = 0)) (hs : ∀ d, d < 200 → ¬ pk2 d = 0 → d < nb) : RowR R' np qu ra re le ln nb (putF pl nb pk2 j) (putF tm nb pk2 t) (ne + 1) (upd7 rw ne i j c d t g l) bk' nh hw nc cw t y := by
  obtain ⟨i1, i2, i3, i4, i5, i6, i7, i8, i9⟩ := hI
  obtain ⟨⟨r0, r1, r2, r3, r4, r5, r6⟩, rM, rP, rJ, rH, rC⟩ := h
  obtain ⟨⟨z4, z0, z1, z2, z3, z5, z6, z7⟩, y1, y2, y3, y4, y5⟩ := hm
  have hq : ∀ d, d < 200 → (d < nb ∧ ¬ pk d = 0) = (d < nb ∧ ¬ pk2 d = 0) := fun d hd => propext (and_congr_right (fun _ => hpk d hd))
  refine ⟨⟨(y1 0 (by omega) (by omega)).trans r0, (y1 1 (by omega) (by omega)).trans r1, (y1 2 (by omega) (by omega)).trans r2, (y1 3 (by omega) (by omega)).trans r3, z4, (y1 5 (by omega) (by omega)).trans r5, (y1 6 (by omega) (by omega)).trans r6⟩, fun d hd => ⟨?_, ?_⟩, fun j hj => ⟨?_, ?_, fun i hi => ?_⟩, fun e he1 => ⟨fun q hq9 => ?_, fun d hd => ?_⟩, fun r hr q hq9 => ?_, fun c hc => ⟨fun j hj => ?_, ?_⟩⟩
  · rw [y2 d (by omega), (rM d hd).1]
    unfold putF
    simp only [hq d (by omega)]
  · rw [y3 d (by omega), (rM d hd).2]
    unfold putF
    simp only [hq d (by omega)]
  · rw [y4 _ (by omega) (by omega)]; exact (rP j hj).1
  · rw [y4 _ (by omega) (by omega)]; exact (rP j hj).2.1
  · rw [y4 _ (by omega) (by omega)]; exact (rP j hj).2.2 i hi
  · obtain ⟨u0, u1, u2, u3, u4, u5, u6⟩ := upd7_at rw ne i j c d t g l
    by_cases e9 : e = ne
    · subst e9
      match q, hq9 with
      | 0, _ => rw [u0]; exact z0
      | 1, _ => rw [u1]; exact z1
      | 2, _ => rw [u2]; exact z2
      | 3, _ => rw [u3]; exact z3
      | 4, _ => rw [u4]; exact z5
      | 5, _ => rw [u5]; exact z6
      | 6, _ => rw [u6]; exact z7
    · rw [upd7_lt _ _ _ _ _ _ _ _ (by omega), y4 _ (by omega) (by omega)]
      exact (rJ e (by omega)).1 q hq9
  · rw [hb e d (by omega) hd]
    by_cases e9 : e = ne
    · subst e9
      rw [if_pos rfl, y5 d hd, decide_eq_decide, hq d hd]
      exact ⟨fun z => z.2, fun z => ⟨hs d hd z, z⟩⟩
    · rw [if_neg e9, y4 _ (by omega) (by omega)]
      exact (rJ e (by omega)).2 d hd
  · rw [y4 _ (by omega) (by omega)]; exact rH r hr q hq9
  · rw [y4 _ (by omega) (by omega)]; exact (rC c hc).1 j hj
  · rw [y4 _ (by omega) (by omega)]; exact (rC c hc).2
end
