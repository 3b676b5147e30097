/-! ===== the reference: statements ===== -/
section
variable {Γ : GE} {h : AH} {Q : PO} {m a len b s0 np nb ne nh nc y : Nat} {bs B R qu ra le ln pl tm rw hw cw pk : FI} {re : Nat → UInt32} {bk : Nat → Int64} {t x z w th bg er ea lr cm : Int32}

def RowK (R : FI) (K : KL) : Prop := RowR R K.1.1 K.1.2.1 K.1.2.2.1 K.1.2.2.2.1 K.1.2.2.2.2.1 K.1.2.2.2.2.2 K.2.1.1 K.2.1.2.1 K.2.1.2.2 K.2.2.1.1 K.2.2.1.2.1 K.2.2.1.2.2 K.2.2.2.1.1 K.2.2.2.1.2 K.2.2.2.2.1.1 K.2.2.2.2.1.2 K.2.2.2.2.2.1 K.2.2.2.2.2.2
theorem s_X10_statement (hM : ModC h m a th (nI len) (nI b) bg 0 ea lr cm) (hA : Γ.2.1 ≤ m) (hU : h.2 (m + 10) = some (.inl (.byte, 500, .inl B))) (hB : BufR bs B len) (hl : len ≤ 500) (hb : b ≤ len) (hC : h.2 (m + 2) = some (.inl (.int, 5061, .inl R))) (hP9 : h.2 (m + 9) = some (.inl (.boolean, 200, .inl pk))) (hr : RowR R np qu ra re le ln nb pl tm ne rw bk 0 hw 0 cw t y) (hI : Inv np qu ra re le ln nb pl tm ne rw bk 0 hw 0 cw t y) (hne : ne < 300)
    (kF : ∀ e pos h', stmR np qu le ln pl nb hw 0 bs len b = .inl (e, pos) → PE h h' m a th (nI len) e pos lr cm → Q (.inl none) h')
    (kO : ∀ w h' R', b < w → w ≤ len → PG h h' m a th (nI len) w lr cm R' → (∀ e, ¬ stmR np qu le ln pl nb hw 0 bs len b = .inl e) → (∀ K' b', StmOk bs len b (mkK np qu ra re le ln nb pl tm ne rw bk 0 hw 0 cw t y) K' b' → b' = w ∧ RowK R' K') → Q (.inl none) h') : WP Γ MX10_statement (6, 130, 0, 0) 0 [some (.ref m)] [] h Q := by
  have hM0 := hM
  unfold ModC at hM
  obtain ⟨a1, a2⟩ := tS_le (bs := bs) hb
  obtain ⟨b1, b2⟩ := tA_le (bs := bs) a2
  refine wp_aload_n (n := 1) dX10_statement_0 rfl rfl ?_
  refine wp_callV0 (n := 4) (rm' := (2, 40, 0, 0)) rfl dX10_statement_1 rfl mlX10_198 (by repeat first | assumption | exact ax_set_self _ _ _ | exact ax_newA_self _ _ _ | refine (ax_set_ne _ _ (by omega)).trans ?_ | refine (ax_newA_ne _ _ _ (by omega)).trans ?_) rfl rfl rfl rfl rfl ?_
  refine s_X10_reads hA hM0 hU hB hl hb (fun h1 f1 m1 => ?_)
  show WP Γ _ _ _ _ _ _ _
  have m1' := m1
  unfold ModC at m1'
  have hU1 := f1.get hU (by omega)
  have hC1 := f1.get hC (by omega)
  have hP1 := f1.get hP9 (by omega)
  have F1 := fr3.of (m := m) f1 (by omega)
  have kF : ∀ e pos h', stmR np qu le ln pl nb hw 0 bs len b = .inl (e, pos) → PE h1 h' m a th (nI len) e pos lr cm → Q (.inl none) h' := fun e pos h' hs hp => kF e pos h' hs ⟨F1.tr hp.1, hp.2⟩
  have kO : ∀ w h' R', b < w → w ≤ len → PG h1 h' m a th (nI len) w lr cm R' → (∀ e, ¬ stmR np qu le ln pl nb hw 0 bs len b = .inl e) → (∀ K' b', StmOk bs len b (mkK np qu ra re le ln nb pl tm ne rw bk 0 hw 0 cw t y) K' b' → b' = w ∧ RowK R' K') → Q (.inl none) h' := fun w h' R' h1 h2 hp => kO w h' R' h1 h2 ⟨F1.tr hp.1, hp.2⟩
  have W : ∀ (wd : List Int32), ¬ wd.length = 0 → wrdB bs (tS bs len b) (tA bs len (tS bs len b) - tS bs len b) wd = true → tS bs len b < tA bs len (tS bs len b) := by
    intro wd hw h9
    have := (of_decide_eq_true h9).1
    omega
  have eS : rdW bs len b = .inr (tS bs len b, tA bs len (tS bs len b)) → stmR np qu le ln pl nb hw 0 bs len b = if wrdB bs (tS bs len b) (tA bs len (tS bs len b) - tS bs len b) w_pool = true then mrR (polR np le ln bs len (tS bs len b) (tA bs len (tS bs len b))) fun x => .inr (.inl x) else if wrdB bs (tS bs len b) (tA bs len (tS bs len b) - tS bs len b) w_pick = true then mrR (pikR bs len (tA bs len (tS bs len b))) fun x => .inr (.inr (.inl x)) else if wrdB bs (tS bs len b) (tA bs len (tS bs len b) - tS bs len b) w_grant = true then mrR (graR np qu le ln pl nb hw 0 bs len (tA bs len (tS bs len b))) fun x => .inr (.inr (.inr x)) else .inl (nI 1, tS bs len b) := fun q => mrR_r q
  refine wp_aload_n (n := 5) dX10_statement_4 rfl rfl ?_
  refine wp_ldcS (n := 7) 30 dX10_statement_5 rfl rfl ?_
  refine wp_callV1 (n := 10) (rm' := (4, 85, 0, 0)) rfl dX10_statement_7 rfl mlX10_207 (by repeat first | assumption | exact ax_set_self _ _ _ | exact ax_newA_self _ _ _ | refine (ax_set_ne _ _ (by omega)).trans ?_ | refine (ax_newA_ne _ _ _ (by omega)).trans ?_) rfl rfl rfl rfl rfl ?_
  refine s_X10_isW 30 w_pool rfl rfl rfl (by decide) m1 hU1 hB hl b1 b2 ?_
  show WP Γ _ _ _ _ _ _ _
  refine wp_if_eq (t := 20) (n := 13) dX10_statement_10 (by decide) rfl (fun hc => ?_) (fun hc => ?_)
  · have n1 := bI_eq hc
    refine wp_aload_n (n := 21) dX10_statement_20 rfl rfl ?_
    refine wp_ldcS (n := 23) 32 dX10_statement_21 rfl rfl ?_
    refine wp_callV1 (n := 26) (rm' := (4, 85, 0, 0)) rfl dX10_statement_23 rfl mlX10_207 (by repeat first | assumption | exact ax_set_self _ _ _ | exact ax_newA_self _ _ _ | refine (ax_set_ne _ _ (by omega)).trans ?_ | refine (ax_newA_ne _ _ _ (by omega)).trans ?_) rfl rfl rfl rfl rfl ?_
    refine s_X10_isW 32 w_pick rfl rfl rfl (by decide) m1 hU1 hB hl b1 b2 ?_
    show WP Γ _ _ _ _ _ _ _
    refine wp_if_eq (t := 36) (n := 29) dX10_statement_26 (by decide) rfl (fun hq => ?_) (fun hq => ?_)
    · have n2 := bI_eq hq
      refine wp_aload_n (n := 37) dX10_statement_36 rfl rfl ?_
      refine wp_ldcS (n := 39) 37 dX10_statement_37 rfl rfl ?_
      refine wp_callV1 (n := 42) (rm' := (4, 85, 0, 0)) rfl dX10_statement_39 rfl mlX10_207 (by repeat first | assumption | exact ax_set_self _ _ _ | exact ax_newA_self _ _ _ | refine (ax_set_ne _ _ (by omega)).trans ?_ | refine (ax_newA_ne _ _ _ (by omega)).trans ?_) rfl rfl rfl rfl rfl ?_
      refine s_X10_isW 37 w_grant rfl rfl rfl (by decide) m1 hU1 hB hl b1 b2 ?_
      show WP Γ _ _ _ _ _ _ _
      refine wp_if_eq (t := 52) (n := 45) dX10_statement_42 (by decide) rfl (fun hs => ?_) (fun hs => ?_)
      · have n3 := bI_eq hs
        refine wp_aload_n (n := 53) dX10_statement_52 rfl rfl ?_
        refine wp_iconst (n := 54) (v := nI 1) dX10_statement_53 rfl (by decide) ?_
        refine wp_aload_n (n := 55) dX10_statement_54 rfl rfl ?_
        refine wp_getf (n := 58) dX10_statement_55 rfl flX10_164 (by repeat first | assumption | exact ax_set_self _ _ _ | exact ax_newA_self _ _ _ | refine (ax_set_ne _ _ (by omega)).trans ?_ | refine (ax_newA_ne _ _ _ (by omega)).trans ?_) (by rfl) ?_
        refine wp_callV2 (n := 61) (rm' := (0, 0, 0, 0)) rfl dX10_statement_58 rfl mlX10_184 (by repeat first | assumption | exact ax_set_self _ _ _ | exact ax_newA_self _ _ _ | refine (ax_set_ne _ _ (by omega)).trans ?_ | refine (ax_newA_ne _ _ _ (by omega)).trans ?_) rfl rfl rfl rfl rfl ?_
        refine s_X10_fails0 m1 hA (fun h2 f2 m2 => ?_)
        show WP Γ _ _ _ _ _ _ _
        refine wp_return dX10_statement_61 rfl (kF (nI 1) (tS bs len b) h2 ?_ ⟨fr3.of f2 (by omega), ⟨by decide, _, _, m2⟩, ⟨_, f2.get hC1 (by omega)⟩, _, f2.get hP1 (by omega)⟩)
        rcases rdW_or (bs := bs) hb with ⟨q1, q2⟩ | ⟨q1, q2⟩
        · exact mrR_l q1
        · rw [eS q1, n1, n2, n3]; rfl
      · have n3 := bI_ne hs
        have hlt := W _ (by decide) n3
        rcases rdW_or (bs := bs) hb with ⟨q1, q2⟩ | ⟨q1, q2⟩
        · omega
        · have eS := eS q1
          rw [n1, n2, n3, if_neg (by decide), if_neg (by decide), if_pos rfl] at eS
          refine wp_aload_n (n := 46) dX10_statement_45 rfl rfl ?_
          refine wp_callV0 (n := 49) (rm' := (4, 84, 0, 0)) rfl dX10_statement_46 rfl mlX10_237 (by repeat first | assumption | exact ax_set_self _ _ _ | exact ax_newA_self _ _ _ | refine (ax_set_ne _ _ (by omega)).trans ?_ | refine (ax_newA_ne _ _ _ (by omega)).trans ?_) rfl rfl rfl rfl rfl ?_
          refine s_X10_grantPart m1 hA hU1 hB hl b2 hC1 hP1 hr hI hne (fun e pos h2 q2 p2 => ?_) (fun j u w2 h2 R2 q2 g1 g2 g3 g4 g5 p2 z2 => ?_)
          · show WP Γ _ _ _ _ _ _ _
            refine wp_goto (t := 61) dX10_statement_49 (by decide) ?_
            exact wp_return dX10_statement_61 rfl (kF e pos h2 (eS.trans (mrR_l q2)) p2)
          · show WP Γ _ _ _ _ _ _ _
            have eS2 := eS.trans (mrR_r q2)
            refine wp_goto (t := 61) dX10_statement_49 (by decide) ?_
            refine wp_return dX10_statement_61 rfl (kO w2 h2 R2 (by omega) g2 p2 (fun e z => by rw [eS2] at z; cases z) (fun K' b' hs => ?_))
            obtain ⟨_, _, ⟨s, l, u1, u2, z, _⟩ | ⟨u1, z, _⟩ | ⟨j2, u2, bk', pk', z, d1, d2, d3, d4, d5, rfl⟩⟩ := hs
            · rw [eS2] at z; cases z
            · rw [eS2] at z; cases z
            · rw [eS2] at z
              simp only [Sum.inr.injEq, Prod.mk.injEq] at z
              obtain ⟨rfl, z1, rfl⟩ := z
              refine ⟨rfl, ?_⟩
              obtain rfl : u = u2 := (nI_eq9 (by omega) (by omega)).mp z1
              exact z2 bk' pk' d4 d5
    · have n2 := bI_ne hq
      have hlt := W _ (by decide) n2
      rcases rdW_or (bs := bs) hb with ⟨q1, q2⟩ | ⟨q1, q2⟩
      · omega
      · have eS := eS q1
        rw [n1, n2, if_neg (by decide), if_pos rfl] at eS
        refine wp_aload_n (n := 30) dX10_statement_29 rfl rfl ?_
        refine wp_callV0 (n := 33) (rm' := (5, 108, 0, 0)) rfl dX10_statement_30 rfl mlX10_232 (by repeat first | assumption | exact ax_set_self _ _ _ | exact ax_newA_self _ _ _ | refine (ax_set_ne _ _ (by omega)).trans ?_ | refine (ax_newA_ne _ _ _ (by omega)).trans ?_) rfl rfl rfl rfl rfl ?_
        refine s_X10_pickPart m1 hA hU1 hB hl b2 hC1 hP1 hr (fun e pos h2 q2 p2 => ?_) (fun u w2 h2 R2 q2 g1 g2 p2 z2 => ?_)
        · show WP Γ _ _ _ _ _ _ _
          refine wp_goto (t := 61) dX10_statement_33 (by decide) ?_
          exact wp_return dX10_statement_61 rfl (kF e pos h2 (eS.trans (mrR_l q2)) p2)
        · show WP Γ _ _ _ _ _ _ _
          have eS2 := eS.trans (mrR_r q2)
          refine wp_goto (t := 61) dX10_statement_33 (by decide) ?_
          refine wp_return dX10_statement_61 rfl (kO w2 h2 R2 (by omega) g2 p2 (fun e z => by rw [eS2] at z; cases z) (fun K' b' hs => ?_))
          obtain ⟨_, _, ⟨s, l, u1, u2, z, _⟩ | ⟨u1, z, d1, rfl⟩ | ⟨j2, u2, bk', pk', z, _⟩⟩ := hs
          · rw [eS2] at z; cases z
          · rw [eS2] at z
            simp only [Sum.inr.injEq, Sum.inl.injEq, Prod.mk.injEq] at z
            obtain ⟨rfl, rfl⟩ := z
            exact ⟨rfl, z2⟩
          · rw [eS2] at z; cases z
  · have n1 := bI_ne hc
    have hlt := W _ (by decide) n1
    rcases rdW_or (bs := bs) hb with ⟨q1, q2⟩ | ⟨q1, q2⟩
    · omega
    · have eS := eS q1
      rw [n1, if_pos rfl] at eS
      refine wp_aload_n (n := 14) dX10_statement_13 rfl rfl ?_
      refine wp_callV0 (n := 17) (rm' := (5, 108, 0, 0)) rfl dX10_statement_14 rfl mlX10_227 (by repeat first | assumption | exact ax_set_self _ _ _ | exact ax_newA_self _ _ _ | refine (ax_set_ne _ _ (by omega)).trans ?_ | refine (ax_newA_ne _ _ _ (by omega)).trans ?_) rfl rfl rfl rfl rfl ?_
      refine s_X10_poolPart m1 hA hU1 hB hl b2 hC1 hP1 hr hI.2.2.1 hI.1 (fun e pos h2 q2 p2 => ?_) (fun s l u v w2 h2 R2 q2 g1 g2 p2 z2 => ?_)
      · show WP Γ _ _ _ _ _ _ _
        refine wp_goto (t := 61) dX10_statement_17 (by decide) ?_
        exact wp_return dX10_statement_61 rfl (kF e pos h2 (eS.trans (mrR_l q2)) p2)
      · show WP Γ _ _ _ _ _ _ _
        have eS2 := eS.trans (mrR_r q2)
        refine wp_goto (t := 61) dX10_statement_17 (by decide) ?_
        refine wp_return dX10_statement_61 rfl (kO w2 h2 R2 (by omega) g2 p2 (fun e z => by rw [eS2] at z; cases z) (fun K' b' hs => ?_))
        obtain ⟨_, _, ⟨s2, l2, u1, u2, z, d1, d2, d3, d4, d5, d6, d7, rfl⟩ | ⟨u1, z, _⟩ | ⟨j2, u2, bk', pk', z, _⟩⟩ := hs
        · rw [eS2] at z
          simp only [Sum.inr.injEq, Sum.inl.injEq, Prod.mk.injEq] at z
          obtain ⟨rfl, rfl, z1, z3, rfl⟩ := z
          rw [z1, z3] at z2
          exact ⟨rfl, z2⟩
        · rw [eS2] at z; cases z
        · rw [eS2] at z; cases z

end
