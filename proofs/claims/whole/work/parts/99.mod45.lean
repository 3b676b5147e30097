/-! ===== the reference: batch ===== -/
section
variable {Γ : GE} {h : AH} {Q : PO} {m a len b n np nb ne nh nc y : Nat} {bs B R CM rs qu ra le ln pl tm rw hw cw pk : FI} {RE re : Nat → UInt32} {bk : Nat → Int64} {t x z w v th bg er ea lr cm : Int32}

theorem s_X10_batch {at' : Int32} {K0 : KL} {bt : (Int32 × Nat) ⊕ (FI × Nat)} {out : Nat ⊕ KL} {AS : FI} {AE9 : Nat → UInt32} (hM : ModC h m (m + 1) th (nI len) at' bg er ea lr cm) (hA : Γ.2.1 ≤ m) (hU : h.2 (m + 10) = some (.inl (.byte, 500, .inl B))) (hB : BufR bs B len) (hl : len ≤ 500) (hR : h.2 (m + 1) = some (.inl (.int, 5061, .inl R))) (hK : h.2 (m + 11) = some (.inl (.int, 1250, .inl CM))) (hP : h.2 (m + 9) = some (.inl (.boolean, 200, .inl pk))) (hE : h.2 (m + 5) = some (.inl (.float, 8, .inr (.inr (.inl RE))))) (hS : h.2 (m + 3) = some (.inl (.int, 5061, .inl AS))) (hT : h.2 (m + 6) = some (.inl (.float, 8, .inr (.inr (.inl AE9))))) (hr : RowK R K0) (hI : InvK K0) (hre : ∀ j, j < K0.1.1 → RE j = K0.1.2.2.2.1 j) (hbt : batT K0.1.1 K0.1.2.2.2.2.1 K0.1.2.2.2.2.2 bs len rs = bt) (hO : ∀ rs' n', bt = .inr (rs', n') → CarR rs' n' 0 K0 out)
    (kE : ∀ e pos h', bt = .inl (e, pos) → fr2 m h h' → (∃ at'' bg' ea' cm', ModC h' m (m + 1) 0 0 at'' bg' e ea' e cm') → (∃ CM', h'.2 (m + 11) = some (.inl (.int, 1250, .inl CM'))) → Q (.inl (some (.int (-100 - nI pos)))) h')
    (kF : ∀ rs' n' k h' R' RE', bt = .inr (rs', n') → out = .inl k → h'.1 = h.1 → (∀ c, ¬ c = m → ¬ c = m + 1 → ¬ c = m + 3 → ¬ c = m + 5 → ¬ c = m + 6 → ¬ c = m + 9 → ¬ c = m + 11 → h'.2 c = h.2 c) → (∃ at'' bg' ea' cm', ModC h' m (m + 1) 0 0 at'' bg' 0 ea' 0 cm') → h'.2 (m + 1) = some (.inl (.int, 5061, .inl R')) → (∀ u, u < 5061 → R' u = R u) → h'.2 (m + 5) = some (.inl (.float, 8, .inr (.inr (.inl RE')))) → (∀ q, q < 8 → RE' q = RE q) → (∃ AS', h'.2 (m + 3) = some (.inl (.int, 5061, .inl AS'))) → (∃ AE', h'.2 (m + 6) = some (.inl (.float, 8, .inr (.inr (.inl AE'))))) → (∃ pk', h'.2 (m + 9) = some (.inl (.boolean, 200, .inl pk'))) → (∃ CM', h'.2 (m + 11) = some (.inl (.int, 1250, .inl CM'))) → Q (.inl (some (.int (-1000 - nI k)))) h')
    (kO : ∀ rs' n' K h' R' RE', bt = .inr (rs', n') → out = .inr K → InvK K → h'.1 = h.1 → (∀ c, ¬ c = m → ¬ c = m + 1 → ¬ c = m + 3 → ¬ c = m + 5 → ¬ c = m + 6 → ¬ c = m + 9 → ¬ c = m + 11 → h'.2 c = h.2 c) → (∃ at'' bg' ea' cm', ModC h' m (m + 1) 0 0 at'' bg' 0 ea' 0 cm') → h'.2 (m + 1) = some (.inl (.int, 5061, .inl R')) → RowK R' K → h'.2 (m + 5) = some (.inl (.float, 8, .inr (.inr (.inl RE')))) → (∀ j, j < K.1.1 → RE' j = K.1.2.2.2.1 j) → (∃ AS', h'.2 (m + 3) = some (.inl (.int, 5061, .inl AS'))) → (∃ AE', h'.2 (m + 6) = some (.inl (.float, 8, .inr (.inr (.inl AE'))))) → (∃ pk', h'.2 (m + 9) = some (.inl (.boolean, 200, .inl pk'))) → (∃ CM', h'.2 (m + 11) = some (.inl (.int, 1250, .inl CM'))) → Q (.inl (some (.int (nI n')))) h') : WP Γ MX10_batch (7, 163, 0, 0) 0 [some (.ref m)] [] h Q := by
  have r1 := hr.1.2.1
  have rP := hr.2.2.1
  have IP := hI.2.2.1
  have hn8 := hI.1.2.1
  have E38 : ∀ e pos, bt = .inl (e, pos) → ∀ h1 cm1, fr2 m h h1 → ModE h1 m (m + 1) 0 (nI len) e pos lr cm1 → (∃ CM', h1.2 (m + 11) = some (.inl (.int, 1250, .inl CM'))) → WP Γ MX10_batch (7, 163, 0, 0) 38 [some (.ref m)] [] h1 Q := by
    intro e pos ho h1 cm1 f1 m1 k1
    obtain ⟨ne0, at1, bg1, m1⟩ := m1
    obtain ⟨C1, k1⟩ := k1
    have m1' := m1
    unfold ModC at m1'
    refine wp_aload_n (n := 39) dX10_batch_38 rfl rfl ?_
    refine wp_iconst (n := 40) (v := 0) dX10_batch_39 rfl (by decide) ?_
    refine wp_putf (n := 43) dX10_batch_40 rfl flX10_154 (by repeat first | assumption | exact ax_set_self _ _ _ | exact ax_newA_self _ _ _ | refine (ax_set_ne _ _ (by omega)).trans ?_ | refine (ax_newA_ne _ _ _ (by omega)).trans ?_) (by omega) (by rfl) rfl rfl ?_
    refine wp_aload_n (n := 44) dX10_batch_43 rfl rfl ?_
    refine wp_aload_n (n := 45) dX10_batch_44 rfl rfl ?_
    refine wp_getf (n := 48) dX10_batch_45 rfl flX10_167 (by repeat first | assumption | exact ax_set_self _ _ _ | exact ax_newA_self _ _ _ | refine (ax_set_ne _ _ (by omega)).trans ?_ | refine (ax_newA_ne _ _ _ (by omega)).trans ?_) (by rfl) ?_
    refine wp_putf (n := 51) dX10_batch_48 rfl flX10_249 (by repeat first | assumption | exact ax_set_self _ _ _ | exact ax_newA_self _ _ _ | refine (ax_set_ne _ _ (by omega)).trans ?_ | refine (ax_newA_ne _ _ _ (by omega)).trans ?_) (by omega) (by rfl) rfl rfl ?_
    refine wp_aload_n (n := 52) dX10_batch_51 rfl rfl ?_
    refine wp_getf (n := 55) dX10_batch_52 rfl flX10_167 (by repeat first | assumption | exact ax_set_self _ _ _ | exact ax_newA_self _ _ _ | refine (ax_set_ne _ _ (by omega)).trans ?_ | refine (ax_newA_ne _ _ _ (by omega)).trans ?_) (by rfl) ?_
    refine wp_if_eq (t := 68) (n := 58) dX10_batch_55 (by decide) rfl (fun hc => ?_) (fun hc => ?_)
    · exact absurd hc ne0
    · refine wp_bipush (n := 60) (v := (-100)) dX10_batch_58 rfl (by decide) ?_
      refine wp_aload_n (n := 61) dX10_batch_60 rfl rfl ?_
      refine wp_getf (n := 64) dX10_batch_61 rfl flX10_170 (by repeat first | assumption | exact ax_set_self _ _ _ | exact ax_newA_self _ _ _ | refine (ax_set_ne _ _ (by omega)).trans ?_ | refine (ax_newA_ne _ _ _ (by omega)).trans ?_) (by rfl) ?_
      refine wp_isub (n := 65) dX10_batch_64 rfl ?_
      refine wp_goto (t := 72) dX10_batch_65 (by decide) ?_
      exact wp_ireturn dX10_batch_72 rfl rfl (kE e pos _ ho (f1.tr ((fr2.of (ax_fr.set (lo := m) (hi := m + 1) (by omega)) (by omega)).tr (fr2.of (ax_fr.set (lo := m) (hi := m + 1) (by omega)) (by omega)))) ⟨_, _, _, _, ax_set_self _ _ _⟩ ⟨_, (ax_set_ne _ _ (by omega)).trans ((ax_set_ne _ _ (by omega)).trans k1)⟩)
  have E24 : ∀ e pos, bt = .inl (e, pos) → ∀ h1 cm1, BE h h1 m (m + 1) 0 (nI len) e pos lr cm1 → WP Γ MX10_batch (7, 163, 0, 0) 24 [some (.ref m)] [] h1 Q := by
    intro e pos ho h1 cm1 be
    obtain ⟨f1, m0, k1⟩ := be
    obtain ⟨ne0, at1, bg1, m1⟩ := m0
    have m1' := m1
    unfold ModC at m1'
    refine wp_aload_n (n := 25) dX10_batch_24 rfl rfl ?_
    refine wp_callV0 (n := 28) (rm' := (2, 40, 0, 0)) rfl dX10_batch_25 rfl mlX10_242 (by repeat first | assumption | exact ax_set_self _ _ _ | exact ax_newA_self _ _ _ | refine (ax_set_ne _ _ (by omega)).trans ?_ | refine (ax_newA_ne _ _ _ (by omega)).trans ?_) rfl rfl rfl rfl rfl ?_
    refine s_X10_isMoreE m1 ne0 ?_
    show WP Γ _ _ _ _ _ _ _
    refine wp_if_eq (t := 38) (n := 31) dX10_batch_28 (by decide) rfl (fun hc => ?_) (fun hc => ?_)
    · exact E38 e pos ho h1 cm1 f1 ⟨ne0, at1, bg1, m1⟩ k1
    · exact absurd rfl hc
  have L : ∀ g rs n b h1 C1, batG K0.1.1 K0.1.2.2.2.2.1 K0.1.2.2.2.2.2 bs len g rs n b = bt → len < g + b → VR K0.1.1 rs n → ComR rs C1 n → 2 * n ≤ b + 1 → b ≤ len → fr2 m h h1 → ModG h1 m (m + 1) 0 (nI len) b lr (nI n) → h1.2 (m + 11) = some (.inl (.int, 1250, .inl C1)) → WP Γ MX10_batch (7, 163, 0, 0) 24 [some (.ref m)] [] h1 Q := by
    intro g
    induction g with
    | zero => intro rs n b h1 C1 _ h9 _ _ _ h8; omega
    | succ g ih =>
      intro rs n b h1 C1 hG hg hV hC hn hb f1 m1 k1
      obtain ⟨bg1, ea1, m1⟩ := m1
      have m1' := m1
      unfold ModC at m1'
      have U1 := (f1.2 (m + 10) (by omega) (by omega)).trans hU
      have R1 := (f1.2 (m + 1) (by omega) (by omega)).trans hR
      obtain ⟨a1, a2⟩ := tS_le (bs := bs) hb
      obtain ⟨b1, b2⟩ := tB_le (bs := bs) hb
      refine wp_aload_n (n := 25) dX10_batch_24 rfl rfl ?_
      refine wp_callV0 (n := 28) (rm' := (2, 40, 0, 0)) rfl dX10_batch_25 rfl mlX10_242 (by repeat first | assumption | exact ax_set_self _ _ _ | exact ax_newA_self _ _ _ | refine (ax_set_ne _ _ (by omega)).trans ?_ | refine (ax_newA_ne _ _ _ (by omega)).trans ?_) rfl rfl rfl rfl rfl ?_
      refine s_X10_isMore hA U1 hB hl hb m1 (fun k3 h2 f2 m2 => ?_) (fun k0 h2 f2 m2 => ?_) (fun kk1 kk2 h2 f2 m2 => ?_)
      · show WP Γ _ _ _ _ _ _ _
        have hb3 := tK3 k3
        have hG : mrR (comR K0.1.1 K0.1.2.2.2.2.1 K0.1.2.2.2.2.2 bs len (tB bs len b)) (fun x => batG K0.1.1 K0.1.2.2.2.2.1 K0.1.2.2.2.2.2 bs len g (upd5 rs n (nI x.1) x.2.1 x.2.2.1 x.2.2.2.1 x.2.2.2.2.1) (n + 1) x.2.2.2.2.2) = bt := (if_pos k3).symm.trans hG
        obtain ⟨bg2, ea2, m2⟩ := m2
        have m2' := m2
        unfold ModC at m2'
        have F2 := f1.tr (fr2.of f2 (by omega))
        refine wp_if_eq (t := 38) (n := 31) dX10_batch_28 (by decide) rfl (fun hc => ?_) (fun hc => ?_)
        · exact absurd hc (by decide)
        · refine wp_aload_n (n := 32) dX10_batch_31 rfl rfl ?_
          refine wp_callV0 (n := 35) (rm' := (5, 108, 0, 0)) rfl dX10_batch_32 rfl mlX10_275 (by repeat first | assumption | exact ax_set_self _ _ _ | exact ax_newA_self _ _ _ | refine (ax_set_ne _ _ (by omega)).trans ?_ | refine (ax_newA_ne _ _ _ (by omega)).trans ?_) rfl rfl rfl rfl rfl ?_
          refine s_X10_command m2 hA (f2.get U1 (by omega)) hB hl b2 (f2.get R1 (by omega)) r1 hn8 rP IP (by omega) (by omega) (f2.get k1 (by omega)) (by omega) (fun e pos h3 q3 be => ?_) (fun c v f g9 l w h3 C3 q3 hv w1 w2 f3 m3 k3 y1 y2 y3 y4 => ?_)
          · show WP Γ _ _ _ _ _ _ _
            refine wp_goto (t := 24) dX10_batch_35 (by decide) ?_
            exact E24 e pos (hG.symm.trans (mrR_l q3)) h3 _ ⟨F2.tr be.1, be.2⟩
          · show WP Γ _ _ _ _ _ _ _
            refine wp_goto (t := 24) dX10_batch_35 (by decide) ?_
            have hc3 : c ≤ 3 := by rcases hv with z | z | z | z <;> omega
            exact ih _ (n + 1) w h3 C3 ((mrR_r q3).symm.trans hG) (by omega) (hV.add hv) (hC.add hc3 y1 y2 y3 y4) (by omega) w2 (F2.tr f3) m3 k3
      · show WP Γ _ _ _ _ _ _ _
        have hG : bt = .inr (rs, n) := by
          rw [← hG]
          unfold batG
          rw [if_neg (by omega), if_pos k0]
        have hO := hO rs n hG
        obtain ⟨b3, bg2, ea2, m2⟩ := m2
        have m2' := m2
        unfold ModC at m2'
        refine wp_if_eq (t := 38) (n := 31) dX10_batch_28 (by decide) rfl (fun hc => ?_) (fun hc => ?_)
        · refine wp_aload_n (n := 39) dX10_batch_38 rfl rfl ?_
          refine wp_iconst (n := 40) (v := 0) dX10_batch_39 rfl (by decide) ?_
          refine wp_putf (n := 43) dX10_batch_40 rfl flX10_154 (by repeat first | assumption | exact ax_set_self _ _ _ | exact ax_newA_self _ _ _ | refine (ax_set_ne _ _ (by omega)).trans ?_ | refine (ax_newA_ne _ _ _ (by omega)).trans ?_) (by omega) (by rfl) rfl rfl ?_
          refine wp_aload_n (n := 44) dX10_batch_43 rfl rfl ?_
          refine wp_aload_n (n := 45) dX10_batch_44 rfl rfl ?_
          refine wp_getf (n := 48) dX10_batch_45 rfl flX10_167 (by repeat first | assumption | exact ax_set_self _ _ _ | exact ax_newA_self _ _ _ | refine (ax_set_ne _ _ (by omega)).trans ?_ | refine (ax_newA_ne _ _ _ (by omega)).trans ?_) (by rfl) ?_
          refine wp_putf (n := 51) dX10_batch_48 rfl flX10_249 (by repeat first | assumption | exact ax_set_self _ _ _ | exact ax_newA_self _ _ _ | refine (ax_set_ne _ _ (by omega)).trans ?_ | refine (ax_newA_ne _ _ _ (by omega)).trans ?_) (by omega) (by rfl) rfl rfl ?_
          refine wp_aload_n (n := 52) dX10_batch_51 rfl rfl ?_
          refine wp_getf (n := 55) dX10_batch_52 rfl flX10_167 (by repeat first | assumption | exact ax_set_self _ _ _ | exact ax_newA_self _ _ _ | refine (ax_set_ne _ _ (by omega)).trans ?_ | refine (ax_newA_ne _ _ _ (by omega)).trans ?_) (by rfl) ?_
          refine wp_if_eq (t := 68) (n := 58) dX10_batch_55 (by decide) rfl (fun hq => ?_) (fun hq => ?_)
          · have f3 : ax_fr m (m + 1) h2 (ax_set (ax_set h2 m (.inr (10, [.ref (m + 1), .ref (m + 2), .ref (m + 3), .ref (m + 4), .ref (m + 5), .ref (m + 6), .ref (m + 7), .ref (m + 8), .int 0, .ref (m + 9), .ref (m + 10), .int 0, .int (nI b3), .int bg2, .int 0, .int ea2, .int lr, .ref (m + 11), .int (nI n)]))) m (.inr (10, [.ref (m + 1), .ref (m + 2), .ref (m + 3), .ref (m + 4), .ref (m + 5), .ref (m + 6), .ref (m + 7), .ref (m + 8), .int 0, .ref (m + 9), .ref (m + 10), .int 0, .int (nI b3), .int bg2, .int 0, .int ea2, .int 0, .ref (m + 11), .int (nI n)]))) := (ax_fr.set (lo := m) (hi := m + 1) (by omega)).put (by omega)
            have m3 : ModC (ax_set (ax_set h2 m (.inr (10, [.ref (m + 1), .ref (m + 2), .ref (m + 3), .ref (m + 4), .ref (m + 5), .ref (m + 6), .ref (m + 7), .ref (m + 8), .int 0, .ref (m + 9), .ref (m + 10), .int 0, .int (nI b3), .int bg2, .int 0, .int ea2, .int lr, .ref (m + 11), .int (nI n)]))) m (.inr (10, [.ref (m + 1), .ref (m + 2), .ref (m + 3), .ref (m + 4), .ref (m + 5), .ref (m + 6), .ref (m + 7), .ref (m + 8), .int 0, .ref (m + 9), .ref (m + 10), .int 0, .int (nI b3), .int bg2, .int 0, .int ea2, .int 0, .ref (m + 11), .int (nI n)]))) m (m + 1) 0 0 (nI b3) bg2 0 ea2 0 (nI n) := ax_set_self _ _ _
            generalize ax_set (ax_set h2 m (.inr (10, [.ref (m + 1), .ref (m + 2), .ref (m + 3), .ref (m + 4), .ref (m + 5), .ref (m + 6), .ref (m + 7), .ref (m + 8), .int 0, .ref (m + 9), .ref (m + 10), .int 0, .int (nI b3), .int bg2, .int 0, .int ea2, .int lr, .ref (m + 11), .int (nI n)]))) m (.inr (10, [.ref (m + 1), .ref (m + 2), .ref (m + 3), .ref (m + 4), .ref (m + 5), .ref (m + 6), .ref (m + 7), .ref (m + 8), .int 0, .ref (m + 9), .ref (m + 10), .int 0, .int (nI b3), .int bg2, .int 0, .int ea2, .int 0, .ref (m + 11), .int (nI n)])) = h3 at *
            have m3' := m3
            unfold ModC at m3'
            have F3 := (f1.tr (fr2.of f2 (by omega))).tr (fr2.of f3 (by omega))
            have k3 := f3.get (f2.get k1 (by omega)) (by omega)
            have o3 : ∀ c, ¬ c = m → ¬ c = m + 11 → h3.2 c = h.2 c := F3.2
            refine wp_aload_n (n := 69) dX10_batch_68 rfl rfl ?_
            refine wp_callV0 (n := 72) (rm' := (6, 142, 0, 0)) rfl dX10_batch_69 rfl mlX10_278 (by repeat first | assumption | exact ax_set_self _ _ _ | exact ax_newA_self _ _ _ | refine (ax_set_ne _ _ (by omega)).trans ?_ | refine (ax_newA_ne _ _ _ (by omega)).trans ?_) rfl rfl rfl rfl rfl ?_
            refine s_X10_carriesOut m3 hA rfl ((o3 _ (by omega) (by omega)).trans hR) k3 ((o3 _ (by omega) (by omega)).trans hP) ((o3 _ (by omega) (by omega)).trans hE) ((o3 _ (by omega) (by omega)).trans hS) ((o3 _ (by omega) (by omega)).trans hT) hr hI hre (by omega) hV hC hO (fun k h4 R4 RE4 q1 q2 q3 q4 q5 q6 q7 q8 q9 q10 => ?_) (fun K h4 R4 RE4 q1 q0 q2 q3 q4 q5 q6 q7 q8 q9 q10 => ?_)
            · show WP Γ _ _ _ _ _ _ _
              exact wp_ireturn dX10_batch_72 rfl rfl (kF rs n k h4 R4 RE4 hG q1 (q2.trans F3.1) (fun c n0 n1 n2 n3 n4 n5 n6 => (q3 c n1 n2 n3 n4 n5).trans (o3 c n0 n6)) ⟨_, _, _, _, (q3 m (by omega) (by omega) (by omega) (by omega) (by omega)).trans m3⟩ q4 q5 q6 q7 q8 q9 q10 ⟨_, (q3 (m + 11) (by omega) (by omega) (by omega) (by omega) (by omega)).trans k3⟩)
            · show WP Γ _ _ _ _ _ _ _
              exact wp_ireturn dX10_batch_72 rfl rfl (kO rs n K h4 R4 RE4 hG q1 q0 (q2.trans F3.1) (fun c n0 n1 n2 n3 n4 n5 n6 => (q3 c n1 n2 n3 n4 n5).trans (o3 c n0 n6)) ⟨_, _, _, _, (q3 m (by omega) (by omega) (by omega) (by omega) (by omega)).trans m3⟩ q4 q5 q6 q7 q8 q9 q10 ⟨_, (q3 (m + 11) (by omega) (by omega) (by omega) (by omega) (by omega)).trans k3⟩)
          · exact absurd rfl hq
        · exact absurd rfl hc
      · show WP Γ _ _ _ _ _ _ _
        have hG : bt = .inl (nI 1, tS bs len b) := by
          rw [← hG]
          unfold batG
          rw [if_neg kk1, if_neg kk2]
        refine wp_if_eq (t := 38) (n := 31) dX10_batch_28 (by decide) rfl (fun hc => ?_) (fun hc => ?_)
        · exact E38 _ _ hG h2 _ (f1.tr (fr2.of f2 (by omega))) m2 ⟨_, f2.get k1 (by omega)⟩
        · exact absurd rfl hc
  unfold ModC at hM
  refine wp_aload_n (n := 1) dX10_batch_0 rfl rfl ?_
  refine wp_iconst (n := 2) (v := 0) dX10_batch_1 rfl (by decide) ?_
  refine wp_putf (n := 5) dX10_batch_2 rfl flX10_50 (by repeat first | assumption | exact ax_set_self _ _ _ | exact ax_newA_self _ _ _ | refine (ax_set_ne _ _ (by omega)).trans ?_ | refine (ax_newA_ne _ _ _ (by omega)).trans ?_) (by omega) (by rfl) rfl rfl ?_
  refine wp_aload_n (n := 6) dX10_batch_5 rfl rfl ?_
  refine wp_iconst (n := 7) (v := 0) dX10_batch_6 rfl (by decide) ?_
  refine wp_putf (n := 10) dX10_batch_7 rfl flX10_157 (by repeat first | assumption | exact ax_set_self _ _ _ | exact ax_newA_self _ _ _ | refine (ax_set_ne _ _ (by omega)).trans ?_ | refine (ax_newA_ne _ _ _ (by omega)).trans ?_) (by omega) (by rfl) rfl rfl ?_
  refine wp_aload_n (n := 11) dX10_batch_10 rfl rfl ?_
  refine wp_iconst (n := 12) (v := 0) dX10_batch_11 rfl (by decide) ?_
  refine wp_putf (n := 15) dX10_batch_12 rfl flX10_167 (by repeat first | assumption | exact ax_set_self _ _ _ | exact ax_newA_self _ _ _ | refine (ax_set_ne _ _ (by omega)).trans ?_ | refine (ax_newA_ne _ _ _ (by omega)).trans ?_) (by omega) (by rfl) rfl rfl ?_
  refine wp_aload_n (n := 16) dX10_batch_15 rfl rfl ?_
  refine wp_iconst (n := 17) (v := 0) dX10_batch_16 rfl (by decide) ?_
  refine wp_putf (n := 20) dX10_batch_17 rfl flX10_255 (by repeat first | assumption | exact ax_set_self _ _ _ | exact ax_newA_self _ _ _ | refine (ax_set_ne _ _ (by omega)).trans ?_ | refine (ax_newA_ne _ _ _ (by omega)).trans ?_) (by omega) (by rfl) rfl rfl ?_
  have f0 : ax_fr m (m + 1) h (ax_set (ax_set (ax_set (ax_set h m (.inr (10, [.ref (m + 1), .ref (m + 2), .ref (m + 3), .ref (m + 4), .ref (m + 5), .ref (m + 6), .ref (m + 7), .ref (m + 8), .int 0, .ref (m + 9), .ref (m + 10), .int (nI len), .int at', .int bg, .int er, .int ea, .int lr, .ref (m + 11), .int cm]))) m (.inr (10, [.ref (m + 1), .ref (m + 2), .ref (m + 3), .ref (m + 4), .ref (m + 5), .ref (m + 6), .ref (m + 7), .ref (m + 8), .int 0, .ref (m + 9), .ref (m + 10), .int (nI len), .int 0, .int bg, .int er, .int ea, .int lr, .ref (m + 11), .int cm]))) m (.inr (10, [.ref (m + 1), .ref (m + 2), .ref (m + 3), .ref (m + 4), .ref (m + 5), .ref (m + 6), .ref (m + 7), .ref (m + 8), .int 0, .ref (m + 9), .ref (m + 10), .int (nI len), .int 0, .int bg, .int 0, .int ea, .int lr, .ref (m + 11), .int cm]))) m (.inr (10, [.ref (m + 1), .ref (m + 2), .ref (m + 3), .ref (m + 4), .ref (m + 5), .ref (m + 6), .ref (m + 7), .ref (m + 8), .int 0, .ref (m + 9), .ref (m + 10), .int (nI len), .int 0, .int bg, .int 0, .int ea, .int lr, .ref (m + 11), .int 0]))) := (((ax_fr.set (lo := m) (hi := m + 1) (by omega)).put (by omega)).put (by omega)).put (by omega)
  have m0 : ModC (ax_set (ax_set (ax_set (ax_set h m (.inr (10, [.ref (m + 1), .ref (m + 2), .ref (m + 3), .ref (m + 4), .ref (m + 5), .ref (m + 6), .ref (m + 7), .ref (m + 8), .int 0, .ref (m + 9), .ref (m + 10), .int (nI len), .int at', .int bg, .int er, .int ea, .int lr, .ref (m + 11), .int cm]))) m (.inr (10, [.ref (m + 1), .ref (m + 2), .ref (m + 3), .ref (m + 4), .ref (m + 5), .ref (m + 6), .ref (m + 7), .ref (m + 8), .int 0, .ref (m + 9), .ref (m + 10), .int (nI len), .int 0, .int bg, .int er, .int ea, .int lr, .ref (m + 11), .int cm]))) m (.inr (10, [.ref (m + 1), .ref (m + 2), .ref (m + 3), .ref (m + 4), .ref (m + 5), .ref (m + 6), .ref (m + 7), .ref (m + 8), .int 0, .ref (m + 9), .ref (m + 10), .int (nI len), .int 0, .int bg, .int 0, .int ea, .int lr, .ref (m + 11), .int cm]))) m (.inr (10, [.ref (m + 1), .ref (m + 2), .ref (m + 3), .ref (m + 4), .ref (m + 5), .ref (m + 6), .ref (m + 7), .ref (m + 8), .int 0, .ref (m + 9), .ref (m + 10), .int (nI len), .int 0, .int bg, .int 0, .int ea, .int lr, .ref (m + 11), .int 0]))) m (m + 1) 0 (nI len) (nI 0) bg 0 ea lr (nI 0) := ax_set_self _ _ _
  generalize ax_set (ax_set (ax_set (ax_set h m (.inr (10, [.ref (m + 1), .ref (m + 2), .ref (m + 3), .ref (m + 4), .ref (m + 5), .ref (m + 6), .ref (m + 7), .ref (m + 8), .int 0, .ref (m + 9), .ref (m + 10), .int (nI len), .int at', .int bg, .int er, .int ea, .int lr, .ref (m + 11), .int cm]))) m (.inr (10, [.ref (m + 1), .ref (m + 2), .ref (m + 3), .ref (m + 4), .ref (m + 5), .ref (m + 6), .ref (m + 7), .ref (m + 8), .int 0, .ref (m + 9), .ref (m + 10), .int (nI len), .int 0, .int bg, .int er, .int ea, .int lr, .ref (m + 11), .int cm]))) m (.inr (10, [.ref (m + 1), .ref (m + 2), .ref (m + 3), .ref (m + 4), .ref (m + 5), .ref (m + 6), .ref (m + 7), .ref (m + 8), .int 0, .ref (m + 9), .ref (m + 10), .int (nI len), .int 0, .int bg, .int 0, .int ea, .int lr, .ref (m + 11), .int cm]))) m (.inr (10, [.ref (m + 1), .ref (m + 2), .ref (m + 3), .ref (m + 4), .ref (m + 5), .ref (m + 6), .ref (m + 7), .ref (m + 8), .int 0, .ref (m + 9), .ref (m + 10), .int (nI len), .int 0, .int bg, .int 0, .int ea, .int lr, .ref (m + 11), .int 0])) = h0 at *
  have m0' := m0
  unfold ModC at m0'
  refine wp_aload_n (n := 21) dX10_batch_20 rfl rfl ?_
  refine wp_callV0 (n := 24) (rm' := (5, 108, 0, 0)) rfl dX10_batch_21 rfl mlX10_275 (by repeat first | assumption | exact ax_set_self _ _ _ | exact ax_newA_self _ _ _ | refine (ax_set_ne _ _ (by omega)).trans ?_ | refine (ax_newA_ne _ _ _ (by omega)).trans ?_) rfl rfl rfl rfl rfl ?_
  refine s_X10_command (n := 0) m0 hA (f0.get hU (by omega)) hB hl (Nat.zero_le _) (f0.get hR (by omega)) r1 hn8 rP IP (by omega) (by omega) (f0.get hK (by omega)) (by omega) (fun e pos h3 q3 be => ?_) (fun c v f g9 l w h3 C3 q3 hv w1 w2 f3 m3 k3 y1 y2 y3 y4 => ?_)
  · show WP Γ _ _ _ _ _ _ _
    exact E24 e pos (hbt.symm.trans (mrR_l q3)) h3 _ ⟨(fr2.of f0 (by omega)).tr be.1, be.2⟩
  · show WP Γ _ _ _ _ _ _ _
    have hc3 : c ≤ 3 := by rcases hv with z | z | z | z <;> omega
    have v0 : VR K0.1.1 rs 0 := fun i hi => absurd hi (Nat.not_lt_zero _)
    have c0 : ComR rs CM 0 := fun i hi => absurd hi (Nat.not_lt_zero _)
    exact L (len + 1) _ 1 w h3 C3 ((mrR_r q3).symm.trans hbt) (by omega) (v0.add hv) (c0.add hc3 y1 y2 y3 y4) (by omega) w2 ((fr2.of f0 (by omega)).tr f3) m3 k3

end
