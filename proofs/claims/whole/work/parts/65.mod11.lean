/-! ===== the reference: reverse, setPick, poolOf, since ===== -/
section
variable {Γ : GE} {h : AH} {Q : PO} {m a np nb ne nh nc y : Nat} {R : FI} {qu ra le ln pl tm rw hw cw pk : FI} {re : Nat → UInt32} {bk : Nat → Int64} {t x z w v th tl at' bg er ea lr cm : Int32}
theorem s_X10_reverse (hM : ModC h m a th tl at' bg er ea lr cm) (hR : h.2 a = some (.inl (.int, 5061, .inl R))) (hP : h.2 (m + 9) = some (.inl (.boolean, 200, .inl pk))) (hr : RowR R np qu ra re le ln nb pl tm ne rw bk nh hw nc cw t y) (hI : Inv np qu ra re le ln nb pl tm ne rw bk nh hw nc cw t y) (hA : Γ.2.1 ≤ m) (hAa : Γ.2.1 ≤ a) (ham : ¬ a = m) (ham9 : ¬ a = m + 9)
    (k1 : inN x ne = false → ∀ h', ax_fr m (m + 1) h h' → ModC h' m a (nI 1) tl at' bg er ea lr cm → Q (.inl (some (.int 0))) h')
    (k0 : ∀ e j r h' pk', e < ne → x = nI e → rw (e * 7 + 0) = nI j → j < np → RevF qu pl nb ne rw bk nh hw e j r → h'.1 = h.1 → (∀ c, ¬ c = m → ¬ c = m + 9 → h'.2 c = h.2 c) → ModC h' m a 0 tl at' bg er ea lr cm → h'.2 (m + 9) = some (.inl (.boolean, 200, .inl pk')) → Q (.inl (some (.int r))) h')
    (k : ∀ e j h' R' pk', e < ne → x = nI e → rw (e * 7 + 0) = nI j → j < np → h'.1 = h.1 → (∀ c, ¬ c = m → ¬ c = a → ¬ c = m + 9 → h'.2 c = h.2 c) → ModC h' m a 0 tl at' bg er ea lr cm → h'.2 a = some (.inl (.int, 5061, .inl R')) → h'.2 (m + 9) = some (.inl (.boolean, 200, .inl pk')) → ne < 300 → rw (e * 7 + 5) = 0 → rw (e * 7 + 6) = -1 → inAll pl nb bk e (rw (e * 7 + 1)) → obs qu pl nb hw nh (rw (e * 7 + 1)) j (rw (e * 7 + 2)) 0 = 0 → (∀ K', RevOk np qu ra re le ln nb pl tm ne rw bk nh hw nc cw t y e j K' → RowR R' K'.1.1 K'.1.2.1 K'.1.2.2.1 K'.1.2.2.2.1 K'.1.2.2.2.2.1 K'.1.2.2.2.2.2 K'.2.1.1 K'.2.1.2.1 K'.2.1.2.2 K'.2.2.1.1 K'.2.2.1.2.1 K'.2.2.1.2.2 K'.2.2.2.1.1 K'.2.2.2.1.2 K'.2.2.2.2.1.1 K'.2.2.2.2.1.2 K'.2.2.2.2.2.1 K'.2.2.2.2.2.2) → Q (.inl (some (.int (nI ne)))) h') : WP Γ MX10_reverse (5, 115, 0, 0) 0 [some (.ref m), some (.int x)] [] h Q := by
  have hM0 := hM
  unfold ModC at hM
  have hI0 := hI
  obtain ⟨⟨s1, s2, s3, s4, s5, s6, s7, s8, tn, s9, s10⟩, IM, IP, IJ, IR, IC⟩ := hI
  have r4 := hr.1.2.2.2.2.1
  refine wp_aload_n (n := 1) dX10_reverse_0 rfl rfl ?_
  refine wp_aload_n (n := 2) dX10_reverse_1 rfl rfl ?_
  refine wp_iload_n (n := 3) dX10_reverse_2 rfl rfl ?_
  refine wp_callV1 (n := 6) (rm' := (1, 22, 0, 0)) rfl dX10_reverse_3 rfl mlX10_130 (by repeat first | assumption | exact ax_set_self _ _ _ | exact ax_newA_self _ _ _ | refine (ax_set_ne _ _ (by omega)).trans ?_ | refine (ax_newA_ne _ _ _ (by omega)).trans ?_) rfl rfl rfl rfl rfl ?_
  refine s_X10_isEntry hM0 hR r4 s5 ?_
  show WP Γ _ _ _ _ _ _ _
  refine wp_iconst (n := 7) (v := nI 1) dX10_reverse_6 rfl (by decide) ?_
  refine wp_callV2 (n := 10) (rm' := (0, 0, 0, 0)) rfl dX10_reverse_7 rfl mlX10_113 (by repeat first | assumption | exact ax_set_self _ _ _ | exact ax_newA_self _ _ _ | refine (ax_set_ne _ _ (by omega)).trans ?_ | refine (ax_newA_ne _ _ _ (by omega)).trans ?_) rfl rfl rfl rfl rfl ?_
  refine s_X10_isThrown hM0 hA (fun h1 f1 m1 => ?_)
  show WP Γ _ _ _ _ _ _ _
  have hR1 := f1.get hR (by omega)
  have hP1 := f1.get hP (by omega)
  cases hx : inN x ne with
  | false =>
    rw [hx] at m1
    refine wp_if_eq (t := 17) (n := 13) dX10_reverse_10 (by decide) rfl (fun hq => ?_) (fun hq => ?_)
    · exact absurd hq (by decide)
    · refine wp_iconst (n := 14) (v := 0) dX10_reverse_13 rfl (by decide) ?_
      refine wp_goto (t := 22) dX10_reverse_14 (by decide) ?_
      exact wp_ireturn dX10_reverse_22 rfl rfl (k1 hx h1 f1 m1)
  | true =>
    rw [hx] at m1
    obtain ⟨e, he, rfl⟩ := inN_get (n := ne) (by omega) (of_decide_eq_true hx).1 (of_decide_eq_true hx).2
    obtain ⟨⟨j, j1, j2⟩, _⟩ := IJ.1 e he
    have m1' := m1
    unfold ModC at m1'
    refine wp_if_eq (t := 17) (n := 13) dX10_reverse_10 (by decide) rfl (fun hq => ?_) (fun hq => ?_)
    · refine wp_aload_n (n := 18) dX10_reverse_17 rfl rfl ?_
      refine wp_iload_n (n := 19) dX10_reverse_18 rfl rfl ?_
      refine wp_callV1 (n := 22) (rm' := (4, 90, 0, 0)) rfl dX10_reverse_19 rfl mlX10_133 (by repeat first | assumption | exact ax_set_self _ _ _ | exact ax_newA_self _ _ _ | refine (ax_set_ne _ _ (by omega)).trans ?_ | refine (ax_newA_ne _ _ _ (by omega)).trans ?_) rfl rfl rfl rfl rfl ?_
      refine s_X10_reverses m1 hR1 hP1 hr hI0 hA hAa ham ham9 he j2 j1 (fun r h2 pk2 c2 f2 p2 => ?_) (fun h2 R2 pk2 f2 c2 p2 a1 a2 a3 a4 a5 z2 => ?_)
      · show WP Γ _ _ _ _ _ _ _
        exact wp_ireturn dX10_reverse_22 rfl rfl (k0 e j r h2 pk2 he rfl j2 j1 c2 (f2.1.trans f1.1) (fun c c1 c9 => (f2.2 c (by omega)).trans (f1.2 c (by omega))) (m1.fr f2 (by omega)) p2)
      · show WP Γ _ _ _ _ _ _ _
        exact wp_ireturn dX10_reverse_22 rfl rfl (k e j h2 R2 pk2 he rfl j2 j1 (f2.1.trans f1.1) (fun c c1 c9 c8 => (f2.2 c c9 c8).trans (f1.2 c (by omega))) ((f2.2 m (by omega) (by omega)).trans m1) c2 p2 a1 a2 a3 a4 a5 z2)
    · exact absurd rfl hq
end
