/-! ===== the reference: transfers ===== -/
/-- all but two cells stay -/
def ax_f2 (a b : Nat) (h h' : AH) : Prop := h'.1 = h.1 ∧ ∀ c, ¬ c = a → ¬ c = b → h'.2 c = h.2 c
theorem pSum_nat {np : Nat} {hw : FI} {s : Nat} {x : Int32} : ∀ {nh : Nat}, InvR np nh hw → nh ≤ 60 → ∃ v, v ≤ 200 * nh ∧ pSum hw s x nh = nI v
  | 0, _, _ => ⟨0, Nat.le_refl _, rfl⟩
  | nh + 1, h, hn => by
    obtain ⟨v, h1, h2⟩ := pSum_nat (s := s) (x := x) (nh := nh) (fun r hr => h r (by omega)) (by omega)
    obtain ⟨_, _, u, u1, u2, u3⟩ := h nh (by omega)
    have e : pSum hw s x (nh + 1) = pSum hw s x nh + (if pend hw nh = true ∧ hw (nh * 5 + s) = x then hw (nh * 5 + 2) else 0) := rfl
    rw [e, h2]
    by_cases q : pend hw nh = true ∧ hw (nh * 5 + s) = x
    · rw [if_pos q, u3, nI_add]; exact ⟨v + u, by omega, rfl⟩
    · rw [if_neg q, Int32.add_zero]; exact ⟨v, by omega, rfl⟩
theorem obs_cnt {np : Nat} {qu pl : FI} {nb : Nat} {hw : FI} {nh : Nat} {x : Int32} {j w : Nat} (hR : InvR np nh hw) (hh : nh ≤ 60) (hn : nb ≤ 200) (hw2 : w ≤ 200) (h : obs qu pl nb hw nh x j (nI w) 0 = 0) : w ≤ cnt pl x nb := by
  unfold obs at h
  rw [Int32.add_zero] at h
  by_cases q : avl pl nb hw nh x < nI w
  · rw [if_pos q] at h; exact absurd h (by decide)
  · obtain ⟨v, v1, v2⟩ := pSum_nat (s := 0) (x := x) hR hh
    have hc := cnt_le pl x nb
    unfold avl at q
    rw [v2] at q
    have q := i32_not_lt q
    rw [Int32.le_iff_toInt_le, i32_sub (by rw [nI_toInt (by omega), nI_toInt (by omega)]; omega) (by rw [nI_toInt (by omega), nI_toInt (by omega)]; omega), nI_toInt (by omega), nI_toInt (by omega), nI_toInt (by omega)] at q
    omega
section
variable {Γ : GE} {h : AH} {Q : PO} {m a np nb ne nh nc y : Nat} {R : FI} {qu ra le ln pl tm rw hw cw pk : FI} {re : Nat → UInt32} {bk : Nat → Int64} {t x z w th tl at' bg er ea lr cm : Int32}
theorem s_X10_transfers {i j v : Nat} {d : Int32} (hM : ModC h m a th tl at' bg er ea lr cm) (hR : h.2 a = some (.inl (.int, 5061, .inl R))) (hP : h.2 (m + 9) = some (.inl (.boolean, 200, .inl pk))) (hr : RowR R np qu ra re le ln nb pl tm ne rw bk nh hw nc cw t y) (hI : Inv np qu ra re le ln nb pl tm ne rw bk nh hw nc cw t y) (hA : Γ.2.1 ≤ m) (hAa : Γ.2.1 ≤ a) (ham : ¬ a = m) (ham9 : ¬ a = m + 9) (hi : i < np) (hj : j < np) (hv1 : 1 ≤ v) (hv : v ≤ 200)
    (k0 : ∀ r, r = (if 300 ≤ ne then -2 else obs qu pl nb hw nh (nI i) j (nI v) 0) → r < 0 → Q (.inl (some (.int r))) h)
    (k1 : ne < 300 → obs qu pl nb hw nh (nI i) j (nI v) 0 = 0 → ∀ h' R' pk', ax_f2 a (m + 9) h h' → h'.2 a = some (.inl (.int, 5061, .inl R')) → h'.2 (m + 9) = some (.inl (.boolean, 200, .inl pk')) → (∀ K', MovOk np qu ra re le ln nb pl tm ne rw bk nh hw nc cw t y (nI i) j v d K' → RowR R' K'.1.1 K'.1.2.1 K'.1.2.2.1 K'.1.2.2.2.1 K'.1.2.2.2.2.1 K'.1.2.2.2.2.2 K'.2.1.1 K'.2.1.2.1 K'.2.1.2.2 K'.2.2.1.1 K'.2.2.1.2.1 K'.2.2.1.2.2 K'.2.2.2.1.1 K'.2.2.2.1.2 K'.2.2.2.2.1.1 K'.2.2.2.2.1.2 K'.2.2.2.2.2.1 K'.2.2.2.2.2.2) → Q (.inl (some (.int (nI ne)))) h') : WP Γ MX10_transfers (4, 90, 0, 0) 0 [some (.ref m), some (.int (nI i)), some (.int (nI j)), some (.int (nI v)), some (.int d), none] [] h Q := by
  have hM0 := hM
  unfold ModC at hM
  have hr0 := hr
  have hS := hI.1
  obtain ⟨⟨s1, s2, s3, s4, s5, s6, s7, s8, tn, s9, s10⟩, IM, IP, IJ, IR, IC⟩ := hI
  obtain ⟨⟨r0, r1, r2, r3, r4, r5, r6⟩, rM, rP, rJ, rH, rC⟩ := hr
  refine wp_aload_n (n := 1) dX10_transfers_0 rfl rfl ?_
  refine wp_getf (n := 4) dX10_transfers_1 rfl flX10_9 (by repeat first | assumption | exact ax_set_self _ _ _ | exact ax_newA_self _ _ _ | refine (ax_set_ne _ _ (by omega)).trans ?_ | refine (ax_newA_ne _ _ _ (by omega)).trans ?_) (by rfl) ?_
  refine wp_iconst (n := 5) (v := nI 4) dX10_transfers_4 rfl (by decide) ?_
  refine wp_iald (n := 6) _ dX10_transfers_5 rfl (by repeat first | assumption | exact ax_set_self _ _ _ | exact ax_newA_self _ _ _ | refine (ax_set_ne _ _ (by omega)).trans ?_ | refine (ax_newA_ne _ _ _ (by omega)).trans ?_) rfl (by omega) (by decide) ?_
  refine wp_sipush (n := 9) (v := nI 300) dX10_transfers_6 rfl (by decide) ?_
  rw [r4]
  refine wp_icmp_ne (t := 15) (n := 12) dX10_transfers_9 (by decide) rfl (fun hc => ?_) (fun hc => ?_)
  · have hne : ne < 300 := by
      by_cases q : ne = 300
      · exact absurd (by rw [q]) hc
      · omega
    rw [if_neg (show ¬ 300 ≤ ne by omega)] at k0
    refine wp_aload_n (n := 16) dX10_transfers_15 rfl rfl ?_
    refine wp_iload_n (n := 17) dX10_transfers_16 rfl rfl ?_
    refine wp_iload_n (n := 18) dX10_transfers_17 rfl rfl ?_
    refine wp_iload_n (n := 19) dX10_transfers_18 rfl rfl ?_
    refine wp_callV3 (n := 22) (rm' := (3, 67, 0, 0)) rfl dX10_transfers_19 rfl mlX10_98 (by repeat first | assumption | exact ax_set_self _ _ _ | exact ax_newA_self _ _ _ | refine (ax_set_ne _ _ (by omega)).trans ?_ | refine (ax_newA_ne _ _ _ (by omega)).trans ?_) rfl rfl rfl rfl rfl ?_
    refine s_X10_refusal hM0 hR hr0 s4 s6 s2 hj ?_
    show WP Γ _ _ _ _ _ _ _
    refine wp_istore (n := 24) dX10_transfers_22 rfl rfl rfl rfl ?_
    refine wp_iload (n := 26) dX10_transfers_24 rfl rfl ?_
    refine wp_if_eq (t := 32) (n := 29) dX10_transfers_26 (by decide) rfl (fun hq => ?_) (fun hq => ?_)
    · have hcn := obs_cnt IR s6 s4 hv hq
      refine wp_aload_n (n := 33) dX10_transfers_32 rfl rfl ?_
      refine wp_iload_n (n := 34) dX10_transfers_33 rfl rfl ?_
      refine wp_iload_n (n := 35) dX10_transfers_34 rfl rfl ?_
      refine wp_aload_n (n := 36) dX10_transfers_35 rfl rfl ?_
      refine wp_getf (n := 39) dX10_transfers_36 rfl flX10_9 (by repeat first | assumption | exact ax_set_self _ _ _ | exact ax_newA_self _ _ _ | refine (ax_set_ne _ _ (by omega)).trans ?_ | refine (ax_newA_ne _ _ _ (by omega)).trans ?_) (by rfl) ?_
      refine wp_iconst (n := 40) (v := nI 3) dX10_transfers_39 rfl (by decide) ?_
      refine wp_iald (n := 41) _ dX10_transfers_40 rfl (by repeat first | assumption | exact ax_set_self _ _ _ | exact ax_newA_self _ _ _ | refine (ax_set_ne _ _ (by omega)).trans ?_ | refine (ax_newA_ne _ _ _ (by omega)).trans ?_) rfl (by omega) (by decide) ?_
      rw [r3]
      refine wp_callV3 (n := 44) (rm' := (2, 48, 0, 0)) rfl dX10_transfers_41 rfl mlX10_102 (by repeat first | assumption | exact ax_set_self _ _ _ | exact ax_newA_self _ _ _ | refine (ax_set_ne _ _ (by omega)).trans ?_ | refine (ax_newA_ne _ _ _ (by omega)).trans ?_) rfl rfl rfl rfl rfl ?_
      refine s_X10_picks hM0 hR hP r0 rM s4 s8 hcn hv1 hA ham9 (fun h1 pk1 f1 hP1 z1 => ?_)
      show WP Γ _ _ _ _ _ _ _
      have hM1 := hM0.fr f1 (by omega)
      have hM1' := f1.get hM (by omega)
      have hR1 := f1.get hR (by omega)
      refine wp_aload_n (n := 45) dX10_transfers_44 rfl rfl ?_
      refine wp_iload_n (n := 46) dX10_transfers_45 rfl rfl ?_
      refine wp_iload_n (n := 47) dX10_transfers_46 rfl rfl ?_
      refine wp_iload_n (n := 48) dX10_transfers_47 rfl rfl ?_
      refine wp_iload (n := 50) dX10_transfers_48 rfl rfl ?_
      refine wp_iconst (n := 51) (v := 0) dX10_transfers_50 rfl (by decide) ?_
      refine wp_iconst (n := 52) (v := (-1)) dX10_transfers_51 rfl (by decide) ?_
      refine wp_callV6 (n := 55) (rm' := (1, 28, 0, 0)) rfl dX10_transfers_52 rfl mlX10_106 (by repeat first | assumption | exact ax_set_self _ _ _ | exact ax_newA_self _ _ _ | refine (ax_set_ne _ _ (by omega)).trans ?_ | refine (ax_newA_ne _ _ _ (by omega)).trans ?_) rfl rfl rfl rfl rfl ?_
      refine s_X10_moves hM1 hR1 hP1 r4 r2 r0 hAa ham ham9 hne s4 (fun h2 R2 f2 hR2 z2 => ?_)
      show WP Γ _ _ _ _ _ _ _
      refine wp_ireturn dX10_transfers_55 rfl rfl (k1 hne hq h2 R2 pk1 ⟨f2.1.trans f1.1, fun c h1 h2 => (f2.2 c (by omega)).trans (f1.2 c (by omega))⟩ hR2 (f2.get hP1 (by omega)) (fun K' hK => ?_))
      obtain ⟨_, _, bk', pk', e1, e2, rfl⟩ := hK
      refine hr0.book hS hne z2 e2 (fun d hd => ?_) (fun d hd hp => ?_)
      · rw [z1 d hd, e1 d hd]
        exact ⟨fun q => by rw [q]; decide, fun q => bI_ne q⟩
      · rw [e1 d hd] at hp
        exact selW_lt (bI_ne hp)
    · rcases obs_cases qu pl nb hw nh (nI i) j (nI v) 0 with q | q
      · refine wp_iload (n := 31) dX10_transfers_29 rfl rfl ?_
        exact wp_ireturn dX10_transfers_31 rfl rfl (k0 _ rfl q.1)
      · exact absurd q hq
  · have hne : ne = 300 := (nI_eq9 (by omega) (by omega)).mp hc
    rw [if_pos (show 300 ≤ ne by omega)] at k0
    refine wp_bipush (n := 14) (v := (-2)) dX10_transfers_12 rfl (by decide) ?_
    exact wp_ireturn dX10_transfers_14 rfl rfl (k0 _ rfl (by decide))
end
