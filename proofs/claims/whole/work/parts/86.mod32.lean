/-! ===== the reference: a new object ===== -/
section
variable {Γ : GE} {h : AH} {Q : PO} {m a np nb ne nh nc y : Nat} {R : FI} {qu ra le ln pl tm rw hw cw pk : FI} {re : Nat → UInt32} {bk : Nat → Int64} {t x z w v th tl at' bg er ea lr cm : Int32}

set_option maxHeartbeats 4000000 in
theorem s_X10_init (hO : h.2 m = some (.inr (10, [.null, .null, .null, .null, .null, .null, .null, .null, .int 0, .null, .null, .int 0, .int 0, .int 0, .int 0, .int 0, .int 0, .null, .int 0]))) (hz : h.1 = m + 1) (hA : Γ.2.1 ≤ m)
    (k : ∀ h' R', h'.1 = m + 12 → (∀ c, c < m → h'.2 c = h.2 c) → ModC h' m (m + 1) 0 0 0 0 0 0 0 0 → h'.2 (m + 1) = some (.inl (.int, 5061, .inl R')) → begRow R' (nI 10) → (h'.2 (m + 2) = some (.inl (.int, 5061, .inl (fun _ => 0))) ∧ h'.2 (m + 3) = some (.inl (.int, 5061, .inl (fun _ => 0))) ∧ h'.2 (m + 4) = some (.inl (.int, 10122, .inl (fun _ => 0))) ∧ h'.2 (m + 5) = some (.inl (.float, 8, .inr (.inr (.inl (fun _ => 0))))) ∧ h'.2 (m + 6) = some (.inl (.float, 8, .inr (.inr (.inl (fun _ => 0))))) ∧ h'.2 (m + 7) = some (.inl (.float, 16, .inr (.inr (.inl (fun _ => 0))))) ∧ h'.2 (m + 8) = some (.inl (.boolean, 2, .inl (fun _ => 0))) ∧ h'.2 (m + 9) = some (.inl (.boolean, 200, .inl (fun _ => 0))) ∧ h'.2 (m + 10) = some (.inl (.byte, 500, .inl (fun _ => 0))) ∧ h'.2 (m + 11) = some (.inl (.int, 1250, .inl (fun _ => 0)))) → Q (.inl none) h') : WP Γ MX10_init (1, 60, 11, 27289) 0 [some (.ref m)] [] h Q := by
  refine wp_aload_n (n := 1) dX10_init_0 rfl rfl ?_
  refine wp_objInit (n := 4) dX10_init_1 rfl olX10_3 ax_oi ax_oc rfl rfl ?_
  refine wp_aload_n (n := 5) dX10_init_4 rfl rfl ?_
  refine wp_sipush (n := 8) (v := nI 5061) dX10_init_5 rfl (by decide) ?_
  refine wp_newaA (n := 10) (m + 1) 5061 (ty := .int) (5061, .inl (fun _ => 0)) dX10_init_8 rfl hz rfl ac_int rfl (by decide) rfl (fun _ => rfl) (fun _ q => by cases q) (by decide) rfl rfl ?_
  refine wp_putf (n := 13) dX10_init_10 rfl flX10_9 (by repeat first | assumption | exact ax_set_self _ _ _ | exact ax_newA_self _ _ _ | refine (ax_set_ne _ _ (by omega)).trans ?_ | refine (ax_newA_ne _ _ _ (by omega)).trans ?_) (by omega) (by rfl) rfl rfl ?_
  refine wp_aload_n (n := 14) dX10_init_13 rfl rfl ?_
  refine wp_sipush (n := 17) (v := nI 5061) dX10_init_14 rfl (by decide) ?_
  refine wp_newaA (n := 19) (m + 2) 5061 (ty := .int) (5061, .inl (fun _ => 0)) dX10_init_17 rfl rfl rfl ac_int rfl (by decide) rfl (fun _ => rfl) (fun _ q => by cases q) (by decide) rfl rfl ?_
  refine wp_putF (n := 22) dX10_init_19 rfl flX10_13 rfl rfl (by repeat first | assumption | exact ax_set_self _ _ _ | exact ax_newA_self _ _ _ | refine (ax_set_ne _ _ (by omega)).trans ?_ | refine (ax_newA_ne _ _ _ (by omega)).trans ?_) (by omega) (by rfl) rfl rfl ?_
  refine wp_aload_n (n := 23) dX10_init_22 rfl rfl ?_
  refine wp_sipush (n := 26) (v := nI 5061) dX10_init_23 rfl (by decide) ?_
  refine wp_newaA (n := 28) (m + 3) 5061 (ty := .int) (5061, .inl (fun _ => 0)) dX10_init_26 rfl rfl rfl ac_int rfl (by decide) rfl (fun _ => rfl) (fun _ q => by cases q) (by decide) rfl rfl ?_
  refine wp_putF (n := 31) dX10_init_28 rfl flX10_16 rfl rfl (by repeat first | assumption | exact ax_set_self _ _ _ | exact ax_newA_self _ _ _ | refine (ax_set_ne _ _ (by omega)).trans ?_ | refine (ax_newA_ne _ _ _ (by omega)).trans ?_) (by omega) (by rfl) rfl rfl ?_
  refine wp_aload_n (n := 32) dX10_init_31 rfl rfl ?_
  refine wp_sipush (n := 35) (v := nI 10122) dX10_init_32 rfl (by decide) ?_
  refine wp_newaA (n := 37) (m + 4) 10122 (ty := .int) (10122, .inl (fun _ => 0)) dX10_init_35 rfl rfl rfl ac_int rfl (by decide) rfl (fun _ => rfl) (fun _ q => by cases q) (by decide) rfl rfl ?_
  refine wp_putF (n := 40) dX10_init_37 rfl flX10_19 rfl rfl (by repeat first | assumption | exact ax_set_self _ _ _ | exact ax_newA_self _ _ _ | refine (ax_set_ne _ _ (by omega)).trans ?_ | refine (ax_newA_ne _ _ _ (by omega)).trans ?_) (by omega) (by rfl) rfl rfl ?_
  refine wp_aload_n (n := 41) dX10_init_40 rfl rfl ?_
  refine wp_bipush (n := 43) (v := nI 8) dX10_init_41 rfl (by decide) ?_
  refine wp_newaA (n := 45) (m + 5) 8 (ty := .float) (8, .inr (.inr (.inl (fun _ => 0)))) dX10_init_43 rfl rfl rfl ac_float rfl (by decide) rfl (fun _ => rfl) (fun _ q => by cases q) (by decide) rfl rfl ?_
  refine wp_putF (n := 48) dX10_init_45 rfl flX10_22 rfl rfl (by repeat first | assumption | exact ax_set_self _ _ _ | exact ax_newA_self _ _ _ | refine (ax_set_ne _ _ (by omega)).trans ?_ | refine (ax_newA_ne _ _ _ (by omega)).trans ?_) (by omega) (by rfl) rfl rfl ?_
  refine wp_aload_n (n := 49) dX10_init_48 rfl rfl ?_
  refine wp_bipush (n := 51) (v := nI 8) dX10_init_49 rfl (by decide) ?_
  refine wp_newaA (n := 53) (m + 6) 8 (ty := .float) (8, .inr (.inr (.inl (fun _ => 0)))) dX10_init_51 rfl rfl rfl ac_float rfl (by decide) rfl (fun _ => rfl) (fun _ q => by cases q) (by decide) rfl rfl ?_
  refine wp_putF (n := 56) dX10_init_53 rfl flX10_26 rfl rfl (by repeat first | assumption | exact ax_set_self _ _ _ | exact ax_newA_self _ _ _ | refine (ax_set_ne _ _ (by omega)).trans ?_ | refine (ax_newA_ne _ _ _ (by omega)).trans ?_) (by omega) (by rfl) rfl rfl ?_
  refine wp_aload_n (n := 57) dX10_init_56 rfl rfl ?_
  refine wp_bipush (n := 59) (v := nI 16) dX10_init_57 rfl (by decide) ?_
  refine wp_newaA (n := 61) (m + 7) 16 (ty := .float) (16, .inr (.inr (.inl (fun _ => 0)))) dX10_init_59 rfl rfl rfl ac_float rfl (by decide) rfl (fun _ => rfl) (fun _ q => by cases q) (by decide) rfl rfl ?_
  refine wp_putF (n := 64) dX10_init_61 rfl flX10_29 rfl rfl (by repeat first | assumption | exact ax_set_self _ _ _ | exact ax_newA_self _ _ _ | refine (ax_set_ne _ _ (by omega)).trans ?_ | refine (ax_newA_ne _ _ _ (by omega)).trans ?_) (by omega) (by rfl) rfl rfl ?_
  refine wp_aload_n (n := 65) dX10_init_64 rfl rfl ?_
  refine wp_iconst (n := 66) (v := nI 2) dX10_init_65 rfl (by decide) ?_
  refine wp_newaA (n := 68) (m + 8) 2 (ty := .boolean) (2, .inl (fun _ => 0)) dX10_init_66 rfl rfl rfl ac_boolean rfl (by decide) rfl (fun _ => rfl) (fun _ q => by cases q) (by decide) rfl rfl ?_
  refine wp_putF (n := 71) dX10_init_68 rfl flX10_32 rfl rfl (by repeat first | assumption | exact ax_set_self _ _ _ | exact ax_newA_self _ _ _ | refine (ax_set_ne _ _ (by omega)).trans ?_ | refine (ax_newA_ne _ _ _ (by omega)).trans ?_) (by omega) (by rfl) rfl rfl ?_
  refine wp_aload_n (n := 72) dX10_init_71 rfl rfl ?_
  refine wp_sipush (n := 75) (v := nI 200) dX10_init_72 rfl (by decide) ?_
  refine wp_newaA (n := 77) (m + 9) 200 (ty := .boolean) (200, .inl (fun _ => 0)) dX10_init_75 rfl rfl rfl ac_boolean rfl (by decide) rfl (fun _ => rfl) (fun _ q => by cases q) (by decide) rfl rfl ?_
  refine wp_putF (n := 80) dX10_init_77 rfl flX10_36 rfl rfl (by repeat first | assumption | exact ax_set_self _ _ _ | exact ax_newA_self _ _ _ | refine (ax_set_ne _ _ (by omega)).trans ?_ | refine (ax_newA_ne _ _ _ (by omega)).trans ?_) (by omega) (by rfl) rfl rfl ?_
  refine wp_aload_n (n := 81) dX10_init_80 rfl rfl ?_
  refine wp_sipush (n := 84) (v := nI 500) dX10_init_81 rfl (by decide) ?_
  refine wp_newaA (n := 86) (m + 10) 500 (ty := .byte) (500, .inl (fun _ => 0)) dX10_init_84 rfl rfl rfl ac_byte rfl (by decide) rfl (fun _ => rfl) (fun _ q => by cases q) (by decide) rfl rfl ?_
  refine wp_putF (n := 89) dX10_init_86 rfl flX10_39 rfl rfl (by repeat first | assumption | exact ax_set_self _ _ _ | exact ax_newA_self _ _ _ | refine (ax_set_ne _ _ (by omega)).trans ?_ | refine (ax_newA_ne _ _ _ (by omega)).trans ?_) (by omega) (by rfl) rfl rfl ?_
  refine wp_aload_n (n := 90) dX10_init_89 rfl rfl ?_
  refine wp_sipush (n := 93) (v := nI 1250) dX10_init_90 rfl (by decide) ?_
  refine wp_newaA (n := 95) (m + 11) 1250 (ty := .int) (1250, .inl (fun _ => 0)) dX10_init_93 rfl rfl rfl ac_int rfl (by decide) rfl (fun _ => rfl) (fun _ q => by cases q) (by decide) rfl rfl ?_
  refine wp_putF (n := 98) dX10_init_95 rfl flX10_43 rfl rfl (by repeat first | assumption | exact ax_set_self _ _ _ | exact ax_newA_self _ _ _ | refine (ax_set_ne _ _ (by omega)).trans ?_ | refine (ax_newA_ne _ _ _ (by omega)).trans ?_) (by omega) (by rfl) rfl rfl ?_
  refine wp_aload_n (n := 99) dX10_init_98 rfl rfl ?_
  refine wp_getf (n := 102) dX10_init_99 rfl flX10_9 (by repeat first | assumption | exact ax_set_self _ _ _ | exact ax_newA_self _ _ _ | refine (ax_set_ne _ _ (by omega)).trans ?_ | refine (ax_newA_ne _ _ _ (by omega)).trans ?_) (by rfl) ?_
  refine wp_bipush (n := 104) (v := nI 10) dX10_init_102 rfl (by decide) ?_
  refine wp_callS2 (n := 107) (rm' := (0, 0, 0, 0)) rfl dX10_init_104 rfl mlX10_46 rfl rfl rfl rfl ?_
  refine s_X10_begins (by repeat first | assumption | exact ax_set_self _ _ _ | exact ax_newA_self _ _ _ | refine (ax_set_ne _ _ (by omega)).trans ?_ | refine (ax_newA_ne _ _ _ (by omega)).trans ?_) (by omega) (fun h3 R3 f3 c3 z3 => ?_)
  show WP Γ _ _ _ _ _ _ _
  refine wp_return dX10_init_107 rfl (k h3 R3 f3.1 (fun c hc => (f3.2 c (by omega)).trans ?_) ((f3.2 m (by omega)).trans ?_) c3 z3 ⟨(f3.2 _ (by omega)).trans ?_, (f3.2 _ (by omega)).trans ?_, (f3.2 _ (by omega)).trans ?_, (f3.2 _ (by omega)).trans ?_, (f3.2 _ (by omega)).trans ?_, (f3.2 _ (by omega)).trans ?_, (f3.2 _ (by omega)).trans ?_, (f3.2 _ (by omega)).trans ?_, (f3.2 _ (by omega)).trans ?_, (f3.2 _ (by omega)).trans ?_⟩)
  · repeat first | rfl | refine (ax_set_ne _ _ (by omega)).trans ?_ | refine (ax_newA_ne _ _ _ (by omega)).trans ?_
  all_goals repeat first | assumption | exact ax_set_self _ _ _ | exact ax_newA_self _ _ _ | refine (ax_set_ne _ _ (by omega)).trans ?_ | refine (ax_newA_ne _ _ _ (by omega)).trans ?_

end
