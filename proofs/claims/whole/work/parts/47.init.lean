/-! ===== the face: a new object ===== -/
section
variable {Γ : GE} {M M' : MD} {rm rm' : RM} {pc n : Nat} {lo : List (Option Value)} {st : List Value} {h : AH} {Q : PO}
theorem wp_anewA (a : Nat) {idx N : Nat} {C : String} {i : Int32} (hd : decode M.2.1 pc = .ok (.anewarray idx, 3)) (hn : pc + 3 = n) (ha : h.1 = a) (hC : C = "StorageLedger$Ledger") (hcl : Cond.classLink M.1.cls idx C ∈ TB) (hi : i = nI N) (hN : N < 100000) (hc1 : 1 ≤ rm.2.2.1) (hs1 : N ≤ rm.2.2.2)
    (kk : WP Γ M (rm.1, rm.2.1, rm.2.2.1 - 1, rm.2.2.2 - N) n lo (.ref a :: st) (ax_newA h a (.inl (.object C, N, .inr (.inr (.inr (.inr (fun _ => none))))))) Q) : WP Γ M rm pc lo (.int i :: st) h Q := by
  subst ha
  exact wp_anew hd hn hC hcl hi hN hc1 hs1 kk
end
section
variable {Γ : GE} {h : AH} {Q : PO} {p r q : Nat}
theorem s_X3_init (hO : h.2 r = some (.inr (3, [.null]))) (hA : Γ.2.1 ≤ r) (k : ∀ h', ax_fr r (r + 1) h h' → h'.2 r = some (.inr (3, [.ref p])) → Q (.inl none) h') : WP Γ MX3_init (1, 60, 0, 0) 0 [some (.ref r), some (.ref p)] [] h Q := by
  refine wp_aload_n (n := 1) dX3_init_0 rfl rfl ?_
  refine wp_objInit (n := 4) dX3_init_1 rfl olX3_3 ax_oi ax_oc rfl rfl ?_
  refine wp_aload_n (n := 5) dX3_init_4 rfl rfl ?_
  refine wp_aload_n (n := 6) dX3_init_5 rfl rfl ?_
  refine wp_putF (n := 9) dX3_init_6 rfl flX3_9 rfl rfl (by repeat first | assumption | exact ax_set_self _ _ _ | exact ax_newA_self _ _ _ | refine (ax_set_ne _ _ (by omega)).trans ?_ | refine (ax_newA_ne _ _ _ (by omega)).trans ?_) (by omega) (by rfl) rfl rfl ?_
  exact wp_return dX3_init_9 rfl (k _ (ax_fr.set (by omega)) (ax_set_self _ _ _))
theorem s_X0_init (hO : h.2 q = some (.inr (0, [.null, .null, .int 0]))) (hz : h.1 = q + 1) (hA : Γ.2.1 ≤ q) (k : ∀ h', h'.1 = q + 2 → (∀ a, a < q → h'.2 a = h.2 a) → BatAt h' q p 0 (fun _ => 0) → Q (.inl none) h') : WP Γ MX0_init (1, 60, 1, 500) 0 [some (.ref q), some (.ref p)] [] h Q := by
  refine wp_aload_n (n := 1) dX0_init_0 rfl rfl ?_
  refine wp_objInit (n := 4) dX0_init_1 rfl olX0_3 ax_oi ax_oc rfl rfl ?_
  refine wp_aload_n (n := 5) dX0_init_4 rfl rfl ?_
  refine wp_sipush (n := 8) (v := nI 500) dX0_init_5 rfl (by decide) ?_
  refine wp_newaA (n := 10) (q + 1) 500 (ty := .int) (500, .inl (fun _ => 0)) dX0_init_8 rfl hz rfl ac_int rfl (by decide) rfl (fun _ => rfl) (fun _ q => by cases q) (by decide) rfl rfl ?_
  refine wp_putF (n := 13) dX0_init_10 rfl flX0_11 rfl rfl (by repeat first | assumption | exact ax_set_self _ _ _ | exact ax_newA_self _ _ _ | refine (ax_set_ne _ _ (by omega)).trans ?_ | refine (ax_newA_ne _ _ _ (by omega)).trans ?_) (by omega) (by rfl) rfl rfl ?_
  refine wp_aload_n (n := 14) dX0_init_13 rfl rfl ?_
  refine wp_iconst (n := 15) (v := 0) dX0_init_14 rfl (by decide) ?_
  refine wp_putf (n := 18) dX0_init_15 rfl flX0_15 (by repeat first | assumption | exact ax_set_self _ _ _ | exact ax_newA_self _ _ _ | refine (ax_set_ne _ _ (by omega)).trans ?_ | refine (ax_newA_ne _ _ _ (by omega)).trans ?_) (by omega) (by rfl) rfl rfl ?_
  refine wp_aload_n (n := 19) dX0_init_18 rfl rfl ?_
  refine wp_aload_n (n := 20) dX0_init_19 rfl rfl ?_
  refine wp_putF (n := 23) dX0_init_20 rfl flX0_19 rfl rfl (by repeat first | assumption | exact ax_set_self _ _ _ | exact ax_newA_self _ _ _ | refine (ax_set_ne _ _ (by omega)).trans ?_ | refine (ax_newA_ne _ _ _ (by omega)).trans ?_) (by omega) (by rfl) rfl rfl ?_
  refine wp_return dX0_init_23 rfl (k _ rfl (fun a ha => ?_) ⟨?_, ?_⟩)
  · repeat first | rfl | refine (ax_set_ne _ _ (by omega)).trans ?_ | refine (ax_newA_ne _ _ _ (by omega)).trans ?_
  all_goals repeat first | assumption | exact ax_set_self _ _ _ | exact ax_newA_self _ _ _ | refine (ax_set_ne _ _ (by omega)).trans ?_ | refine (ax_newA_ne _ _ _ (by omega)).trans ?_
set_option maxHeartbeats 8000000 in
theorem s_X9_init (hO : h.2 p = some (.inr (9, [.null, .null, .null, .null, .null, .null, .int 0]))) (hz : h.1 = p + 1) (hA : Γ.2.1 ≤ p) (hF9 : FreeAt Γ h)
    (k : ∀ h' K, h'.1 = p + 45 → (∀ a, a < p → h'.2 a = h.2 a) → FacC h' p (p + 7) (p + 26) 0 → TxI h' (p + 1) (fun _ => 0) 0 → h'.2 (p + 3) = some (.inr (3, [.ref (p + 1)])) → BatAt h' (p + 4) (p + 1) 0 (fun _ => 0) → SnaC h' p (fun _ => none) → BegOk 10 K → LedK h' (p + 7) K → LedX h' (p + 26) → Q (.inl none) h') : WP Γ MX9_init (3, 100, 44, 9819) 0 [some (.ref p)] [] h Q := by
  refine wp_aload_n (n := 1) dX9_init_0 rfl rfl ?_
  refine wp_objInit (n := 4) dX9_init_1 rfl olX9_1 ax_oi ax_oc rfl rfl ?_
  refine wp_aload_n (n := 5) dX9_init_4 rfl rfl ?_
  refine wp_newA (n := 8) (p + 1) dX9_init_5 rfl hz nlX9_7 rfl rfl ?_
  refine wp_dup (n := 9) dX9_init_8 rfl rfl ?_
  refine wp_callIN (n := 12) (rm' := (1, 60, 1, 500)) dX9_init_9 rfl mbX8_init (host := "StorageLedger") (by decide) rfl imX8_init [] rfl rfl rfl rfl rfl (Nat.le_of_ble_eq_true rfl) rfl ?_
  refine s_X8_init (ax_newA_self _ _ _) rfl (by omega) (fun h1 z1 f1 t1 => ?_)
  show WP Γ _ _ _ _ _ _ _
  have hO1 := (f1 p (by omega)).trans ((ax_newA_ne _ _ _ (by omega)).trans hO)
  have b1 : ∀ a, a < p → h1.2 a = h.2 a := fun a ha => (f1 a (by omega)).trans (ax_newA_ne _ _ _ (by omega))
  refine wp_putF (n := 15) dX9_init_12 rfl flX9_10 rfl rfl (by repeat first | assumption | exact ax_set_self _ _ _ | exact ax_newA_self _ _ _ | refine (ax_set_ne _ _ (by omega)).trans ?_ | refine (ax_newA_ne _ _ _ (by omega)).trans ?_) (by omega) (by rfl) rfl rfl ?_
  have s2 : ∀ a, ¬ a = p → (ax_set h1 p (.inr (9, [.ref (p + 1), .null, .null, .null, .null, .null, .int 0]))).2 a = h1.2 a := fun a ha => ax_set_ne _ _ ha
  have o2 : (ax_set h1 p (.inr (9, [.ref (p + 1), .null, .null, .null, .null, .null, .int 0]))).2 p = some (.inr (9, [.ref (p + 1), .null, .null, .null, .null, .null, .int 0])) := ax_set_self _ _ _
  have z2 : (ax_set h1 p (.inr (9, [.ref (p + 1), .null, .null, .null, .null, .null, .int 0]))).1 = p + 3 := z1
  generalize ax_set h1 p (.inr (9, [.ref (p + 1), .null, .null, .null, .null, .null, .int 0])) = h2 at *
  refine wp_aload_n (n := 16) dX9_init_15 rfl rfl ?_
  refine wp_newA (n := 19) (p + 3) dX9_init_16 rfl z2 nlX9_16 rfl rfl ?_
  refine wp_dup (n := 20) dX9_init_19 rfl rfl ?_
  refine wp_aload_n (n := 21) dX9_init_20 rfl rfl ?_
  refine wp_getf (n := 24) dX9_init_21 rfl flX9_10 (by repeat first | assumption | exact ax_set_self _ _ _ | exact ax_newA_self _ _ _ | refine (ax_set_ne _ _ (by omega)).trans ?_ | refine (ax_newA_ne _ _ _ (by omega)).trans ?_) (by rfl) ?_
  refine wp_callI (n := 27) (rm' := (1, 60, 0, 0)) dX9_init_24 rfl mlX9_18 [.ref (p + 1)] rfl rfl rfl rfl rfl (Nat.le_of_ble_eq_true rfl) rfl ?_
  refine s_X3_init (ax_newA_self _ _ _) (by omega) (fun h3 f3 o3 => ?_)
  show WP Γ _ _ _ _ _ _ _
  have s3 : ∀ a, a < p + 3 → h3.2 a = h2.2 a := fun a ha => (f3.2 a (by omega)).trans (ax_newA_ne _ _ _ (by omega))
  have z3 : h3.1 = p + 4 := f3.1
  have o3p := (s3 p (by omega)).trans o2
  refine wp_putF (n := 30) dX9_init_27 rfl flX9_21 rfl rfl (by repeat first | assumption | exact ax_set_self _ _ _ | exact ax_newA_self _ _ _ | refine (ax_set_ne _ _ (by omega)).trans ?_ | refine (ax_newA_ne _ _ _ (by omega)).trans ?_) (by omega) (by rfl) rfl rfl ?_
  have s4 : ∀ a, ¬ a = p → (ax_set h3 p (.inr (9, [.ref (p + 1), .ref (p + 3), .null, .null, .null, .null, .int 0]))).2 a = h3.2 a := fun a ha => ax_set_ne _ _ ha
  have o4 : (ax_set h3 p (.inr (9, [.ref (p + 1), .ref (p + 3), .null, .null, .null, .null, .int 0]))).2 p = some (.inr (9, [.ref (p + 1), .ref (p + 3), .null, .null, .null, .null, .int 0])) := ax_set_self _ _ _
  have z4 : (ax_set h3 p (.inr (9, [.ref (p + 1), .ref (p + 3), .null, .null, .null, .null, .int 0]))).1 = p + 4 := z3
  generalize ax_set h3 p (.inr (9, [.ref (p + 1), .ref (p + 3), .null, .null, .null, .null, .int 0])) = h4 at *
  refine wp_aload_n (n := 31) dX9_init_30 rfl rfl ?_
  refine wp_newA (n := 34) (p + 4) dX9_init_31 rfl z4 nlX9_25 rfl rfl ?_
  refine wp_dup (n := 35) dX9_init_34 rfl rfl ?_
  refine wp_aload_n (n := 36) dX9_init_35 rfl rfl ?_
  refine wp_getf (n := 39) dX9_init_36 rfl flX9_10 (by repeat first | assumption | exact ax_set_self _ _ _ | exact ax_newA_self _ _ _ | refine (ax_set_ne _ _ (by omega)).trans ?_ | refine (ax_newA_ne _ _ _ (by omega)).trans ?_) (by rfl) ?_
  refine wp_callI (n := 42) (rm' := (1, 60, 1, 500)) dX9_init_39 rfl mlX9_27 [.ref (p + 1)] rfl rfl rfl rfl rfl (Nat.le_of_ble_eq_true rfl) rfl ?_
  refine s_X0_init (ax_newA_self _ _ _) rfl (by omega) (fun h5 z5 f5 bt5 => ?_)
  show WP Γ _ _ _ _ _ _ _
  have s5 : ∀ a, a < p + 4 → h5.2 a = h4.2 a := fun a ha => (f5 a ha).trans (ax_newA_ne _ _ _ (by omega))
  have o5p := (s5 p (by omega)).trans o4
  refine wp_putF (n := 45) dX9_init_42 rfl flX9_28 rfl rfl (by repeat first | assumption | exact ax_set_self _ _ _ | exact ax_newA_self _ _ _ | refine (ax_set_ne _ _ (by omega)).trans ?_ | refine (ax_newA_ne _ _ _ (by omega)).trans ?_) (by omega) (by rfl) rfl rfl ?_
  refine wp_aload_n (n := 46) dX9_init_45 rfl rfl ?_
  refine wp_iconst (n := 47) (v := nI 2) dX9_init_46 rfl (by decide) ?_
  have s6 : ∀ a, ¬ a = p → (ax_set h5 p (.inr (9, [.ref (p + 1), .ref (p + 3), .ref (p + 4), .null, .null, .null, .int 0]))).2 a = h5.2 a := fun a ha => ax_set_ne _ _ ha
  have o6 : (ax_set h5 p (.inr (9, [.ref (p + 1), .ref (p + 3), .ref (p + 4), .null, .null, .null, .int 0]))).2 p = some (.inr (9, [.ref (p + 1), .ref (p + 3), .ref (p + 4), .null, .null, .null, .int 0])) := ax_set_self _ _ _
  have z6 : (ax_set h5 p (.inr (9, [.ref (p + 1), .ref (p + 3), .ref (p + 4), .null, .null, .null, .int 0]))).1 = p + 6 := z5
  generalize ax_set h5 p (.inr (9, [.ref (p + 1), .ref (p + 3), .ref (p + 4), .null, .null, .null, .int 0])) = h6 at *
  refine wp_anewA (n := 50) (p + 6) (N := 2) dX9_init_47 rfl z6 rfl (TB_1 95 rfl rfl) rfl (by omega) (by decide) (by decide) ?_
  have s7 : ∀ a, a < p + 6 → (ax_newA h6 (p + 6) (.inl (.object "StorageLedger$Ledger", 2, .inr (.inr (.inr (.inr (fun _ => none))))))).2 a = h6.2 a := fun a ha => ax_newA_ne _ _ _ (by omega)
  have sn7 : SnaC (ax_newA h6 (p + 6) (.inl (.object "StorageLedger$Ledger", 2, .inr (.inr (.inr (.inr (fun _ => none))))))) p (fun _ => none) := ax_newA_self _ _ _
  have z7 : (ax_newA h6 (p + 6) (.inl (.object "StorageLedger$Ledger", 2, .inr (.inr (.inr (.inr (fun _ => none))))))).1 = p + 7 := rfl
  generalize ax_newA h6 (p + 6) (.inl (.object "StorageLedger$Ledger", 2, .inr (.inr (.inr (.inr (fun _ => none)))))) = h7 at *
  have o7p := (s7 p (by omega)).trans o6
  refine wp_putF (n := 53) dX9_init_50 rfl flX9_34 rfl rfl (by repeat first | assumption | exact ax_set_self _ _ _ | exact ax_newA_self _ _ _ | refine (ax_set_ne _ _ (by omega)).trans ?_ | refine (ax_newA_ne _ _ _ (by omega)).trans ?_) (by omega) (by rfl) rfl rfl ?_
  have s8 : ∀ a, ¬ a = p → (ax_set h7 p (.inr (9, [.ref (p + 1), .ref (p + 3), .ref (p + 4), .ref (p + 6), .null, .null, .int 0]))).2 a = h7.2 a := fun a ha => ax_set_ne _ _ ha
  have o8 : (ax_set h7 p (.inr (9, [.ref (p + 1), .ref (p + 3), .ref (p + 4), .ref (p + 6), .null, .null, .int 0]))).2 p = some (.inr (9, [.ref (p + 1), .ref (p + 3), .ref (p + 4), .ref (p + 6), .null, .null, .int 0])) := ax_set_self _ _ _
  have z8 : (ax_set h7 p (.inr (9, [.ref (p + 1), .ref (p + 3), .ref (p + 4), .ref (p + 6), .null, .null, .int 0]))).1 = p + 7 := z7
  generalize ax_set h7 p (.inr (9, [.ref (p + 1), .ref (p + 3), .ref (p + 4), .ref (p + 6), .null, .null, .int 0])) = h8 at *
  refine wp_aload_n (n := 54) dX9_init_53 rfl rfl ?_
  refine wp_newA (n := 57) (p + 7) dX9_init_54 rfl z8 nlX9_32 rfl rfl ?_
  refine wp_dup (n := 58) dX9_init_57 rfl rfl ?_
  refine wp_callIN (n := 61) (rm' := (2, 80, 18, 4395)) dX9_init_58 rfl mbX5_init (host := "StorageLedger") (by decide) rfl imX5_init [] rfl rfl rfl rfl rfl (Nat.le_of_ble_eq_true rfl) rfl ?_
  refine s_X5_init (ax_newA_self _ _ _) rfl (by omega) (fun h9 z9 f9 hL9 => ?_)
  show WP Γ _ _ _ _ _ _ _
  have s9 : ∀ a, a < p + 7 → h9.2 a = h8.2 a := fun a ha => (f9 a ha).trans (ax_newA_ne _ _ _ (by omega))
  have o9p := (s9 p (by omega)).trans o8
  refine wp_putf (n := 64) dX9_init_61 rfl flX9_39 (by repeat first | assumption | exact ax_set_self _ _ _ | exact ax_newA_self _ _ _ | refine (ax_set_ne _ _ (by omega)).trans ?_ | refine (ax_newA_ne _ _ _ (by omega)).trans ?_) (by omega) (by rfl) rfl rfl ?_
  have s10 : ∀ a, ¬ a = p → (ax_set h9 p (.inr (9, [.ref (p + 1), .ref (p + 3), .ref (p + 4), .ref (p + 6), .ref (p + 7), .null, .int 0]))).2 a = h9.2 a := fun a ha => ax_set_ne _ _ ha
  have o10 : (ax_set h9 p (.inr (9, [.ref (p + 1), .ref (p + 3), .ref (p + 4), .ref (p + 6), .ref (p + 7), .null, .int 0]))).2 p = some (.inr (9, [.ref (p + 1), .ref (p + 3), .ref (p + 4), .ref (p + 6), .ref (p + 7), .null, .int 0])) := ax_set_self _ _ _
  have z10 : (ax_set h9 p (.inr (9, [.ref (p + 1), .ref (p + 3), .ref (p + 4), .ref (p + 6), .ref (p + 7), .null, .int 0]))).1 = p + 26 := z9
  generalize ax_set h9 p (.inr (9, [.ref (p + 1), .ref (p + 3), .ref (p + 4), .ref (p + 6), .ref (p + 7), .null, .int 0])) = h10 at *
  refine wp_aload_n (n := 65) dX9_init_64 rfl rfl ?_
  refine wp_newA (n := 68) (p + 26) dX9_init_65 rfl z10 nlX9_32 rfl rfl ?_
  refine wp_dup (n := 69) dX9_init_68 rfl rfl ?_
  refine wp_callIN (n := 72) (rm' := (2, 80, 18, 4395)) dX9_init_69 rfl mbX5_init (host := "StorageLedger") (by decide) rfl imX5_init [] rfl rfl rfl rfl rfl (Nat.le_of_ble_eq_true rfl) rfl ?_
  refine s_X5_init (ax_newA_self _ _ _) rfl (by omega) (fun h11 z11 f11 hL11 => ?_)
  show WP Γ _ _ _ _ _ _ _
  have s11 : ∀ a, a < p + 26 → h11.2 a = h10.2 a := fun a ha => (f11 a ha).trans (ax_newA_ne _ _ _ (by omega))
  have o11p := (s11 p (by omega)).trans o10
  refine wp_putf (n := 75) dX9_init_72 rfl flX9_43 (by repeat first | assumption | exact ax_set_self _ _ _ | exact ax_newA_self _ _ _ | refine (ax_set_ne _ _ (by omega)).trans ?_ | refine (ax_newA_ne _ _ _ (by omega)).trans ?_) (by omega) (by rfl) rfl rfl ?_
  refine wp_aload_n (n := 76) dX9_init_75 rfl rfl ?_
  refine wp_iconst (n := 77) (v := 0) dX9_init_76 rfl (by decide) ?_
  refine wp_putf (n := 80) dX9_init_77 rfl flX9_46 (by repeat first | assumption | exact ax_set_self _ _ _ | exact ax_newA_self _ _ _ | refine (ax_set_ne _ _ (by omega)).trans ?_ | refine (ax_newA_ne _ _ _ (by omega)).trans ?_) (by omega) (by rfl) rfl rfl ?_
  have s12 : ∀ a, ¬ a = p → (ax_set (ax_set h11 p (.inr (9, [.ref (p + 1), .ref (p + 3), .ref (p + 4), .ref (p + 6), .ref (p + 7), .ref (p + 26), .int 0]))) p (.inr (9, [.ref (p + 1), .ref (p + 3), .ref (p + 4), .ref (p + 6), .ref (p + 7), .ref (p + 26), .int 0]))).2 a = h11.2 a := fun a ha => (ax_set_ne _ _ ha).trans (ax_set_ne _ _ ha)
  have o12 : FacC (ax_set (ax_set h11 p (.inr (9, [.ref (p + 1), .ref (p + 3), .ref (p + 4), .ref (p + 6), .ref (p + 7), .ref (p + 26), .int 0]))) p (.inr (9, [.ref (p + 1), .ref (p + 3), .ref (p + 4), .ref (p + 6), .ref (p + 7), .ref (p + 26), .int 0]))) p (p + 7) (p + 26) 0 := ax_set_self _ _ _
  have z12 : (ax_set (ax_set h11 p (.inr (9, [.ref (p + 1), .ref (p + 3), .ref (p + 4), .ref (p + 6), .ref (p + 7), .ref (p + 26), .int 0]))) p (.inr (9, [.ref (p + 1), .ref (p + 3), .ref (p + 4), .ref (p + 6), .ref (p + 7), .ref (p + 26), .int 0]))).1 = p + 45 := z11
  generalize ax_set (ax_set h11 p (.inr (9, [.ref (p + 1), .ref (p + 3), .ref (p + 4), .ref (p + 6), .ref (p + 7), .ref (p + 26), .int 0]))) p (.inr (9, [.ref (p + 1), .ref (p + 3), .ref (p + 4), .ref (p + 6), .ref (p + 7), .ref (p + 26), .int 0])) = h12 at *
  have o12c := o12
  unfold FacC at o12c
  have hL12 := hL9.ext (h' := h12) (fun c h1 h2 => (s12 c (by omega)).trans ((s11 c (by omega)).trans (s10 c (by omega))))
  have hD12 := hL11.ext (h' := h12) (fun c h1 h2 => s12 c (by omega))
  have low : ∀ a, a < p + 7 → ¬ a = p → h12.2 a = h8.2 a := fun a h1 h2 => (s12 a h2).trans ((s11 a (by omega)).trans ((s10 a h2).trans (s9 a (by omega))))
  have low6 : ∀ a, a < p + 6 → ¬ a = p → h12.2 a = h5.2 a := fun a h1 h2 => (low a (by omega) h2).trans ((s8 a h2).trans ((s7 a h1).trans (s6 a h2)))
  have low4 : ∀ a, a < p + 4 → ¬ a = p → h12.2 a = h3.2 a := fun a h1 h2 => (low6 a (by omega) h2).trans ((s5 a h1).trans (s4 a h2))
  have low3 : ∀ a, a < p + 3 → ¬ a = p → h12.2 a = h1.2 a := fun a h1 h2 => (low4 a (by omega) h2).trans ((s3 a h1).trans (s2 a h2))
  have t12 : TextAt h12 (p + 1) (fun _ => 0) 0 0 0 0 0 0 := ⟨(low3 _ (by omega) (by omega)).trans t1.1, (low3 _ (by omega) (by omega)).trans t1.2⟩
  have r12 : h12.2 (p + 3) = some (.inr (3, [.ref (p + 1)])) := (low4 _ (by omega) (by omega)).trans o3
  have bt12 : BatAt h12 (p + 4) (p + 1) 0 (fun _ => 0) := ⟨(low6 _ (by omega) (by omega)).trans bt5.1, (low6 _ (by omega) (by omega)).trans bt5.2⟩
  have sn12 : SnaC h12 p (fun _ => none) := (low _ (by omega) (by omega)).trans ((s8 _ (by omega)).trans sn7)
  have lo12 : ∀ a, a < p → h12.2 a = h.2 a := fun a ha => (low3 a (by omega) (by omega)).trans (b1 a ha)
  have hF12 : FreeAt Γ h12 := by
    obtain ⟨a1, fn, a2, a3⟩ := hF9
    exact ⟨a1, fn, (lo12 _ (by omega)).trans a2, a3⟩
  have hO12 := hL12.1
  refine wp_aload_n (n := 81) dX9_init_80 rfl rfl ?_
  refine wp_getf (n := 84) dX9_init_81 rfl flX9_39 (by repeat first | assumption | exact ax_set_self _ _ _ | exact ax_newA_self _ _ _ | refine (ax_set_ne _ _ (by omega)).trans ?_ | refine (ax_newA_ne _ _ _ (by omega)).trans ?_) (by rfl) ?_
  refine wp_bipush (n := 86) (v := nI 10) dX9_init_84 rfl (by decide) ?_
  refine wp_callV1 (n := 89) (rm' := (2, 47, 0, 0)) rfl dX9_init_86 rfl mlX9_50 (by repeat first | assumption | exact ax_set_self _ _ _ | exact ax_newA_self _ _ _ | refine (ax_set_ne _ _ (by omega)).trans ?_ | refine (ax_newA_ne _ _ _ (by omega)).trans ?_) rfl rfl rfl rfl rfl ?_
  refine s_X5_begin hL12 (by omega) hF12 (fun h13 fn pl3 tm3 e0 e1 e2 e3 z13 f13 hL13 => ?_)
  show WP Γ _ _ _ _ _ _ _
  refine wp_return dX9_init_89 rfl (k h13 _ (f13.1.trans z12) (fun a ha => (f13.2 a (by omega)).trans (lo12 a ha)) (o12.fr f13 (by omega)) ⟨_, _, _, _, _, t12.fr f13 (by omega)⟩ (f13.get r12 (by omega)) (bt12.fr f13 (by omega)) (f13.get sn12 (by omega)) ⟨_, _, _, _, _, _, _, _, _, fn, pl3, tm3, e0, e1, e2, e3, z13, rfl⟩ ⟨_, hL13⟩ (hD12.fr f13 (by omega)).led)
end
