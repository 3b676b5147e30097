/-! ===== the law: wrappers ===== -/
/-- what a wrapper makes of the end of the call inside it -/
def WX (kd : Nat) (Q : PO) (E : String) (h' : AH) : Prop := (kd = 0 ∧ E = IAE ∧ Q (.inl (some (.int (nI 1)))) h') ∨ (kd = 1 ∧ E = IOB ∧ Q (.inl (some (.int (nI 1)))) h') ∨ (kd = 2 ∧ ((E = IOB ∧ Q (.inl (some (.int (nI 1)))) h') ∨ (E = IAE ∧ Q (.inl (some (.int (nI 2)))) h')))
def WQ (kd o : Nat) (Q : PO) : PO := fun out h' => match out with
  | .inl (some (.int v)) => ∃ fo, h'.2 o = some (.inl (.long, 1, .inr (.inl fo))) ∧ ∀ fo', fo' 0 = v.toInt64 → Q (.inl (some (.int 0))) (ax_set h' o (.inl (.long, 1, .inr (.inl fo'))))
  | .inr E => WX kd Q E h'
  | _ => False
def WQz (kd o : Nat) (Q : PO) : PO := fun out h' => match out with
  | .inl (some (.int v)) => ∃ fo, h'.2 o = some (.inl (.long, 1, .inr (.inl fo))) ∧ ∀ fo', fo' 0 = (if v = 0 then 0 else 1) → Q (.inl (some (.int 0))) (ax_set h' o (.inl (.long, 1, .inr (.inl fo'))))
  | .inr E => WX kd Q E h'
  | _ => False
def WQd (kd o : Nat) (Q : PO) : PO := fun out h' => match out with
  | .inl (some (.float v)) => FP.Core.val32 v ≠ .nan ∧ ∃ fo, h'.2 o = some (.inl (.double, 1, .inr (.inr (.inr (.inl fo))))) ∧ ∀ fo', fo' 0 = FP.f2d v → Q (.inl (some (.int 0))) (ax_set h' o (.inl (.double, 1, .inr (.inr (.inr (.inl fo'))))))
  | .inr E => WX kd Q E h'
  | _ => False
section
variable {Γ : GE} {M : MD} {rm : RM} {pc : Nat} {lo : List (Option Value)} {st : List Value} {h : AH} {Q Q' : PO}
theorem wp_conseq (hQ : ∀ o h', Q o h' → Q' o h') (k : WP Γ M rm pc lo st h Q) : WP Γ M rm pc lo st h Q' := by
  intro p e R s m args below meth c C hf hl H locs cells slots ls mc ms g1 g2 g3 g4 hlo hR hS T hT X
  obtain ⟨t, a1, o, b1, b2, b3⟩ := k p e R s m args below meth c C hf hl H locs cells slots ls mc ms g1 g2 g3 g4 hlo hR hS T hT X
  refine ⟨t, a1, o, b1, b2, ?_⟩
  rcases b3 with ⟨⟨v, h', x1, x2, x3⟩, x4⟩ | ⟨q, e1, E, ce, L, ⟨h', e2, e3⟩, e4⟩
  · exact Or.inl ⟨⟨v, h', x1, hQ _ _ x2, x3⟩, x4⟩
  · exact Or.inr ⟨q, e1, E, ce, L, ⟨h', hQ _ _ e2, e3⟩, e4⟩
end
section
variable {Γ : GE} {h : AH} {Q : PO} {p o : Nat} {fs : List Value} {x1 x2 x3 x4 : Int32}

theorem s_L_appendByte (hX : h.2 p = some (.inr (9, fs))) (hA : Γ.2.1 ≤ o) (kc : WP Γ MX9_appendByte (6, 95, 1, 6) 0 [some (.ref p), some (.int x1)] [] h (WQ 0 o Q)) : WP Γ ML_appendByte (7, 116, 1, 6) 0 [some (.ref p), some (.int x1), some (.ref o), none] [] h Q := by
  refine wp_aload_n (n := 1) dL_appendByte_0 rfl rfl ?_
  refine wp_iconst (n := 2) (v := 0) dL_appendByte_1 rfl (by decide) ?_
  refine wp_aload_n (n := 3) dL_appendByte_2 rfl rfl ?_
  refine wp_iload_n (n := 4) dL_appendByte_3 rfl rfl ?_
  refine wp_callVH (n := 7) (rm' := (6, 95, 1, 6)) rfl dL_appendByte_4 rfl mlL_7 [.int x1] rfl rfl hX rfl rfl rfl (Nat.le_of_ble_eq_true rfl) rfl ?_
  refine wp_conseq (fun out h' hw => ?_) kc
  rcases out with (_ | v) | E
  · exact False.elim hw
  · cases v with
    | int v =>
      obtain ⟨fo, hfo, k⟩ := hw
      show WP Γ _ _ _ _ _ _ _
      refine wp_i2l (n := 8) dL_appendByte_7 rfl ?_
      refine wp_last (n := 9) 0 dL_appendByte_8 rfl hfo hA rfl (by omega) (by omega) ?_
      refine wp_goto (t := 15) dL_appendByte_9 (by decide) ?_
      refine wp_iconst (n := 16) (v := 0) dL_appendByte_15 rfl (by decide) ?_
      exact wp_ireturn dL_appendByte_16 rfl rfl (k _ (if_pos rfl))
    | _ => exact False.elim hw
  · rcases hw with ⟨z, rfl, k⟩ | ⟨z, rfl, k⟩ | ⟨z, ⟨rfl, k⟩ | ⟨rfl, k⟩⟩
    · refine ⟨12, ax_HTa (by decide), fun q => ?_⟩
      refine wp_astore_n (n := 13) dL_appendByte_12 rfl rfl rfl rfl ?_
      refine wp_iconst (n := 14) (v := nI 1) dL_appendByte_13 rfl (by decide) ?_
      exact wp_ireturn dL_appendByte_14 rfl rfl (k)
    · exact absurd z (by decide)
    · exact absurd z (by decide)
    · exact absurd z (by decide)
theorem s_L_nameByte (hX : h.2 p = some (.inr (9, fs))) (hA : Γ.2.1 ≤ o) (kc : WP Γ MX9_nameByte (7, 116, 1, 6) 0 [some (.ref p), some (.int x1), some (.int x2)] [] h (WQ 1 o Q)) : WP Γ ML_nameByte (8, 138, 1, 6) 0 [some (.ref p), some (.int x1), some (.int x2), some (.ref o), none] [] h Q := by
  refine wp_aload_n (n := 1) dL_nameByte_0 rfl rfl ?_
  refine wp_iconst (n := 2) (v := 0) dL_nameByte_1 rfl (by decide) ?_
  refine wp_aload_n (n := 3) dL_nameByte_2 rfl rfl ?_
  refine wp_iload_n (n := 4) dL_nameByte_3 rfl rfl ?_
  refine wp_iload_n (n := 5) dL_nameByte_4 rfl rfl ?_
  refine wp_callVH (n := 8) (rm' := (7, 116, 1, 6)) rfl dL_nameByte_5 rfl mlL_15 [.int x1, .int x2] rfl rfl hX rfl rfl rfl (Nat.le_of_ble_eq_true rfl) rfl ?_
  refine wp_conseq (fun out h' hw => ?_) kc
  rcases out with (_ | v) | E
  · exact False.elim hw
  · cases v with
    | int v =>
      obtain ⟨fo, hfo, k⟩ := hw
      show WP Γ _ _ _ _ _ _ _
      refine wp_i2l (n := 9) dL_nameByte_8 rfl ?_
      refine wp_last (n := 10) 0 dL_nameByte_9 rfl hfo hA rfl (by omega) (by omega) ?_
      refine wp_goto (t := 17) dL_nameByte_10 (by decide) ?_
      refine wp_iconst (n := 18) (v := 0) dL_nameByte_17 rfl (by decide) ?_
      exact wp_ireturn dL_nameByte_18 rfl rfl (k _ (if_pos rfl))
    | _ => exact False.elim hw
  · rcases hw with ⟨z, rfl, k⟩ | ⟨z, rfl, k⟩ | ⟨z, ⟨rfl, k⟩ | ⟨rfl, k⟩⟩
    · exact absurd z (by decide)
    · refine ⟨13, ax_HTb (by decide), fun q => ?_⟩
      refine wp_astore (n := 15) dL_nameByte_13 rfl rfl rfl rfl ?_
      refine wp_iconst (n := 16) (v := nI 1) dL_nameByte_15 rfl (by decide) ?_
      exact wp_ireturn dL_nameByte_16 rfl rfl (k)
    · exact absurd z (by decide)
    · exact absurd z (by decide)
theorem s_L_advance (hX : h.2 p = some (.inr (9, fs))) (hA : Γ.2.1 ≤ o) (kc : WP Γ MX9_advance (7, 115, 1, 6) 0 [some (.ref p), some (.int x1)] [] h (WQ 0 o Q)) : WP Γ ML_advance (8, 136, 1, 6) 0 [some (.ref p), some (.int x1), some (.ref o), none] [] h Q := by
  refine wp_aload_n (n := 1) dL_advance_0 rfl rfl ?_
  refine wp_iconst (n := 2) (v := 0) dL_advance_1 rfl (by decide) ?_
  refine wp_aload_n (n := 3) dL_advance_2 rfl rfl ?_
  refine wp_iload_n (n := 4) dL_advance_3 rfl rfl ?_
  refine wp_callVH (n := 7) (rm' := (7, 115, 1, 6)) rfl dL_advance_4 rfl mlL_21 [.int x1] rfl rfl hX rfl rfl rfl (Nat.le_of_ble_eq_true rfl) rfl ?_
  refine wp_conseq (fun out h' hw => ?_) kc
  rcases out with (_ | v) | E
  · exact False.elim hw
  · cases v with
    | int v =>
      obtain ⟨fo, hfo, k⟩ := hw
      show WP Γ _ _ _ _ _ _ _
      refine wp_i2l (n := 8) dL_advance_7 rfl ?_
      refine wp_last (n := 9) 0 dL_advance_8 rfl hfo hA rfl (by omega) (by omega) ?_
      refine wp_goto (t := 15) dL_advance_9 (by decide) ?_
      refine wp_iconst (n := 16) (v := 0) dL_advance_15 rfl (by decide) ?_
      exact wp_ireturn dL_advance_16 rfl rfl (k _ (if_pos rfl))
    | _ => exact False.elim hw
  · rcases hw with ⟨z, rfl, k⟩ | ⟨z, rfl, k⟩ | ⟨z, ⟨rfl, k⟩ | ⟨rfl, k⟩⟩
    · refine ⟨12, ax_HTa (by decide), fun q => ?_⟩
      refine wp_astore_n (n := 13) dL_advance_12 rfl rfl rfl rfl ?_
      refine wp_iconst (n := 14) (v := nI 1) dL_advance_13 rfl (by decide) ?_
      exact wp_ireturn dL_advance_14 rfl rfl (k)
    · exact absurd z (by decide)
    · exact absurd z (by decide)
    · exact absurd z (by decide)
theorem s_L_setPick (hX : h.2 p = some (.inr (9, fs))) (hA : Γ.2.1 ≤ o) (kc : WP Γ MX9_setPick (6, 95, 1, 6) 0 [some (.ref p), some (.int x1), none] [] h (WQ 0 o Q)) : WP Γ ML_setPick (7, 117, 1, 6) 0 [some (.ref p), some (.int x1), some (.ref o), none] [] h Q := by
  refine wp_aload_n (n := 1) dL_setPick_0 rfl rfl ?_
  refine wp_iconst (n := 2) (v := 0) dL_setPick_1 rfl (by decide) ?_
  refine wp_aload_n (n := 3) dL_setPick_2 rfl rfl ?_
  refine wp_iload_n (n := 4) dL_setPick_3 rfl rfl ?_
  refine wp_callVH (n := 7) (rm' := (6, 95, 1, 6)) rfl dL_setPick_4 rfl mlL_24 [.int x1] rfl rfl hX rfl rfl rfl (Nat.le_of_ble_eq_true rfl) rfl ?_
  refine wp_conseq (fun out h' hw => ?_) kc
  rcases out with (_ | v) | E
  · exact False.elim hw
  · cases v with
    | int v =>
      obtain ⟨fo, hfo, k⟩ := hw
      show WP Γ _ _ _ _ _ _ _
      refine wp_i2l (n := 8) dL_setPick_7 rfl ?_
      refine wp_last (n := 9) 0 dL_setPick_8 rfl hfo hA rfl (by omega) (by omega) ?_
      refine wp_goto (t := 15) dL_setPick_9 (by decide) ?_
      refine wp_iconst (n := 16) (v := 0) dL_setPick_15 rfl (by decide) ?_
      exact wp_ireturn dL_setPick_16 rfl rfl (k _ (if_pos rfl))
    | _ => exact False.elim hw
  · rcases hw with ⟨z, rfl, k⟩ | ⟨z, rfl, k⟩ | ⟨z, ⟨rfl, k⟩ | ⟨rfl, k⟩⟩
    · refine ⟨12, ax_HTa (by decide), fun q => ?_⟩
      refine wp_astore_n (n := 13) dL_setPick_12 rfl rfl rfl rfl ?_
      refine wp_iconst (n := 14) (v := nI 1) dL_setPick_13 rfl (by decide) ?_
      exact wp_ireturn dL_setPick_14 rfl rfl (k)
    · exact absurd z (by decide)
    · exact absurd z (by decide)
    · exact absurd z (by decide)
theorem s_L_transfer (hX : h.2 p = some (.inr (9, fs))) (hA : Γ.2.1 ≤ o) (kc : WP Γ MX9_transfer (8, 138, 5, 30) 0 [some (.ref p), some (.int x1), some (.int x2), some (.int x3), some (.int x4)] [] h (WQ 2 o Q)) : WP Γ ML_transfer (9, 162, 5, 30) 0 [some (.ref p), some (.int x1), some (.int x2), some (.int x3), some (.int x4), some (.ref o), none] [] h Q := by
  refine wp_aload (n := 2) dL_transfer_0 rfl rfl ?_
  refine wp_iconst (n := 3) (v := 0) dL_transfer_2 rfl (by decide) ?_
  refine wp_aload_n (n := 4) dL_transfer_3 rfl rfl ?_
  refine wp_iload_n (n := 5) dL_transfer_4 rfl rfl ?_
  refine wp_iload_n (n := 6) dL_transfer_5 rfl rfl ?_
  refine wp_iload_n (n := 7) dL_transfer_6 rfl rfl ?_
  refine wp_iload (n := 9) dL_transfer_7 rfl rfl ?_
  refine wp_callVH (n := 12) (rm' := (8, 138, 5, 30)) rfl dL_transfer_9 rfl mlL_27 [.int x1, .int x2, .int x3, .int x4] rfl rfl hX rfl rfl rfl (Nat.le_of_ble_eq_true rfl) rfl ?_
  refine wp_conseq (fun out h' hw => ?_) kc
  rcases out with (_ | v) | E
  · exact False.elim hw
  · cases v with
    | int v =>
      obtain ⟨fo, hfo, k⟩ := hw
      show WP Γ _ _ _ _ _ _ _
      refine wp_i2l (n := 13) dL_transfer_12 rfl ?_
      refine wp_last (n := 14) 0 dL_transfer_13 rfl hfo hA rfl (by omega) (by omega) ?_
      refine wp_goto (t := 25) dL_transfer_14 (by decide) ?_
      refine wp_iconst (n := 26) (v := 0) dL_transfer_25 rfl (by decide) ?_
      exact wp_ireturn dL_transfer_26 rfl rfl (k _ (if_pos rfl))
    | _ => exact False.elim hw
  · rcases hw with ⟨z, rfl, k⟩ | ⟨z, rfl, k⟩ | ⟨z, ⟨rfl, k⟩ | ⟨rfl, k⟩⟩
    · exact absurd z (by decide)
    · exact absurd z (by decide)
    · refine ⟨17, ax_HTc1 (by decide), fun q => ?_⟩
      refine wp_astore (n := 19) dL_transfer_17 rfl rfl rfl rfl ?_
      refine wp_iconst (n := 20) (v := nI 1) dL_transfer_19 rfl (by decide) ?_
      exact wp_ireturn dL_transfer_20 rfl rfl (k)
    · refine ⟨21, ax_HTc2 (by decide), fun q => ?_⟩
      refine wp_astore (n := 23) dL_transfer_21 rfl rfl rfl rfl ?_
      refine wp_iconst (n := 24) (v := nI 2) dL_transfer_23 rfl (by decide) ?_
      exact wp_ireturn dL_transfer_24 rfl rfl (k)
theorem s_L_transferBlock (hX : h.2 p = some (.inr (9, fs))) (hA : Γ.2.1 ≤ o) (kc : WP Γ MX9_transferBlock (7, 116, 3, 18) 0 [some (.ref p), some (.int x1), some (.int x2), some (.int x3)] [] h (WQ 2 o Q)) : WP Γ ML_transferBlock (8, 139, 3, 18) 0 [some (.ref p), some (.int x1), some (.int x2), some (.int x3), some (.ref o), none] [] h Q := by
  refine wp_aload (n := 2) dL_transferBlock_0 rfl rfl ?_
  refine wp_iconst (n := 3) (v := 0) dL_transferBlock_2 rfl (by decide) ?_
  refine wp_aload_n (n := 4) dL_transferBlock_3 rfl rfl ?_
  refine wp_iload_n (n := 5) dL_transferBlock_4 rfl rfl ?_
  refine wp_iload_n (n := 6) dL_transferBlock_5 rfl rfl ?_
  refine wp_iload_n (n := 7) dL_transferBlock_6 rfl rfl ?_
  refine wp_callVH (n := 10) (rm' := (7, 116, 3, 18)) rfl dL_transferBlock_7 rfl mlL_31 [.int x1, .int x2, .int x3] rfl rfl hX rfl rfl rfl (Nat.le_of_ble_eq_true rfl) rfl ?_
  refine wp_conseq (fun out h' hw => ?_) kc
  rcases out with (_ | v) | E
  · exact False.elim hw
  · cases v with
    | int v =>
      obtain ⟨fo, hfo, k⟩ := hw
      show WP Γ _ _ _ _ _ _ _
      refine wp_i2l (n := 11) dL_transferBlock_10 rfl ?_
      refine wp_last (n := 12) 0 dL_transferBlock_11 rfl hfo hA rfl (by omega) (by omega) ?_
      refine wp_goto (t := 23) dL_transferBlock_12 (by decide) ?_
      refine wp_iconst (n := 24) (v := 0) dL_transferBlock_23 rfl (by decide) ?_
      exact wp_ireturn dL_transferBlock_24 rfl rfl (k _ (if_pos rfl))
    | _ => exact False.elim hw
  · rcases hw with ⟨z, rfl, k⟩ | ⟨z, rfl, k⟩ | ⟨z, ⟨rfl, k⟩ | ⟨rfl, k⟩⟩
    · exact absurd z (by decide)
    · exact absurd z (by decide)
    · refine ⟨15, ax_HTc1 (by decide), fun q => ?_⟩
      refine wp_astore (n := 17) dL_transferBlock_15 rfl rfl rfl rfl ?_
      refine wp_iconst (n := 18) (v := nI 1) dL_transferBlock_17 rfl (by decide) ?_
      exact wp_ireturn dL_transferBlock_18 rfl rfl (k)
    · refine ⟨19, ax_HTc2 (by decide), fun q => ?_⟩
      refine wp_astore (n := 21) dL_transferBlock_19 rfl rfl rfl rfl ?_
      refine wp_iconst (n := 22) (v := nI 2) dL_transferBlock_21 rfl (by decide) ?_
      exact wp_ireturn dL_transferBlock_22 rfl rfl (k)
theorem s_L_reverse (hX : h.2 p = some (.inr (9, fs))) (hA : Γ.2.1 ≤ o) (kc : WP Γ MX9_reverse (7, 116, 1, 6) 0 [some (.ref p), some (.int x1)] [] h (WQ 1 o Q)) : WP Γ ML_reverse (8, 137, 1, 6) 0 [some (.ref p), some (.int x1), some (.ref o), none] [] h Q := by
  refine wp_aload_n (n := 1) dL_reverse_0 rfl rfl ?_
  refine wp_iconst (n := 2) (v := 0) dL_reverse_1 rfl (by decide) ?_
  refine wp_aload_n (n := 3) dL_reverse_2 rfl rfl ?_
  refine wp_iload_n (n := 4) dL_reverse_3 rfl rfl ?_
  refine wp_callVH (n := 7) (rm' := (7, 116, 1, 6)) rfl dL_reverse_4 rfl mlL_35 [.int x1] rfl rfl hX rfl rfl rfl (Nat.le_of_ble_eq_true rfl) rfl ?_
  refine wp_conseq (fun out h' hw => ?_) kc
  rcases out with (_ | v) | E
  · exact False.elim hw
  · cases v with
    | int v =>
      obtain ⟨fo, hfo, k⟩ := hw
      show WP Γ _ _ _ _ _ _ _
      refine wp_i2l (n := 8) dL_reverse_7 rfl ?_
      refine wp_last (n := 9) 0 dL_reverse_8 rfl hfo hA rfl (by omega) (by omega) ?_
      refine wp_goto (t := 15) dL_reverse_9 (by decide) ?_
      refine wp_iconst (n := 16) (v := 0) dL_reverse_15 rfl (by decide) ?_
      exact wp_ireturn dL_reverse_16 rfl rfl (k _ (if_pos rfl))
    | _ => exact False.elim hw
  · rcases hw with ⟨z, rfl, k⟩ | ⟨z, rfl, k⟩ | ⟨z, ⟨rfl, k⟩ | ⟨rfl, k⟩⟩
    · exact absurd z (by decide)
    · refine ⟨12, ax_HTb (by decide), fun q => ?_⟩
      refine wp_astore_n (n := 13) dL_reverse_12 rfl rfl rfl rfl ?_
      refine wp_iconst (n := 14) (v := nI 1) dL_reverse_13 rfl (by decide) ?_
      exact wp_ireturn dL_reverse_14 rfl rfl (k)
    · exact absurd z (by decide)
    · exact absurd z (by decide)
theorem s_L_reserve (hX : h.2 p = some (.inr (9, fs))) (hA : Γ.2.1 ≤ o) (kc : WP Γ MX9_reserve (8, 138, 5, 30) 0 [some (.ref p), some (.int x1), some (.int x2), some (.int x3), some (.int x4)] [] h (WQ 2 o Q)) : WP Γ ML_reserve (9, 162, 5, 30) 0 [some (.ref p), some (.int x1), some (.int x2), some (.int x3), some (.int x4), some (.ref o), none] [] h Q := by
  refine wp_aload (n := 2) dL_reserve_0 rfl rfl ?_
  refine wp_iconst (n := 3) (v := 0) dL_reserve_2 rfl (by decide) ?_
  refine wp_aload_n (n := 4) dL_reserve_3 rfl rfl ?_
  refine wp_iload_n (n := 5) dL_reserve_4 rfl rfl ?_
  refine wp_iload_n (n := 6) dL_reserve_5 rfl rfl ?_
  refine wp_iload_n (n := 7) dL_reserve_6 rfl rfl ?_
  refine wp_iload (n := 9) dL_reserve_7 rfl rfl ?_
  refine wp_callVH (n := 12) (rm' := (8, 138, 5, 30)) rfl dL_reserve_9 rfl mlL_38 [.int x1, .int x2, .int x3, .int x4] rfl rfl hX rfl rfl rfl (Nat.le_of_ble_eq_true rfl) rfl ?_
  refine wp_conseq (fun out h' hw => ?_) kc
  rcases out with (_ | v) | E
  · exact False.elim hw
  · cases v with
    | int v =>
      obtain ⟨fo, hfo, k⟩ := hw
      show WP Γ _ _ _ _ _ _ _
      refine wp_i2l (n := 13) dL_reserve_12 rfl ?_
      refine wp_last (n := 14) 0 dL_reserve_13 rfl hfo hA rfl (by omega) (by omega) ?_
      refine wp_goto (t := 25) dL_reserve_14 (by decide) ?_
      refine wp_iconst (n := 26) (v := 0) dL_reserve_25 rfl (by decide) ?_
      exact wp_ireturn dL_reserve_26 rfl rfl (k _ (if_pos rfl))
    | _ => exact False.elim hw
  · rcases hw with ⟨z, rfl, k⟩ | ⟨z, rfl, k⟩ | ⟨z, ⟨rfl, k⟩ | ⟨rfl, k⟩⟩
    · exact absurd z (by decide)
    · exact absurd z (by decide)
    · refine ⟨17, ax_HTc1 (by decide), fun q => ?_⟩
      refine wp_astore (n := 19) dL_reserve_17 rfl rfl rfl rfl ?_
      refine wp_iconst (n := 20) (v := nI 1) dL_reserve_19 rfl (by decide) ?_
      exact wp_ireturn dL_reserve_20 rfl rfl (k)
    · refine ⟨21, ax_HTc2 (by decide), fun q => ?_⟩
      refine wp_astore (n := 23) dL_reserve_21 rfl rfl rfl rfl ?_
      refine wp_iconst (n := 24) (v := nI 2) dL_reserve_23 rfl (by decide) ?_
      exact wp_ireturn dL_reserve_24 rfl rfl (k)
theorem s_L_commit (hX : h.2 p = some (.inr (9, fs))) (hA : Γ.2.1 ≤ o) (kc : WP Γ MX9_commit (7, 116, 2, 12) 0 [some (.ref p), some (.int x1), some (.int x2)] [] h (WQ 2 o Q)) : WP Γ ML_commit (8, 138, 2, 12) 0 [some (.ref p), some (.int x1), some (.int x2), some (.ref o), none] [] h Q := by
  refine wp_aload_n (n := 1) dL_commit_0 rfl rfl ?_
  refine wp_iconst (n := 2) (v := 0) dL_commit_1 rfl (by decide) ?_
  refine wp_aload_n (n := 3) dL_commit_2 rfl rfl ?_
  refine wp_iload_n (n := 4) dL_commit_3 rfl rfl ?_
  refine wp_iload_n (n := 5) dL_commit_4 rfl rfl ?_
  refine wp_callVH (n := 8) (rm' := (7, 116, 2, 12)) rfl dL_commit_5 rfl mlL_41 [.int x1, .int x2] rfl rfl hX rfl rfl rfl (Nat.le_of_ble_eq_true rfl) rfl ?_
  refine wp_conseq (fun out h' hw => ?_) kc
  rcases out with (_ | v) | E
  · exact False.elim hw
  · cases v with
    | int v =>
      obtain ⟨fo, hfo, k⟩ := hw
      show WP Γ _ _ _ _ _ _ _
      refine wp_i2l (n := 9) dL_commit_8 rfl ?_
      refine wp_last (n := 10) 0 dL_commit_9 rfl hfo hA rfl (by omega) (by omega) ?_
      refine wp_goto (t := 21) dL_commit_10 (by decide) ?_
      refine wp_iconst (n := 22) (v := 0) dL_commit_21 rfl (by decide) ?_
      exact wp_ireturn dL_commit_22 rfl rfl (k _ (if_pos rfl))
    | _ => exact False.elim hw
  · rcases hw with ⟨z, rfl, k⟩ | ⟨z, rfl, k⟩ | ⟨z, ⟨rfl, k⟩ | ⟨rfl, k⟩⟩
    · exact absurd z (by decide)
    · exact absurd z (by decide)
    · refine ⟨13, ax_HTc1 (by decide), fun q => ?_⟩
      refine wp_astore (n := 15) dL_commit_13 rfl rfl rfl rfl ?_
      refine wp_iconst (n := 16) (v := nI 1) dL_commit_15 rfl (by decide) ?_
      exact wp_ireturn dL_commit_16 rfl rfl (k)
    · refine ⟨17, ax_HTc2 (by decide), fun q => ?_⟩
      refine wp_astore (n := 19) dL_commit_17 rfl rfl rfl rfl ?_
      refine wp_iconst (n := 20) (v := nI 2) dL_commit_19 rfl (by decide) ?_
      exact wp_ireturn dL_commit_20 rfl rfl (k)
theorem s_L_release (hX : h.2 p = some (.inr (9, fs))) (hA : Γ.2.1 ≤ o) (kc : WP Γ MX9_release (7, 116, 1, 6) 0 [some (.ref p), some (.int x1)] [] h (WQ 1 o Q)) : WP Γ ML_release (8, 137, 1, 6) 0 [some (.ref p), some (.int x1), some (.ref o), none] [] h Q := by
  refine wp_aload_n (n := 1) dL_release_0 rfl rfl ?_
  refine wp_iconst (n := 2) (v := 0) dL_release_1 rfl (by decide) ?_
  refine wp_aload_n (n := 3) dL_release_2 rfl rfl ?_
  refine wp_iload_n (n := 4) dL_release_3 rfl rfl ?_
  refine wp_callVH (n := 7) (rm' := (7, 116, 1, 6)) rfl dL_release_4 rfl mlL_44 [.int x1] rfl rfl hX rfl rfl rfl (Nat.le_of_ble_eq_true rfl) rfl ?_
  refine wp_conseq (fun out h' hw => ?_) kc
  rcases out with (_ | v) | E
  · exact False.elim hw
  · cases v with
    | int v =>
      obtain ⟨fo, hfo, k⟩ := hw
      show WP Γ _ _ _ _ _ _ _
      refine wp_i2l (n := 8) dL_release_7 rfl ?_
      refine wp_last (n := 9) 0 dL_release_8 rfl hfo hA rfl (by omega) (by omega) ?_
      refine wp_goto (t := 15) dL_release_9 (by decide) ?_
      refine wp_iconst (n := 16) (v := 0) dL_release_15 rfl (by decide) ?_
      exact wp_ireturn dL_release_16 rfl rfl (k _ (if_pos rfl))
    | _ => exact False.elim hw
  · rcases hw with ⟨z, rfl, k⟩ | ⟨z, rfl, k⟩ | ⟨z, ⟨rfl, k⟩ | ⟨rfl, k⟩⟩
    · exact absurd z (by decide)
    · refine ⟨12, ax_HTb (by decide), fun q => ?_⟩
      refine wp_astore_n (n := 13) dL_release_12 rfl rfl rfl rfl ?_
      refine wp_iconst (n := 14) (v := nI 1) dL_release_13 rfl (by decide) ?_
      exact wp_ireturn dL_release_14 rfl rfl (k)
    · exact absurd z (by decide)
    · exact absurd z (by decide)
theorem s_L_extend (hX : h.2 p = some (.inr (9, fs))) (hA : Γ.2.1 ≤ o) (kc : WP Γ MX9_extend (7, 116, 2, 12) 0 [some (.ref p), some (.int x1), some (.int x2)] [] h (WQ 2 o Q)) : WP Γ ML_extend (8, 138, 2, 12) 0 [some (.ref p), some (.int x1), some (.int x2), some (.ref o), none] [] h Q := by
  refine wp_aload_n (n := 1) dL_extend_0 rfl rfl ?_
  refine wp_iconst (n := 2) (v := 0) dL_extend_1 rfl (by decide) ?_
  refine wp_aload_n (n := 3) dL_extend_2 rfl rfl ?_
  refine wp_iload_n (n := 4) dL_extend_3 rfl rfl ?_
  refine wp_iload_n (n := 5) dL_extend_4 rfl rfl ?_
  refine wp_callVH (n := 8) (rm' := (7, 116, 2, 12)) rfl dL_extend_5 rfl mlL_47 [.int x1, .int x2] rfl rfl hX rfl rfl rfl (Nat.le_of_ble_eq_true rfl) rfl ?_
  refine wp_conseq (fun out h' hw => ?_) kc
  rcases out with (_ | v) | E
  · exact False.elim hw
  · cases v with
    | int v =>
      obtain ⟨fo, hfo, k⟩ := hw
      show WP Γ _ _ _ _ _ _ _
      refine wp_i2l (n := 9) dL_extend_8 rfl ?_
      refine wp_last (n := 10) 0 dL_extend_9 rfl hfo hA rfl (by omega) (by omega) ?_
      refine wp_goto (t := 21) dL_extend_10 (by decide) ?_
      refine wp_iconst (n := 22) (v := 0) dL_extend_21 rfl (by decide) ?_
      exact wp_ireturn dL_extend_22 rfl rfl (k _ (if_pos rfl))
    | _ => exact False.elim hw
  · rcases hw with ⟨z, rfl, k⟩ | ⟨z, rfl, k⟩ | ⟨z, ⟨rfl, k⟩ | ⟨rfl, k⟩⟩
    · exact absurd z (by decide)
    · exact absurd z (by decide)
    · refine ⟨13, ax_HTc1 (by decide), fun q => ?_⟩
      refine wp_astore (n := 15) dL_extend_13 rfl rfl rfl rfl ?_
      refine wp_iconst (n := 16) (v := nI 1) dL_extend_15 rfl (by decide) ?_
      exact wp_ireturn dL_extend_16 rfl rfl (k)
    · refine ⟨17, ax_HTc2 (by decide), fun q => ?_⟩
      refine wp_astore (n := 19) dL_extend_17 rfl rfl rfl rfl ?_
      refine wp_iconst (n := 20) (v := nI 2) dL_extend_19 rfl (by decide) ?_
      exact wp_ireturn dL_extend_20 rfl rfl (k)
theorem s_L_balance (hX : h.2 p = some (.inr (9, fs))) (hA : Γ.2.1 ≤ o) (kc : WP Γ MX9_balance (7, 116, 1, 6) 0 [some (.ref p), some (.int x1)] [] h (WQ 1 o Q)) : WP Γ ML_balance (8, 137, 1, 6) 0 [some (.ref p), some (.int x1), some (.ref o), none] [] h Q := by
  refine wp_aload_n (n := 1) dL_balance_0 rfl rfl ?_
  refine wp_iconst (n := 2) (v := 0) dL_balance_1 rfl (by decide) ?_
  refine wp_aload_n (n := 3) dL_balance_2 rfl rfl ?_
  refine wp_iload_n (n := 4) dL_balance_3 rfl rfl ?_
  refine wp_callVH (n := 7) (rm' := (7, 116, 1, 6)) rfl dL_balance_4 rfl mlL_50 [.int x1] rfl rfl hX rfl rfl rfl (Nat.le_of_ble_eq_true rfl) rfl ?_
  refine wp_conseq (fun out h' hw => ?_) kc
  rcases out with (_ | v) | E
  · exact False.elim hw
  · cases v with
    | int v =>
      obtain ⟨fo, hfo, k⟩ := hw
      show WP Γ _ _ _ _ _ _ _
      refine wp_i2l (n := 8) dL_balance_7 rfl ?_
      refine wp_last (n := 9) 0 dL_balance_8 rfl hfo hA rfl (by omega) (by omega) ?_
      refine wp_goto (t := 15) dL_balance_9 (by decide) ?_
      refine wp_iconst (n := 16) (v := 0) dL_balance_15 rfl (by decide) ?_
      exact wp_ireturn dL_balance_16 rfl rfl (k _ (if_pos rfl))
    | _ => exact False.elim hw
  · rcases hw with ⟨z, rfl, k⟩ | ⟨z, rfl, k⟩ | ⟨z, ⟨rfl, k⟩ | ⟨rfl, k⟩⟩
    · exact absurd z (by decide)
    · refine ⟨12, ax_HTb (by decide), fun q => ?_⟩
      refine wp_astore_n (n := 13) dL_balance_12 rfl rfl rfl rfl ?_
      refine wp_iconst (n := 14) (v := nI 1) dL_balance_13 rfl (by decide) ?_
      exact wp_ireturn dL_balance_14 rfl rfl (k)
    · exact absurd z (by decide)
    · exact absurd z (by decide)
theorem s_L_booked (hX : h.2 p = some (.inr (9, fs))) (hA : Γ.2.1 ≤ o) (kc : WP Γ MX9_booked (7, 116, 1, 6) 0 [some (.ref p), some (.int x1)] [] h (WQ 1 o Q)) : WP Γ ML_booked (8, 137, 1, 6) 0 [some (.ref p), some (.int x1), some (.ref o), none] [] h Q := by
  refine wp_aload_n (n := 1) dL_booked_0 rfl rfl ?_
  refine wp_iconst (n := 2) (v := 0) dL_booked_1 rfl (by decide) ?_
  refine wp_aload_n (n := 3) dL_booked_2 rfl rfl ?_
  refine wp_iload_n (n := 4) dL_booked_3 rfl rfl ?_
  refine wp_callVH (n := 7) (rm' := (7, 116, 1, 6)) rfl dL_booked_4 rfl mlL_53 [.int x1] rfl rfl hX rfl rfl rfl (Nat.le_of_ble_eq_true rfl) rfl ?_
  refine wp_conseq (fun out h' hw => ?_) kc
  rcases out with (_ | v) | E
  · exact False.elim hw
  · cases v with
    | int v =>
      obtain ⟨fo, hfo, k⟩ := hw
      show WP Γ _ _ _ _ _ _ _
      refine wp_i2l (n := 8) dL_booked_7 rfl ?_
      refine wp_last (n := 9) 0 dL_booked_8 rfl hfo hA rfl (by omega) (by omega) ?_
      refine wp_goto (t := 15) dL_booked_9 (by decide) ?_
      refine wp_iconst (n := 16) (v := 0) dL_booked_15 rfl (by decide) ?_
      exact wp_ireturn dL_booked_16 rfl rfl (k _ (if_pos rfl))
    | _ => exact False.elim hw
  · rcases hw with ⟨z, rfl, k⟩ | ⟨z, rfl, k⟩ | ⟨z, ⟨rfl, k⟩ | ⟨rfl, k⟩⟩
    · exact absurd z (by decide)
    · refine ⟨12, ax_HTb (by decide), fun q => ?_⟩
      refine wp_astore_n (n := 13) dL_booked_12 rfl rfl rfl rfl ?_
      refine wp_iconst (n := 14) (v := nI 1) dL_booked_13 rfl (by decide) ?_
      exact wp_ireturn dL_booked_14 rfl rfl (k)
    · exact absurd z (by decide)
    · exact absurd z (by decide)
theorem s_L_available (hX : h.2 p = some (.inr (9, fs))) (hA : Γ.2.1 ≤ o) (kc : WP Γ MX9_available (7, 116, 1, 6) 0 [some (.ref p), some (.int x1)] [] h (WQ 1 o Q)) : WP Γ ML_available (8, 137, 1, 6) 0 [some (.ref p), some (.int x1), some (.ref o), none] [] h Q := by
  refine wp_aload_n (n := 1) dL_available_0 rfl rfl ?_
  refine wp_iconst (n := 2) (v := 0) dL_available_1 rfl (by decide) ?_
  refine wp_aload_n (n := 3) dL_available_2 rfl rfl ?_
  refine wp_iload_n (n := 4) dL_available_3 rfl rfl ?_
  refine wp_callVH (n := 7) (rm' := (7, 116, 1, 6)) rfl dL_available_4 rfl mlL_56 [.int x1] rfl rfl hX rfl rfl rfl (Nat.le_of_ble_eq_true rfl) rfl ?_
  refine wp_conseq (fun out h' hw => ?_) kc
  rcases out with (_ | v) | E
  · exact False.elim hw
  · cases v with
    | int v =>
      obtain ⟨fo, hfo, k⟩ := hw
      show WP Γ _ _ _ _ _ _ _
      refine wp_i2l (n := 8) dL_available_7 rfl ?_
      refine wp_last (n := 9) 0 dL_available_8 rfl hfo hA rfl (by omega) (by omega) ?_
      refine wp_goto (t := 15) dL_available_9 (by decide) ?_
      refine wp_iconst (n := 16) (v := 0) dL_available_15 rfl (by decide) ?_
      exact wp_ireturn dL_available_16 rfl rfl (k _ (if_pos rfl))
    | _ => exact False.elim hw
  · rcases hw with ⟨z, rfl, k⟩ | ⟨z, rfl, k⟩ | ⟨z, ⟨rfl, k⟩ | ⟨rfl, k⟩⟩
    · exact absurd z (by decide)
    · refine ⟨12, ax_HTb (by decide), fun q => ?_⟩
      refine wp_astore_n (n := 13) dL_available_12 rfl rfl rfl rfl ?_
      refine wp_iconst (n := 14) (v := nI 1) dL_available_13 rfl (by decide) ?_
      exact wp_ireturn dL_available_14 rfl rfl (k)
    · exact absurd z (by decide)
    · exact absurd z (by decide)
theorem s_L_room (hX : h.2 p = some (.inr (9, fs))) (hA : Γ.2.1 ≤ o) (kc : WP Γ MX9_room (7, 116, 1, 6) 0 [some (.ref p), some (.int x1)] [] h (WQ 1 o Q)) : WP Γ ML_room (8, 137, 1, 6) 0 [some (.ref p), some (.int x1), some (.ref o), none] [] h Q := by
  refine wp_aload_n (n := 1) dL_room_0 rfl rfl ?_
  refine wp_iconst (n := 2) (v := 0) dL_room_1 rfl (by decide) ?_
  refine wp_aload_n (n := 3) dL_room_2 rfl rfl ?_
  refine wp_iload_n (n := 4) dL_room_3 rfl rfl ?_
  refine wp_callVH (n := 7) (rm' := (7, 116, 1, 6)) rfl dL_room_4 rfl mlL_59 [.int x1] rfl rfl hX rfl rfl rfl (Nat.le_of_ble_eq_true rfl) rfl ?_
  refine wp_conseq (fun out h' hw => ?_) kc
  rcases out with (_ | v) | E
  · exact False.elim hw
  · cases v with
    | int v =>
      obtain ⟨fo, hfo, k⟩ := hw
      show WP Γ _ _ _ _ _ _ _
      refine wp_i2l (n := 8) dL_room_7 rfl ?_
      refine wp_last (n := 9) 0 dL_room_8 rfl hfo hA rfl (by omega) (by omega) ?_
      refine wp_goto (t := 15) dL_room_9 (by decide) ?_
      refine wp_iconst (n := 16) (v := 0) dL_room_15 rfl (by decide) ?_
      exact wp_ireturn dL_room_16 rfl rfl (k _ (if_pos rfl))
    | _ => exact False.elim hw
  · rcases hw with ⟨z, rfl, k⟩ | ⟨z, rfl, k⟩ | ⟨z, ⟨rfl, k⟩ | ⟨rfl, k⟩⟩
    · exact absurd z (by decide)
    · refine ⟨12, ax_HTb (by decide), fun q => ?_⟩
      refine wp_astore_n (n := 13) dL_room_12 rfl rfl rfl rfl ?_
      refine wp_iconst (n := 14) (v := nI 1) dL_room_13 rfl (by decide) ?_
      exact wp_ireturn dL_room_14 rfl rfl (k)
    · exact absurd z (by decide)
    · exact absurd z (by decide)
theorem s_L_largestTransfer (hX : h.2 p = some (.inr (9, fs))) (hA : Γ.2.1 ≤ o) (kc : WP Γ MX9_largestTransfer (8, 138, 3, 18) 0 [some (.ref p), some (.int x1), some (.int x2)] [] h (WQ 2 o Q)) : WP Γ ML_largestTransfer (9, 160, 3, 18) 0 [some (.ref p), some (.int x1), some (.int x2), some (.ref o), none] [] h Q := by
  refine wp_aload_n (n := 1) dL_largestTransfer_0 rfl rfl ?_
  refine wp_iconst (n := 2) (v := 0) dL_largestTransfer_1 rfl (by decide) ?_
  refine wp_aload_n (n := 3) dL_largestTransfer_2 rfl rfl ?_
  refine wp_iload_n (n := 4) dL_largestTransfer_3 rfl rfl ?_
  refine wp_iload_n (n := 5) dL_largestTransfer_4 rfl rfl ?_
  refine wp_callVH (n := 8) (rm' := (8, 138, 3, 18)) rfl dL_largestTransfer_5 rfl mlL_62 [.int x1, .int x2] rfl rfl hX rfl rfl rfl (Nat.le_of_ble_eq_true rfl) rfl ?_
  refine wp_conseq (fun out h' hw => ?_) kc
  rcases out with (_ | v) | E
  · exact False.elim hw
  · cases v with
    | int v =>
      obtain ⟨fo, hfo, k⟩ := hw
      show WP Γ _ _ _ _ _ _ _
      refine wp_i2l (n := 9) dL_largestTransfer_8 rfl ?_
      refine wp_last (n := 10) 0 dL_largestTransfer_9 rfl hfo hA rfl (by omega) (by omega) ?_
      refine wp_goto (t := 21) dL_largestTransfer_10 (by decide) ?_
      refine wp_iconst (n := 22) (v := 0) dL_largestTransfer_21 rfl (by decide) ?_
      exact wp_ireturn dL_largestTransfer_22 rfl rfl (k _ (if_pos rfl))
    | _ => exact False.elim hw
  · rcases hw with ⟨z, rfl, k⟩ | ⟨z, rfl, k⟩ | ⟨z, ⟨rfl, k⟩ | ⟨rfl, k⟩⟩
    · exact absurd z (by decide)
    · exact absurd z (by decide)
    · refine ⟨13, ax_HTc1 (by decide), fun q => ?_⟩
      refine wp_astore (n := 15) dL_largestTransfer_13 rfl rfl rfl rfl ?_
      refine wp_iconst (n := 16) (v := nI 1) dL_largestTransfer_15 rfl (by decide) ?_
      exact wp_ireturn dL_largestTransfer_16 rfl rfl (k)
    · refine ⟨17, ax_HTc2 (by decide), fun q => ?_⟩
      refine wp_astore (n := 19) dL_largestTransfer_17 rfl rfl rfl rfl ?_
      refine wp_iconst (n := 20) (v := nI 2) dL_largestTransfer_19 rfl (by decide) ?_
      exact wp_ireturn dL_largestTransfer_20 rfl rfl (k)
theorem s_L_poolOf (hX : h.2 p = some (.inr (9, fs))) (hA : Γ.2.1 ≤ o) (kc : WP Γ MX9_poolOf (7, 116, 1, 6) 0 [some (.ref p), some (.int x1)] [] h (WQ 1 o Q)) : WP Γ ML_poolOf (8, 137, 1, 6) 0 [some (.ref p), some (.int x1), some (.ref o), none] [] h Q := by
  refine wp_aload_n (n := 1) dL_poolOf_0 rfl rfl ?_
  refine wp_iconst (n := 2) (v := 0) dL_poolOf_1 rfl (by decide) ?_
  refine wp_aload_n (n := 3) dL_poolOf_2 rfl rfl ?_
  refine wp_iload_n (n := 4) dL_poolOf_3 rfl rfl ?_
  refine wp_callVH (n := 7) (rm' := (7, 116, 1, 6)) rfl dL_poolOf_4 rfl mlL_65 [.int x1] rfl rfl hX rfl rfl rfl (Nat.le_of_ble_eq_true rfl) rfl ?_
  refine wp_conseq (fun out h' hw => ?_) kc
  rcases out with (_ | v) | E
  · exact False.elim hw
  · cases v with
    | int v =>
      obtain ⟨fo, hfo, k⟩ := hw
      show WP Γ _ _ _ _ _ _ _
      refine wp_i2l (n := 8) dL_poolOf_7 rfl ?_
      refine wp_last (n := 9) 0 dL_poolOf_8 rfl hfo hA rfl (by omega) (by omega) ?_
      refine wp_goto (t := 15) dL_poolOf_9 (by decide) ?_
      refine wp_iconst (n := 16) (v := 0) dL_poolOf_15 rfl (by decide) ?_
      exact wp_ireturn dL_poolOf_16 rfl rfl (k _ (if_pos rfl))
    | _ => exact False.elim hw
  · rcases hw with ⟨z, rfl, k⟩ | ⟨z, rfl, k⟩ | ⟨z, ⟨rfl, k⟩ | ⟨rfl, k⟩⟩
    · exact absurd z (by decide)
    · refine ⟨12, ax_HTb (by decide), fun q => ?_⟩
      refine wp_astore_n (n := 13) dL_poolOf_12 rfl rfl rfl rfl ?_
      refine wp_iconst (n := 14) (v := nI 1) dL_poolOf_13 rfl (by decide) ?_
      exact wp_ireturn dL_poolOf_14 rfl rfl (k)
    · exact absurd z (by decide)
    · exact absurd z (by decide)
theorem s_L_since (hX : h.2 p = some (.inr (9, fs))) (hA : Γ.2.1 ≤ o) (kc : WP Γ MX9_since (7, 116, 1, 6) 0 [some (.ref p), some (.int x1)] [] h (WQ 1 o Q)) : WP Γ ML_since (8, 137, 1, 6) 0 [some (.ref p), some (.int x1), some (.ref o), none] [] h Q := by
  refine wp_aload_n (n := 1) dL_since_0 rfl rfl ?_
  refine wp_iconst (n := 2) (v := 0) dL_since_1 rfl (by decide) ?_
  refine wp_aload_n (n := 3) dL_since_2 rfl rfl ?_
  refine wp_iload_n (n := 4) dL_since_3 rfl rfl ?_
  refine wp_callVH (n := 7) (rm' := (7, 116, 1, 6)) rfl dL_since_4 rfl mlL_68 [.int x1] rfl rfl hX rfl rfl rfl (Nat.le_of_ble_eq_true rfl) rfl ?_
  refine wp_conseq (fun out h' hw => ?_) kc
  rcases out with (_ | v) | E
  · exact False.elim hw
  · cases v with
    | int v =>
      obtain ⟨fo, hfo, k⟩ := hw
      show WP Γ _ _ _ _ _ _ _
      refine wp_i2l (n := 8) dL_since_7 rfl ?_
      refine wp_last (n := 9) 0 dL_since_8 rfl hfo hA rfl (by omega) (by omega) ?_
      refine wp_goto (t := 15) dL_since_9 (by decide) ?_
      refine wp_iconst (n := 16) (v := 0) dL_since_15 rfl (by decide) ?_
      exact wp_ireturn dL_since_16 rfl rfl (k _ (if_pos rfl))
    | _ => exact False.elim hw
  · rcases hw with ⟨z, rfl, k⟩ | ⟨z, rfl, k⟩ | ⟨z, ⟨rfl, k⟩ | ⟨rfl, k⟩⟩
    · exact absurd z (by decide)
    · refine ⟨12, ax_HTb (by decide), fun q => ?_⟩
      refine wp_astore_n (n := 13) dL_since_12 rfl rfl rfl rfl ?_
      refine wp_iconst (n := 14) (v := nI 1) dL_since_13 rfl (by decide) ?_
      exact wp_ireturn dL_since_14 rfl rfl (k)
    · exact absurd z (by decide)
    · exact absurd z (by decide)
theorem s_L_blockAt (hX : h.2 p = some (.inr (9, fs))) (hA : Γ.2.1 ≤ o) (kc : WP Γ MX9_blockAt (7, 116, 1, 6) 0 [some (.ref p), some (.int x1), some (.int x2)] [] h (WQ 1 o Q)) : WP Γ ML_blockAt (8, 138, 1, 6) 0 [some (.ref p), some (.int x1), some (.int x2), some (.ref o), none] [] h Q := by
  refine wp_aload_n (n := 1) dL_blockAt_0 rfl rfl ?_
  refine wp_iconst (n := 2) (v := 0) dL_blockAt_1 rfl (by decide) ?_
  refine wp_aload_n (n := 3) dL_blockAt_2 rfl rfl ?_
  refine wp_iload_n (n := 4) dL_blockAt_3 rfl rfl ?_
  refine wp_iload_n (n := 5) dL_blockAt_4 rfl rfl ?_
  refine wp_callVH (n := 8) (rm' := (7, 116, 1, 6)) rfl dL_blockAt_5 rfl mlL_71 [.int x1, .int x2] rfl rfl hX rfl rfl rfl (Nat.le_of_ble_eq_true rfl) rfl ?_
  refine wp_conseq (fun out h' hw => ?_) kc
  rcases out with (_ | v) | E
  · exact False.elim hw
  · cases v with
    | int v =>
      obtain ⟨fo, hfo, k⟩ := hw
      show WP Γ _ _ _ _ _ _ _
      refine wp_i2l (n := 9) dL_blockAt_8 rfl ?_
      refine wp_last (n := 10) 0 dL_blockAt_9 rfl hfo hA rfl (by omega) (by omega) ?_
      refine wp_goto (t := 17) dL_blockAt_10 (by decide) ?_
      refine wp_iconst (n := 18) (v := 0) dL_blockAt_17 rfl (by decide) ?_
      exact wp_ireturn dL_blockAt_18 rfl rfl (k _ (if_pos rfl))
    | _ => exact False.elim hw
  · rcases hw with ⟨z, rfl, k⟩ | ⟨z, rfl, k⟩ | ⟨z, ⟨rfl, k⟩ | ⟨rfl, k⟩⟩
    · exact absurd z (by decide)
    · refine ⟨13, ax_HTb (by decide), fun q => ?_⟩
      refine wp_astore (n := 15) dL_blockAt_13 rfl rfl rfl rfl ?_
      refine wp_iconst (n := 16) (v := nI 1) dL_blockAt_15 rfl (by decide) ?_
      exact wp_ireturn dL_blockAt_16 rfl rfl (k)
    · exact absurd z (by decide)
    · exact absurd z (by decide)
theorem s_L_wouldPick (hX : h.2 p = some (.inr (9, fs))) (hA : Γ.2.1 ≤ o) (kc : WP Γ MX9_wouldPick (7, 116, 2, 12) 0 [some (.ref p), some (.int x1), some (.int x2), some (.int x3)] [] h (WQ 2 o Q)) : WP Γ ML_wouldPick (8, 139, 2, 12) 0 [some (.ref p), some (.int x1), some (.int x2), some (.int x3), some (.ref o), none] [] h Q := by
  refine wp_aload (n := 2) dL_wouldPick_0 rfl rfl ?_
  refine wp_iconst (n := 3) (v := 0) dL_wouldPick_2 rfl (by decide) ?_
  refine wp_aload_n (n := 4) dL_wouldPick_3 rfl rfl ?_
  refine wp_iload_n (n := 5) dL_wouldPick_4 rfl rfl ?_
  refine wp_iload_n (n := 6) dL_wouldPick_5 rfl rfl ?_
  refine wp_iload_n (n := 7) dL_wouldPick_6 rfl rfl ?_
  refine wp_callVH (n := 10) (rm' := (7, 116, 2, 12)) rfl dL_wouldPick_7 rfl mlL_74 [.int x1, .int x2, .int x3] rfl rfl hX rfl rfl rfl (Nat.le_of_ble_eq_true rfl) rfl ?_
  refine wp_conseq (fun out h' hw => ?_) kc
  rcases out with (_ | v) | E
  · exact False.elim hw
  · cases v with
    | int v =>
      obtain ⟨fo, hfo, k⟩ := hw
      show WP Γ _ _ _ _ _ _ _
      refine wp_i2l (n := 11) dL_wouldPick_10 rfl ?_
      refine wp_last (n := 12) 0 dL_wouldPick_11 rfl hfo hA rfl (by omega) (by omega) ?_
      refine wp_goto (t := 23) dL_wouldPick_12 (by decide) ?_
      refine wp_iconst (n := 24) (v := 0) dL_wouldPick_23 rfl (by decide) ?_
      exact wp_ireturn dL_wouldPick_24 rfl rfl (k _ (if_pos rfl))
    | _ => exact False.elim hw
  · rcases hw with ⟨z, rfl, k⟩ | ⟨z, rfl, k⟩ | ⟨z, ⟨rfl, k⟩ | ⟨rfl, k⟩⟩
    · exact absurd z (by decide)
    · exact absurd z (by decide)
    · refine ⟨15, ax_HTc1 (by decide), fun q => ?_⟩
      refine wp_astore (n := 17) dL_wouldPick_15 rfl rfl rfl rfl ?_
      refine wp_iconst (n := 18) (v := nI 1) dL_wouldPick_17 rfl (by decide) ?_
      exact wp_ireturn dL_wouldPick_18 rfl rfl (k)
    · refine ⟨19, ax_HTc2 (by decide), fun q => ?_⟩
      refine wp_astore (n := 21) dL_wouldPick_19 rfl rfl rfl rfl ?_
      refine wp_iconst (n := 22) (v := nI 2) dL_wouldPick_21 rfl (by decide) ?_
      exact wp_ireturn dL_wouldPick_22 rfl rfl (k)
theorem s_L_runCount (hX : h.2 p = some (.inr (9, fs))) (hA : Γ.2.1 ≤ o) (kc : WP Γ MX9_runCount (7, 116, 1, 6) 0 [some (.ref p), some (.int x1)] [] h (WQ 1 o Q)) : WP Γ ML_runCount (8, 137, 1, 6) 0 [some (.ref p), some (.int x1), some (.ref o), none] [] h Q := by
  refine wp_aload_n (n := 1) dL_runCount_0 rfl rfl ?_
  refine wp_iconst (n := 2) (v := 0) dL_runCount_1 rfl (by decide) ?_
  refine wp_aload_n (n := 3) dL_runCount_2 rfl rfl ?_
  refine wp_iload_n (n := 4) dL_runCount_3 rfl rfl ?_
  refine wp_callVH (n := 7) (rm' := (7, 116, 1, 6)) rfl dL_runCount_4 rfl mlL_77 [.int x1] rfl rfl hX rfl rfl rfl (Nat.le_of_ble_eq_true rfl) rfl ?_
  refine wp_conseq (fun out h' hw => ?_) kc
  rcases out with (_ | v) | E
  · exact False.elim hw
  · cases v with
    | int v =>
      obtain ⟨fo, hfo, k⟩ := hw
      show WP Γ _ _ _ _ _ _ _
      refine wp_i2l (n := 8) dL_runCount_7 rfl ?_
      refine wp_last (n := 9) 0 dL_runCount_8 rfl hfo hA rfl (by omega) (by omega) ?_
      refine wp_goto (t := 15) dL_runCount_9 (by decide) ?_
      refine wp_iconst (n := 16) (v := 0) dL_runCount_15 rfl (by decide) ?_
      exact wp_ireturn dL_runCount_16 rfl rfl (k _ (if_pos rfl))
    | _ => exact False.elim hw
  · rcases hw with ⟨z, rfl, k⟩ | ⟨z, rfl, k⟩ | ⟨z, ⟨rfl, k⟩ | ⟨rfl, k⟩⟩
    · exact absurd z (by decide)
    · refine ⟨12, ax_HTb (by decide), fun q => ?_⟩
      refine wp_astore_n (n := 13) dL_runCount_12 rfl rfl rfl rfl ?_
      refine wp_iconst (n := 14) (v := nI 1) dL_runCount_13 rfl (by decide) ?_
      exact wp_ireturn dL_runCount_14 rfl rfl (k)
    · exact absurd z (by decide)
    · exact absurd z (by decide)
theorem s_L_longestRun (hX : h.2 p = some (.inr (9, fs))) (hA : Γ.2.1 ≤ o) (kc : WP Γ MX9_longestRun (7, 116, 1, 6) 0 [some (.ref p), some (.int x1)] [] h (WQ 1 o Q)) : WP Γ ML_longestRun (8, 137, 1, 6) 0 [some (.ref p), some (.int x1), some (.ref o), none] [] h Q := by
  refine wp_aload_n (n := 1) dL_longestRun_0 rfl rfl ?_
  refine wp_iconst (n := 2) (v := 0) dL_longestRun_1 rfl (by decide) ?_
  refine wp_aload_n (n := 3) dL_longestRun_2 rfl rfl ?_
  refine wp_iload_n (n := 4) dL_longestRun_3 rfl rfl ?_
  refine wp_callVH (n := 7) (rm' := (7, 116, 1, 6)) rfl dL_longestRun_4 rfl mlL_80 [.int x1] rfl rfl hX rfl rfl rfl (Nat.le_of_ble_eq_true rfl) rfl ?_
  refine wp_conseq (fun out h' hw => ?_) kc
  rcases out with (_ | v) | E
  · exact False.elim hw
  · cases v with
    | int v =>
      obtain ⟨fo, hfo, k⟩ := hw
      show WP Γ _ _ _ _ _ _ _
      refine wp_i2l (n := 8) dL_longestRun_7 rfl ?_
      refine wp_last (n := 9) 0 dL_longestRun_8 rfl hfo hA rfl (by omega) (by omega) ?_
      refine wp_goto (t := 15) dL_longestRun_9 (by decide) ?_
      refine wp_iconst (n := 16) (v := 0) dL_longestRun_15 rfl (by decide) ?_
      exact wp_ireturn dL_longestRun_16 rfl rfl (k _ (if_pos rfl))
    | _ => exact False.elim hw
  · rcases hw with ⟨z, rfl, k⟩ | ⟨z, rfl, k⟩ | ⟨z, ⟨rfl, k⟩ | ⟨rfl, k⟩⟩
    · exact absurd z (by decide)
    · refine ⟨12, ax_HTb (by decide), fun q => ?_⟩
      refine wp_astore_n (n := 13) dL_longestRun_12 rfl rfl rfl rfl ?_
      refine wp_iconst (n := 14) (v := nI 1) dL_longestRun_13 rfl (by decide) ?_
      exact wp_ireturn dL_longestRun_14 rfl rfl (k)
    · exact absurd z (by decide)
    · exact absurd z (by decide)
theorem s_L_fragmentation (hX : h.2 p = some (.inr (9, fs))) (hA : Γ.2.1 ≤ o) (kc : WP Γ MX9_fragmentation (7, 116, 1, 6) 0 [some (.ref p), some (.int x1), none] [] h (WQd 1 o Q)) : WP Γ ML_fragmentation (8, 138, 1, 6) 0 [some (.ref p), some (.int x1), some (.ref o), none] [] h Q := by
  refine wp_aload_n (n := 1) dL_fragmentation_0 rfl rfl ?_
  refine wp_iconst (n := 2) (v := 0) dL_fragmentation_1 rfl (by decide) ?_
  refine wp_aload_n (n := 3) dL_fragmentation_2 rfl rfl ?_
  refine wp_iload_n (n := 4) dL_fragmentation_3 rfl rfl ?_
  refine wp_callVH (n := 7) (rm' := (7, 116, 1, 6)) rfl dL_fragmentation_4 rfl mlL_83 [.int x1] rfl rfl hX rfl rfl rfl (Nat.le_of_ble_eq_true rfl) rfl ?_
  refine wp_conseq (fun out h' hw => ?_) kc
  rcases out with (_ | v) | E
  · exact False.elim hw
  · cases v with
    | float v =>
      obtain ⟨hn, fo, hfo, k⟩ := hw
      show WP Γ _ _ _ _ _ _ _
      refine wp_f2d (n := 8) dL_fragmentation_7 rfl (n64_of (nn_f2d hn)) ?_
      refine wp_dast (n := 9) 0 dL_fragmentation_8 rfl hfo hA rfl (by omega) (by omega) ?_
      refine wp_goto (t := 15) dL_fragmentation_9 (by decide) ?_
      refine wp_iconst (n := 16) (v := 0) dL_fragmentation_15 rfl (by decide) ?_
      exact wp_ireturn dL_fragmentation_16 rfl rfl (k _ (if_pos rfl))
    | _ => exact False.elim hw
  · rcases hw with ⟨z, rfl, k⟩ | ⟨z, rfl, k⟩ | ⟨z, ⟨rfl, k⟩ | ⟨rfl, k⟩⟩
    · exact absurd z (by decide)
    · refine ⟨12, ax_HTb (by decide), fun q => ?_⟩
      refine wp_astore_n (n := 13) dL_fragmentation_12 rfl rfl rfl rfl ?_
      refine wp_iconst (n := 14) (v := nI 1) dL_fragmentation_13 rfl (by decide) ?_
      exact wp_ireturn dL_fragmentation_14 rfl rfl (k)
    · exact absurd z (by decide)
    · exact absurd z (by decide)
theorem s_L_swap (hX : h.2 p = some (.inr (9, fs))) (hA : Γ.2.1 ≤ o) (kc : WP Γ MX9_swap (7, 116, 3, 18) 0 [some (.ref p), some (.int x1), some (.int x2)] [] h (WQz 2 o Q)) : WP Γ ML_swap (8, 138, 3, 18) 0 [some (.ref p), some (.int x1), some (.int x2), some (.ref o), none] [] h Q := by
  refine wp_aload_n (n := 1) dL_swap_0 rfl rfl ?_
  refine wp_iconst (n := 2) (v := 0) dL_swap_1 rfl (by decide) ?_
  refine wp_aload_n (n := 3) dL_swap_2 rfl rfl ?_
  refine wp_iload_n (n := 4) dL_swap_3 rfl rfl ?_
  refine wp_iload_n (n := 5) dL_swap_4 rfl rfl ?_
  refine wp_callVH (n := 8) (rm' := (7, 116, 3, 18)) rfl dL_swap_5 rfl mlL_87 [.int x1, .int x2] rfl rfl hX rfl rfl rfl (Nat.le_of_ble_eq_true rfl) rfl ?_
  refine wp_conseq (fun out h' hw => ?_) kc
  rcases out with (_ | v) | E
  · exact False.elim hw
  · cases v with
    | int v =>
      obtain ⟨fo, hfo, k⟩ := hw
      show WP Γ _ _ _ _ _ _ _
      refine wp_if_eq (t := 15) (n := 11) dL_swap_8 (by decide) rfl (fun hc => ?_) (fun hc => ?_)
      · rw [if_pos hc] at k
        refine wp_lconst (n := 16) (v := 0) dL_swap_15 rfl (by decide) ?_
        refine wp_last (n := 17) 0 dL_swap_16 rfl hfo hA rfl (by omega) (by omega) ?_
        refine wp_goto (t := 28) dL_swap_17 (by decide) ?_
        refine wp_iconst (n := 29) (v := 0) dL_swap_28 rfl (by decide) ?_
        exact wp_ireturn dL_swap_29 rfl rfl (k _ (if_pos rfl))
      · rw [if_neg hc] at k
        refine wp_lconst (n := 12) (v := 1) dL_swap_11 rfl (by decide) ?_
        refine wp_goto (t := 16) dL_swap_12 (by decide) ?_
        refine wp_last (n := 17) 0 dL_swap_16 rfl hfo hA rfl (by omega) (by omega) ?_
        refine wp_goto (t := 28) dL_swap_17 (by decide) ?_
        refine wp_iconst (n := 29) (v := 0) dL_swap_28 rfl (by decide) ?_
        exact wp_ireturn dL_swap_29 rfl rfl (k _ (if_pos rfl))
    | _ => exact False.elim hw
  · rcases hw with ⟨z, rfl, k⟩ | ⟨z, rfl, k⟩ | ⟨z, ⟨rfl, k⟩ | ⟨rfl, k⟩⟩
    · exact absurd z (by decide)
    · exact absurd z (by decide)
    · refine ⟨20, ax_HTc1 (by decide), fun q => ?_⟩
      refine wp_astore (n := 22) dL_swap_20 rfl rfl rfl rfl ?_
      refine wp_iconst (n := 23) (v := nI 1) dL_swap_22 rfl (by decide) ?_
      exact wp_ireturn dL_swap_23 rfl rfl (k)
    · refine ⟨24, ax_HTc2 (by decide), fun q => ?_⟩
      refine wp_astore (n := 26) dL_swap_24 rfl rfl rfl rfl ?_
      refine wp_iconst (n := 27) (v := nI 2) dL_swap_26 rfl (by decide) ?_
      exact wp_ireturn dL_swap_27 rfl rfl (k)
theorem s_L_bestSwap (hX : h.2 p = some (.inr (9, fs))) (hA : Γ.2.1 ≤ o) (kc : WP Γ MX9_bestSwap (7, 116, 1, 6) 0 [some (.ref p), some (.int x1)] [] h (WQ 1 o Q)) : WP Γ ML_bestSwap (8, 137, 1, 6) 0 [some (.ref p), some (.int x1), some (.ref o), none] [] h Q := by
  refine wp_aload_n (n := 1) dL_bestSwap_0 rfl rfl ?_
  refine wp_iconst (n := 2) (v := 0) dL_bestSwap_1 rfl (by decide) ?_
  refine wp_aload_n (n := 3) dL_bestSwap_2 rfl rfl ?_
  refine wp_iload_n (n := 4) dL_bestSwap_3 rfl rfl ?_
  refine wp_callVH (n := 7) (rm' := (7, 116, 1, 6)) rfl dL_bestSwap_4 rfl mlL_91 [.int x1] rfl rfl hX rfl rfl rfl (Nat.le_of_ble_eq_true rfl) rfl ?_
  refine wp_conseq (fun out h' hw => ?_) kc
  rcases out with (_ | v) | E
  · exact False.elim hw
  · cases v with
    | int v =>
      obtain ⟨fo, hfo, k⟩ := hw
      show WP Γ _ _ _ _ _ _ _
      refine wp_i2l (n := 8) dL_bestSwap_7 rfl ?_
      refine wp_last (n := 9) 0 dL_bestSwap_8 rfl hfo hA rfl (by omega) (by omega) ?_
      refine wp_goto (t := 15) dL_bestSwap_9 (by decide) ?_
      refine wp_iconst (n := 16) (v := 0) dL_bestSwap_15 rfl (by decide) ?_
      exact wp_ireturn dL_bestSwap_16 rfl rfl (k _ (if_pos rfl))
    | _ => exact False.elim hw
  · rcases hw with ⟨z, rfl, k⟩ | ⟨z, rfl, k⟩ | ⟨z, ⟨rfl, k⟩ | ⟨rfl, k⟩⟩
    · exact absurd z (by decide)
    · refine ⟨12, ax_HTb (by decide), fun q => ?_⟩
      refine wp_astore_n (n := 13) dL_bestSwap_12 rfl rfl rfl rfl ?_
      refine wp_iconst (n := 14) (v := nI 1) dL_bestSwap_13 rfl (by decide) ?_
      exact wp_ireturn dL_bestSwap_14 rfl rfl (k)
    · exact absurd z (by decide)
    · exact absurd z (by decide)
theorem s_L_entryValue (hX : h.2 p = some (.inr (9, fs))) (hA : Γ.2.1 ≤ o) (kc : WP Γ MX9_entryValue (7, 116, 2, 12) 0 [some (.ref p), some (.int x1), some (.int x2)] [] h (WQ 2 o Q)) : WP Γ ML_entryValue (8, 138, 2, 12) 0 [some (.ref p), some (.int x1), some (.int x2), some (.ref o), none] [] h Q := by
  refine wp_aload_n (n := 1) dL_entryValue_0 rfl rfl ?_
  refine wp_iconst (n := 2) (v := 0) dL_entryValue_1 rfl (by decide) ?_
  refine wp_aload_n (n := 3) dL_entryValue_2 rfl rfl ?_
  refine wp_iload_n (n := 4) dL_entryValue_3 rfl rfl ?_
  refine wp_iload_n (n := 5) dL_entryValue_4 rfl rfl ?_
  refine wp_callVH (n := 8) (rm' := (7, 116, 2, 12)) rfl dL_entryValue_5 rfl mlL_94 [.int x1, .int x2] rfl rfl hX rfl rfl rfl (Nat.le_of_ble_eq_true rfl) rfl ?_
  refine wp_conseq (fun out h' hw => ?_) kc
  rcases out with (_ | v) | E
  · exact False.elim hw
  · cases v with
    | int v =>
      obtain ⟨fo, hfo, k⟩ := hw
      show WP Γ _ _ _ _ _ _ _
      refine wp_i2l (n := 9) dL_entryValue_8 rfl ?_
      refine wp_last (n := 10) 0 dL_entryValue_9 rfl hfo hA rfl (by omega) (by omega) ?_
      refine wp_goto (t := 21) dL_entryValue_10 (by decide) ?_
      refine wp_iconst (n := 22) (v := 0) dL_entryValue_21 rfl (by decide) ?_
      exact wp_ireturn dL_entryValue_22 rfl rfl (k _ (if_pos rfl))
    | _ => exact False.elim hw
  · rcases hw with ⟨z, rfl, k⟩ | ⟨z, rfl, k⟩ | ⟨z, ⟨rfl, k⟩ | ⟨rfl, k⟩⟩
    · exact absurd z (by decide)
    · exact absurd z (by decide)
    · refine ⟨13, ax_HTc1 (by decide), fun q => ?_⟩
      refine wp_astore (n := 15) dL_entryValue_13 rfl rfl rfl rfl ?_
      refine wp_iconst (n := 16) (v := nI 1) dL_entryValue_15 rfl (by decide) ?_
      exact wp_ireturn dL_entryValue_16 rfl rfl (k)
    · refine ⟨17, ax_HTc2 (by decide), fun q => ?_⟩
      refine wp_astore (n := 19) dL_entryValue_17 rfl rfl rfl rfl ?_
      refine wp_iconst (n := 20) (v := nI 2) dL_entryValue_19 rfl (by decide) ?_
      exact wp_ireturn dL_entryValue_20 rfl rfl (k)
theorem s_L_entryBlock (hX : h.2 p = some (.inr (9, fs))) (hA : Γ.2.1 ≤ o) (kc : WP Γ MX9_entryBlock (7, 116, 1, 6) 0 [some (.ref p), some (.int x1), some (.int x2)] [] h (WQ 1 o Q)) : WP Γ ML_entryBlock (8, 138, 1, 6) 0 [some (.ref p), some (.int x1), some (.int x2), some (.ref o), none] [] h Q := by
  refine wp_aload_n (n := 1) dL_entryBlock_0 rfl rfl ?_
  refine wp_iconst (n := 2) (v := 0) dL_entryBlock_1 rfl (by decide) ?_
  refine wp_aload_n (n := 3) dL_entryBlock_2 rfl rfl ?_
  refine wp_iload_n (n := 4) dL_entryBlock_3 rfl rfl ?_
  refine wp_iload_n (n := 5) dL_entryBlock_4 rfl rfl ?_
  refine wp_callVH (n := 8) (rm' := (7, 116, 1, 6)) rfl dL_entryBlock_5 rfl mlL_97 [.int x1, .int x2] rfl rfl hX rfl rfl rfl (Nat.le_of_ble_eq_true rfl) rfl ?_
  refine wp_conseq (fun out h' hw => ?_) kc
  rcases out with (_ | v) | E
  · exact False.elim hw
  · cases v with
    | int v =>
      obtain ⟨fo, hfo, k⟩ := hw
      show WP Γ _ _ _ _ _ _ _
      refine wp_i2l (n := 9) dL_entryBlock_8 rfl ?_
      refine wp_last (n := 10) 0 dL_entryBlock_9 rfl hfo hA rfl (by omega) (by omega) ?_
      refine wp_goto (t := 17) dL_entryBlock_10 (by decide) ?_
      refine wp_iconst (n := 18) (v := 0) dL_entryBlock_17 rfl (by decide) ?_
      exact wp_ireturn dL_entryBlock_18 rfl rfl (k _ (if_pos rfl))
    | _ => exact False.elim hw
  · rcases hw with ⟨z, rfl, k⟩ | ⟨z, rfl, k⟩ | ⟨z, ⟨rfl, k⟩ | ⟨rfl, k⟩⟩
    · exact absurd z (by decide)
    · refine ⟨13, ax_HTb (by decide), fun q => ?_⟩
      refine wp_astore (n := 15) dL_entryBlock_13 rfl rfl rfl rfl ?_
      refine wp_iconst (n := 16) (v := nI 1) dL_entryBlock_15 rfl (by decide) ?_
      exact wp_ireturn dL_entryBlock_16 rfl rfl (k)
    · exact absurd z (by decide)
    · exact absurd z (by decide)
theorem s_L_bookedAt (hX : h.2 p = some (.inr (9, fs))) (hA : Γ.2.1 ≤ o) (kc : WP Γ MX9_bookedAt (7, 116, 2, 12) 0 [some (.ref p), some (.int x1), some (.int x2)] [] h (WQ 2 o Q)) : WP Γ ML_bookedAt (8, 138, 2, 12) 0 [some (.ref p), some (.int x1), some (.int x2), some (.ref o), none] [] h Q := by
  refine wp_aload_n (n := 1) dL_bookedAt_0 rfl rfl ?_
  refine wp_iconst (n := 2) (v := 0) dL_bookedAt_1 rfl (by decide) ?_
  refine wp_aload_n (n := 3) dL_bookedAt_2 rfl rfl ?_
  refine wp_iload_n (n := 4) dL_bookedAt_3 rfl rfl ?_
  refine wp_iload_n (n := 5) dL_bookedAt_4 rfl rfl ?_
  refine wp_callVH (n := 8) (rm' := (7, 116, 2, 12)) rfl dL_bookedAt_5 rfl mlL_100 [.int x1, .int x2] rfl rfl hX rfl rfl rfl (Nat.le_of_ble_eq_true rfl) rfl ?_
  refine wp_conseq (fun out h' hw => ?_) kc
  rcases out with (_ | v) | E
  · exact False.elim hw
  · cases v with
    | int v =>
      obtain ⟨fo, hfo, k⟩ := hw
      show WP Γ _ _ _ _ _ _ _
      refine wp_i2l (n := 9) dL_bookedAt_8 rfl ?_
      refine wp_last (n := 10) 0 dL_bookedAt_9 rfl hfo hA rfl (by omega) (by omega) ?_
      refine wp_goto (t := 21) dL_bookedAt_10 (by decide) ?_
      refine wp_iconst (n := 22) (v := 0) dL_bookedAt_21 rfl (by decide) ?_
      exact wp_ireturn dL_bookedAt_22 rfl rfl (k _ (if_pos rfl))
    | _ => exact False.elim hw
  · rcases hw with ⟨z, rfl, k⟩ | ⟨z, rfl, k⟩ | ⟨z, ⟨rfl, k⟩ | ⟨rfl, k⟩⟩
    · exact absurd z (by decide)
    · exact absurd z (by decide)
    · refine ⟨13, ax_HTc1 (by decide), fun q => ?_⟩
      refine wp_astore (n := 15) dL_bookedAt_13 rfl rfl rfl rfl ?_
      refine wp_iconst (n := 16) (v := nI 1) dL_bookedAt_15 rfl (by decide) ?_
      exact wp_ireturn dL_bookedAt_16 rfl rfl (k)
    · refine ⟨17, ax_HTc2 (by decide), fun q => ?_⟩
      refine wp_astore (n := 19) dL_bookedAt_17 rfl rfl rfl rfl ?_
      refine wp_iconst (n := 20) (v := nI 2) dL_bookedAt_19 rfl (by decide) ?_
      exact wp_ireturn dL_bookedAt_20 rfl rfl (k)
theorem s_L_peak (hX : h.2 p = some (.inr (9, fs))) (hA : Γ.2.1 ≤ o) (kc : WP Γ MX9_peak (7, 116, 2, 12) 0 [some (.ref p), some (.int x1), some (.int x2), some (.int x3)] [] h (WQ 2 o Q)) : WP Γ ML_peak (8, 139, 2, 12) 0 [some (.ref p), some (.int x1), some (.int x2), some (.int x3), some (.ref o), none] [] h Q := by
  refine wp_aload (n := 2) dL_peak_0 rfl rfl ?_
  refine wp_iconst (n := 3) (v := 0) dL_peak_2 rfl (by decide) ?_
  refine wp_aload_n (n := 4) dL_peak_3 rfl rfl ?_
  refine wp_iload_n (n := 5) dL_peak_4 rfl rfl ?_
  refine wp_iload_n (n := 6) dL_peak_5 rfl rfl ?_
  refine wp_iload_n (n := 7) dL_peak_6 rfl rfl ?_
  refine wp_callVH (n := 10) (rm' := (7, 116, 2, 12)) rfl dL_peak_7 rfl mlL_103 [.int x1, .int x2, .int x3] rfl rfl hX rfl rfl rfl (Nat.le_of_ble_eq_true rfl) rfl ?_
  refine wp_conseq (fun out h' hw => ?_) kc
  rcases out with (_ | v) | E
  · exact False.elim hw
  · cases v with
    | int v =>
      obtain ⟨fo, hfo, k⟩ := hw
      show WP Γ _ _ _ _ _ _ _
      refine wp_i2l (n := 11) dL_peak_10 rfl ?_
      refine wp_last (n := 12) 0 dL_peak_11 rfl hfo hA rfl (by omega) (by omega) ?_
      refine wp_goto (t := 23) dL_peak_12 (by decide) ?_
      refine wp_iconst (n := 24) (v := 0) dL_peak_23 rfl (by decide) ?_
      exact wp_ireturn dL_peak_24 rfl rfl (k _ (if_pos rfl))
    | _ => exact False.elim hw
  · rcases hw with ⟨z, rfl, k⟩ | ⟨z, rfl, k⟩ | ⟨z, ⟨rfl, k⟩ | ⟨rfl, k⟩⟩
    · exact absurd z (by decide)
    · exact absurd z (by decide)
    · refine ⟨15, ax_HTc1 (by decide), fun q => ?_⟩
      refine wp_astore (n := 17) dL_peak_15 rfl rfl rfl rfl ?_
      refine wp_iconst (n := 18) (v := nI 1) dL_peak_17 rfl (by decide) ?_
      exact wp_ireturn dL_peak_18 rfl rfl (k)
    · refine ⟨19, ax_HTc2 (by decide), fun q => ?_⟩
      refine wp_astore (n := 21) dL_peak_19 rfl rfl rfl rfl ?_
      refine wp_iconst (n := 22) (v := nI 2) dL_peak_21 rfl (by decide) ?_
      exact wp_ireturn dL_peak_22 rfl rfl (k)
theorem s_L_flow (hX : h.2 p = some (.inr (9, fs))) (hA : Γ.2.1 ≤ o) (kc : WP Γ MX9_flow (7, 116, 3, 18) 0 [some (.ref p), some (.int x1), some (.int x2), some (.int x3), some (.int x4)] [] h (WQ 2 o Q)) : WP Γ ML_flow (8, 140, 3, 18) 0 [some (.ref p), some (.int x1), some (.int x2), some (.int x3), some (.int x4), some (.ref o), none] [] h Q := by
  refine wp_aload (n := 2) dL_flow_0 rfl rfl ?_
  refine wp_iconst (n := 3) (v := 0) dL_flow_2 rfl (by decide) ?_
  refine wp_aload_n (n := 4) dL_flow_3 rfl rfl ?_
  refine wp_iload_n (n := 5) dL_flow_4 rfl rfl ?_
  refine wp_iload_n (n := 6) dL_flow_5 rfl rfl ?_
  refine wp_iload_n (n := 7) dL_flow_6 rfl rfl ?_
  refine wp_iload (n := 9) dL_flow_7 rfl rfl ?_
  refine wp_callVH (n := 12) (rm' := (7, 116, 3, 18)) rfl dL_flow_9 rfl mlL_106 [.int x1, .int x2, .int x3, .int x4] rfl rfl hX rfl rfl rfl (Nat.le_of_ble_eq_true rfl) rfl ?_
  refine wp_conseq (fun out h' hw => ?_) kc
  rcases out with (_ | v) | E
  · exact False.elim hw
  · cases v with
    | int v =>
      obtain ⟨fo, hfo, k⟩ := hw
      show WP Γ _ _ _ _ _ _ _
      refine wp_i2l (n := 13) dL_flow_12 rfl ?_
      refine wp_last (n := 14) 0 dL_flow_13 rfl hfo hA rfl (by omega) (by omega) ?_
      refine wp_goto (t := 25) dL_flow_14 (by decide) ?_
      refine wp_iconst (n := 26) (v := 0) dL_flow_25 rfl (by decide) ?_
      exact wp_ireturn dL_flow_26 rfl rfl (k _ (if_pos rfl))
    | _ => exact False.elim hw
  · rcases hw with ⟨z, rfl, k⟩ | ⟨z, rfl, k⟩ | ⟨z, ⟨rfl, k⟩ | ⟨rfl, k⟩⟩
    · exact absurd z (by decide)
    · exact absurd z (by decide)
    · refine ⟨17, ax_HTc1 (by decide), fun q => ?_⟩
      refine wp_astore (n := 19) dL_flow_17 rfl rfl rfl rfl ?_
      refine wp_iconst (n := 20) (v := nI 1) dL_flow_19 rfl (by decide) ?_
      exact wp_ireturn dL_flow_20 rfl rfl (k)
    · refine ⟨21, ax_HTc2 (by decide), fun q => ?_⟩
      refine wp_astore (n := 23) dL_flow_21 rfl rfl rfl rfl ?_
      refine wp_iconst (n := 24) (v := nI 2) dL_flow_23 rfl (by decide) ?_
      exact wp_ireturn dL_flow_24 rfl rfl (k)
theorem s_L_reasonTotal (hX : h.2 p = some (.inr (9, fs))) (hA : Γ.2.1 ≤ o) (kc : WP Γ MX9_reasonTotal (7, 116, 2, 12) 0 [some (.ref p), some (.int x1), some (.int x2), some (.int x3)] [] h (WQ 0 o Q)) : WP Γ ML_reasonTotal (8, 139, 2, 12) 0 [some (.ref p), some (.int x1), some (.int x2), some (.int x3), some (.ref o), none] [] h Q := by
  refine wp_aload (n := 2) dL_reasonTotal_0 rfl rfl ?_
  refine wp_iconst (n := 3) (v := 0) dL_reasonTotal_2 rfl (by decide) ?_
  refine wp_aload_n (n := 4) dL_reasonTotal_3 rfl rfl ?_
  refine wp_iload_n (n := 5) dL_reasonTotal_4 rfl rfl ?_
  refine wp_iload_n (n := 6) dL_reasonTotal_5 rfl rfl ?_
  refine wp_iload_n (n := 7) dL_reasonTotal_6 rfl rfl ?_
  refine wp_callVH (n := 10) (rm' := (7, 116, 2, 12)) rfl dL_reasonTotal_7 rfl mlL_109 [.int x1, .int x2, .int x3] rfl rfl hX rfl rfl rfl (Nat.le_of_ble_eq_true rfl) rfl ?_
  refine wp_conseq (fun out h' hw => ?_) kc
  rcases out with (_ | v) | E
  · exact False.elim hw
  · cases v with
    | int v =>
      obtain ⟨fo, hfo, k⟩ := hw
      show WP Γ _ _ _ _ _ _ _
      refine wp_i2l (n := 11) dL_reasonTotal_10 rfl ?_
      refine wp_last (n := 12) 0 dL_reasonTotal_11 rfl hfo hA rfl (by omega) (by omega) ?_
      refine wp_goto (t := 19) dL_reasonTotal_12 (by decide) ?_
      refine wp_iconst (n := 20) (v := 0) dL_reasonTotal_19 rfl (by decide) ?_
      exact wp_ireturn dL_reasonTotal_20 rfl rfl (k _ (if_pos rfl))
    | _ => exact False.elim hw
  · rcases hw with ⟨z, rfl, k⟩ | ⟨z, rfl, k⟩ | ⟨z, ⟨rfl, k⟩ | ⟨rfl, k⟩⟩
    · refine ⟨15, ax_HTa (by decide), fun q => ?_⟩
      refine wp_astore (n := 17) dL_reasonTotal_15 rfl rfl rfl rfl ?_
      refine wp_iconst (n := 18) (v := nI 1) dL_reasonTotal_17 rfl (by decide) ?_
      exact wp_ireturn dL_reasonTotal_18 rfl rfl (k)
    · exact absurd z (by decide)
    · exact absurd z (by decide)
    · exact absurd z (by decide)
theorem s_L_busiest (hX : h.2 p = some (.inr (9, fs))) (hA : Γ.2.1 ≤ o) (kc : WP Γ MX9_busiest (7, 116, 1, 6) 0 [some (.ref p), some (.int x1), some (.int x2)] [] h (WQ 0 o Q)) : WP Γ ML_busiest (8, 138, 1, 6) 0 [some (.ref p), some (.int x1), some (.int x2), some (.ref o), none] [] h Q := by
  refine wp_aload_n (n := 1) dL_busiest_0 rfl rfl ?_
  refine wp_iconst (n := 2) (v := 0) dL_busiest_1 rfl (by decide) ?_
  refine wp_aload_n (n := 3) dL_busiest_2 rfl rfl ?_
  refine wp_iload_n (n := 4) dL_busiest_3 rfl rfl ?_
  refine wp_iload_n (n := 5) dL_busiest_4 rfl rfl ?_
  refine wp_callVH (n := 8) (rm' := (7, 116, 1, 6)) rfl dL_busiest_5 rfl mlL_112 [.int x1, .int x2] rfl rfl hX rfl rfl rfl (Nat.le_of_ble_eq_true rfl) rfl ?_
  refine wp_conseq (fun out h' hw => ?_) kc
  rcases out with (_ | v) | E
  · exact False.elim hw
  · cases v with
    | int v =>
      obtain ⟨fo, hfo, k⟩ := hw
      show WP Γ _ _ _ _ _ _ _
      refine wp_i2l (n := 9) dL_busiest_8 rfl ?_
      refine wp_last (n := 10) 0 dL_busiest_9 rfl hfo hA rfl (by omega) (by omega) ?_
      refine wp_goto (t := 17) dL_busiest_10 (by decide) ?_
      refine wp_iconst (n := 18) (v := 0) dL_busiest_17 rfl (by decide) ?_
      exact wp_ireturn dL_busiest_18 rfl rfl (k _ (if_pos rfl))
    | _ => exact False.elim hw
  · rcases hw with ⟨z, rfl, k⟩ | ⟨z, rfl, k⟩ | ⟨z, ⟨rfl, k⟩ | ⟨rfl, k⟩⟩
    · refine ⟨13, ax_HTa (by decide), fun q => ?_⟩
      refine wp_astore (n := 15) dL_busiest_13 rfl rfl rfl rfl ?_
      refine wp_iconst (n := 16) (v := nI 1) dL_busiest_15 rfl (by decide) ?_
      exact wp_ireturn dL_busiest_16 rfl rfl (k)
    · exact absurd z (by decide)
    · exact absurd z (by decide)
    · exact absurd z (by decide)
theorem s_L_reservationValue (hX : h.2 p = some (.inr (9, fs))) (hA : Γ.2.1 ≤ o) (kc : WP Γ MX9_reservationValue (7, 116, 2, 12) 0 [some (.ref p), some (.int x1), some (.int x2)] [] h (WQ 2 o Q)) : WP Γ ML_reservationValue (8, 138, 2, 12) 0 [some (.ref p), some (.int x1), some (.int x2), some (.ref o), none] [] h Q := by
  refine wp_aload_n (n := 1) dL_reservationValue_0 rfl rfl ?_
  refine wp_iconst (n := 2) (v := 0) dL_reservationValue_1 rfl (by decide) ?_
  refine wp_aload_n (n := 3) dL_reservationValue_2 rfl rfl ?_
  refine wp_iload_n (n := 4) dL_reservationValue_3 rfl rfl ?_
  refine wp_iload_n (n := 5) dL_reservationValue_4 rfl rfl ?_
  refine wp_callVH (n := 8) (rm' := (7, 116, 2, 12)) rfl dL_reservationValue_5 rfl mlL_115 [.int x1, .int x2] rfl rfl hX rfl rfl rfl (Nat.le_of_ble_eq_true rfl) rfl ?_
  refine wp_conseq (fun out h' hw => ?_) kc
  rcases out with (_ | v) | E
  · exact False.elim hw
  · cases v with
    | int v =>
      obtain ⟨fo, hfo, k⟩ := hw
      show WP Γ _ _ _ _ _ _ _
      refine wp_i2l (n := 9) dL_reservationValue_8 rfl ?_
      refine wp_last (n := 10) 0 dL_reservationValue_9 rfl hfo hA rfl (by omega) (by omega) ?_
      refine wp_goto (t := 21) dL_reservationValue_10 (by decide) ?_
      refine wp_iconst (n := 22) (v := 0) dL_reservationValue_21 rfl (by decide) ?_
      exact wp_ireturn dL_reservationValue_22 rfl rfl (k _ (if_pos rfl))
    | _ => exact False.elim hw
  · rcases hw with ⟨z, rfl, k⟩ | ⟨z, rfl, k⟩ | ⟨z, ⟨rfl, k⟩ | ⟨rfl, k⟩⟩
    · exact absurd z (by decide)
    · exact absurd z (by decide)
    · refine ⟨13, ax_HTc1 (by decide), fun q => ?_⟩
      refine wp_astore (n := 15) dL_reservationValue_13 rfl rfl rfl rfl ?_
      refine wp_iconst (n := 16) (v := nI 1) dL_reservationValue_15 rfl (by decide) ?_
      exact wp_ireturn dL_reservationValue_16 rfl rfl (k)
    · refine ⟨17, ax_HTc2 (by decide), fun q => ?_⟩
      refine wp_astore (n := 19) dL_reservationValue_17 rfl rfl rfl rfl ?_
      refine wp_iconst (n := 20) (v := nI 2) dL_reservationValue_19 rfl (by decide) ?_
      exact wp_ireturn dL_reservationValue_20 rfl rfl (k)
theorem s_L_reservedFrom (hX : h.2 p = some (.inr (9, fs))) (hA : Γ.2.1 ≤ o) (kc : WP Γ MX9_reservedFrom (7, 116, 1, 6) 0 [some (.ref p), some (.int x1)] [] h (WQ 1 o Q)) : WP Γ ML_reservedFrom (8, 137, 1, 6) 0 [some (.ref p), some (.int x1), some (.ref o), none] [] h Q := by
  refine wp_aload_n (n := 1) dL_reservedFrom_0 rfl rfl ?_
  refine wp_iconst (n := 2) (v := 0) dL_reservedFrom_1 rfl (by decide) ?_
  refine wp_aload_n (n := 3) dL_reservedFrom_2 rfl rfl ?_
  refine wp_iload_n (n := 4) dL_reservedFrom_3 rfl rfl ?_
  refine wp_callVH (n := 7) (rm' := (7, 116, 1, 6)) rfl dL_reservedFrom_4 rfl mlL_118 [.int x1] rfl rfl hX rfl rfl rfl (Nat.le_of_ble_eq_true rfl) rfl ?_
  refine wp_conseq (fun out h' hw => ?_) kc
  rcases out with (_ | v) | E
  · exact False.elim hw
  · cases v with
    | int v =>
      obtain ⟨fo, hfo, k⟩ := hw
      show WP Γ _ _ _ _ _ _ _
      refine wp_i2l (n := 8) dL_reservedFrom_7 rfl ?_
      refine wp_last (n := 9) 0 dL_reservedFrom_8 rfl hfo hA rfl (by omega) (by omega) ?_
      refine wp_goto (t := 15) dL_reservedFrom_9 (by decide) ?_
      refine wp_iconst (n := 16) (v := 0) dL_reservedFrom_15 rfl (by decide) ?_
      exact wp_ireturn dL_reservedFrom_16 rfl rfl (k _ (if_pos rfl))
    | _ => exact False.elim hw
  · rcases hw with ⟨z, rfl, k⟩ | ⟨z, rfl, k⟩ | ⟨z, ⟨rfl, k⟩ | ⟨rfl, k⟩⟩
    · exact absurd z (by decide)
    · refine ⟨12, ax_HTb (by decide), fun q => ?_⟩
      refine wp_astore_n (n := 13) dL_reservedFrom_12 rfl rfl rfl rfl ?_
      refine wp_iconst (n := 14) (v := nI 1) dL_reservedFrom_13 rfl (by decide) ?_
      exact wp_ireturn dL_reservedFrom_14 rfl rfl (k)
    · exact absurd z (by decide)
    · exact absurd z (by decide)
theorem s_L_whenAvailable (hX : h.2 p = some (.inr (9, fs))) (hA : Γ.2.1 ≤ o) (kc : WP Γ MX9_whenAvailable (7, 116, 2, 12) 0 [some (.ref p), some (.int x1), some (.int x2)] [] h (WQ 2 o Q)) : WP Γ ML_whenAvailable (8, 138, 2, 12) 0 [some (.ref p), some (.int x1), some (.int x2), some (.ref o), none] [] h Q := by
  refine wp_aload_n (n := 1) dL_whenAvailable_0 rfl rfl ?_
  refine wp_iconst (n := 2) (v := 0) dL_whenAvailable_1 rfl (by decide) ?_
  refine wp_aload_n (n := 3) dL_whenAvailable_2 rfl rfl ?_
  refine wp_iload_n (n := 4) dL_whenAvailable_3 rfl rfl ?_
  refine wp_iload_n (n := 5) dL_whenAvailable_4 rfl rfl ?_
  refine wp_callVH (n := 8) (rm' := (7, 116, 2, 12)) rfl dL_whenAvailable_5 rfl mlL_121 [.int x1, .int x2] rfl rfl hX rfl rfl rfl (Nat.le_of_ble_eq_true rfl) rfl ?_
  refine wp_conseq (fun out h' hw => ?_) kc
  rcases out with (_ | v) | E
  · exact False.elim hw
  · cases v with
    | int v =>
      obtain ⟨fo, hfo, k⟩ := hw
      show WP Γ _ _ _ _ _ _ _
      refine wp_i2l (n := 9) dL_whenAvailable_8 rfl ?_
      refine wp_last (n := 10) 0 dL_whenAvailable_9 rfl hfo hA rfl (by omega) (by omega) ?_
      refine wp_goto (t := 21) dL_whenAvailable_10 (by decide) ?_
      refine wp_iconst (n := 22) (v := 0) dL_whenAvailable_21 rfl (by decide) ?_
      exact wp_ireturn dL_whenAvailable_22 rfl rfl (k _ (if_pos rfl))
    | _ => exact False.elim hw
  · rcases hw with ⟨z, rfl, k⟩ | ⟨z, rfl, k⟩ | ⟨z, ⟨rfl, k⟩ | ⟨rfl, k⟩⟩
    · exact absurd z (by decide)
    · exact absurd z (by decide)
    · refine ⟨13, ax_HTc1 (by decide), fun q => ?_⟩
      refine wp_astore (n := 15) dL_whenAvailable_13 rfl rfl rfl rfl ?_
      refine wp_iconst (n := 16) (v := nI 1) dL_whenAvailable_15 rfl (by decide) ?_
      exact wp_ireturn dL_whenAvailable_16 rfl rfl (k)
    · refine ⟨17, ax_HTc2 (by decide), fun q => ?_⟩
      refine wp_astore (n := 19) dL_whenAvailable_17 rfl rfl rfl rfl ?_
      refine wp_iconst (n := 20) (v := nI 2) dL_whenAvailable_19 rfl (by decide) ?_
      exact wp_ireturn dL_whenAvailable_20 rfl rfl (k)
theorem s_L_rent (hX : h.2 p = some (.inr (9, fs))) (hA : Γ.2.1 ≤ o) (kc : WP Γ MX9_rent (7, 116, 1, 6) 0 [some (.ref p), some (.int x1)] [] h (WQd 1 o Q)) : WP Γ ML_rent (8, 137, 1, 6) 0 [some (.ref p), some (.int x1), some (.ref o), none] [] h Q := by
  refine wp_aload_n (n := 1) dL_rent_0 rfl rfl ?_
  refine wp_iconst (n := 2) (v := 0) dL_rent_1 rfl (by decide) ?_
  refine wp_aload_n (n := 3) dL_rent_2 rfl rfl ?_
  refine wp_iload_n (n := 4) dL_rent_3 rfl rfl ?_
  refine wp_callVH (n := 7) (rm' := (7, 116, 1, 6)) rfl dL_rent_4 rfl mlL_124 [.int x1] rfl rfl hX rfl rfl rfl (Nat.le_of_ble_eq_true rfl) rfl ?_
  refine wp_conseq (fun out h' hw => ?_) kc
  rcases out with (_ | v) | E
  · exact False.elim hw
  · cases v with
    | float v =>
      obtain ⟨hn, fo, hfo, k⟩ := hw
      show WP Γ _ _ _ _ _ _ _
      refine wp_f2d (n := 8) dL_rent_7 rfl (n64_of (nn_f2d hn)) ?_
      refine wp_dast (n := 9) 0 dL_rent_8 rfl hfo hA rfl (by omega) (by omega) ?_
      refine wp_goto (t := 15) dL_rent_9 (by decide) ?_
      refine wp_iconst (n := 16) (v := 0) dL_rent_15 rfl (by decide) ?_
      exact wp_ireturn dL_rent_16 rfl rfl (k _ (if_pos rfl))
    | _ => exact False.elim hw
  · rcases hw with ⟨z, rfl, k⟩ | ⟨z, rfl, k⟩ | ⟨z, ⟨rfl, k⟩ | ⟨rfl, k⟩⟩
    · exact absurd z (by decide)
    · refine ⟨12, ax_HTb (by decide), fun q => ?_⟩
      refine wp_astore_n (n := 13) dL_rent_12 rfl rfl rfl rfl ?_
      refine wp_iconst (n := 14) (v := nI 1) dL_rent_13 rfl (by decide) ?_
      exact wp_ireturn dL_rent_14 rfl rfl (k)
    · exact absurd z (by decide)
    · exact absurd z (by decide)
theorem s_L_rentAhead (hX : h.2 p = some (.inr (9, fs))) (hA : Γ.2.1 ≤ o) (kc : WP Γ MX9_rentAhead (7, 116, 2, 12) 0 [some (.ref p), some (.int x1), some (.int x2)] [] h (WQd 2 o Q)) : WP Γ ML_rentAhead (8, 138, 2, 12) 0 [some (.ref p), some (.int x1), some (.int x2), some (.ref o), none] [] h Q := by
  refine wp_aload_n (n := 1) dL_rentAhead_0 rfl rfl ?_
  refine wp_iconst (n := 2) (v := 0) dL_rentAhead_1 rfl (by decide) ?_
  refine wp_aload_n (n := 3) dL_rentAhead_2 rfl rfl ?_
  refine wp_iload_n (n := 4) dL_rentAhead_3 rfl rfl ?_
  refine wp_iload_n (n := 5) dL_rentAhead_4 rfl rfl ?_
  refine wp_callVH (n := 8) (rm' := (7, 116, 2, 12)) rfl dL_rentAhead_5 rfl mlL_127 [.int x1, .int x2] rfl rfl hX rfl rfl rfl (Nat.le_of_ble_eq_true rfl) rfl ?_
  refine wp_conseq (fun out h' hw => ?_) kc
  rcases out with (_ | v) | E
  · exact False.elim hw
  · cases v with
    | float v =>
      obtain ⟨hn, fo, hfo, k⟩ := hw
      show WP Γ _ _ _ _ _ _ _
      refine wp_f2d (n := 9) dL_rentAhead_8 rfl (n64_of (nn_f2d hn)) ?_
      refine wp_dast (n := 10) 0 dL_rentAhead_9 rfl hfo hA rfl (by omega) (by omega) ?_
      refine wp_goto (t := 21) dL_rentAhead_10 (by decide) ?_
      refine wp_iconst (n := 22) (v := 0) dL_rentAhead_21 rfl (by decide) ?_
      exact wp_ireturn dL_rentAhead_22 rfl rfl (k _ (if_pos rfl))
    | _ => exact False.elim hw
  · rcases hw with ⟨z, rfl, k⟩ | ⟨z, rfl, k⟩ | ⟨z, ⟨rfl, k⟩ | ⟨rfl, k⟩⟩
    · exact absurd z (by decide)
    · exact absurd z (by decide)
    · refine ⟨13, ax_HTc1 (by decide), fun q => ?_⟩
      refine wp_astore (n := 15) dL_rentAhead_13 rfl rfl rfl rfl ?_
      refine wp_iconst (n := 16) (v := nI 1) dL_rentAhead_15 rfl (by decide) ?_
      exact wp_ireturn dL_rentAhead_16 rfl rfl (k)
    · refine ⟨17, ax_HTc2 (by decide), fun q => ?_⟩
      refine wp_astore (n := 19) dL_rentAhead_17 rfl rfl rfl rfl ?_
      refine wp_iconst (n := 20) (v := nI 2) dL_rentAhead_19 rfl (by decide) ?_
      exact wp_ireturn dL_rentAhead_20 rfl rfl (k)
theorem s_L_corrupt (hX : h.2 p = some (.inr (9, fs))) (hA : Γ.2.1 ≤ o) (kc : WP Γ MX9_corrupt (7, 116, 2, 12) 0 [some (.ref p), some (.int x1), some (.int x2), none] [] h (WQ 1 o Q)) : WP Γ ML_corrupt (8, 139, 2, 12) 0 [some (.ref p), some (.int x1), some (.int x2), some (.ref o), none] [] h Q := by
  refine wp_aload_n (n := 1) dL_corrupt_0 rfl rfl ?_
  refine wp_iconst (n := 2) (v := 0) dL_corrupt_1 rfl (by decide) ?_
  refine wp_aload_n (n := 3) dL_corrupt_2 rfl rfl ?_
  refine wp_iload_n (n := 4) dL_corrupt_3 rfl rfl ?_
  refine wp_iload_n (n := 5) dL_corrupt_4 rfl rfl ?_
  refine wp_callVH (n := 8) (rm' := (7, 116, 2, 12)) rfl dL_corrupt_5 rfl mlL_131 [.int x1, .int x2] rfl rfl hX rfl rfl rfl (Nat.le_of_ble_eq_true rfl) rfl ?_
  refine wp_conseq (fun out h' hw => ?_) kc
  rcases out with (_ | v) | E
  · exact False.elim hw
  · cases v with
    | int v =>
      obtain ⟨fo, hfo, k⟩ := hw
      show WP Γ _ _ _ _ _ _ _
      refine wp_i2l (n := 9) dL_corrupt_8 rfl ?_
      refine wp_last (n := 10) 0 dL_corrupt_9 rfl hfo hA rfl (by omega) (by omega) ?_
      refine wp_goto (t := 17) dL_corrupt_10 (by decide) ?_
      refine wp_iconst (n := 18) (v := 0) dL_corrupt_17 rfl (by decide) ?_
      exact wp_ireturn dL_corrupt_18 rfl rfl (k _ (if_pos rfl))
    | _ => exact False.elim hw
  · rcases hw with ⟨z, rfl, k⟩ | ⟨z, rfl, k⟩ | ⟨z, ⟨rfl, k⟩ | ⟨rfl, k⟩⟩
    · exact absurd z (by decide)
    · refine ⟨13, ax_HTb (by decide), fun q => ?_⟩
      refine wp_astore (n := 15) dL_corrupt_13 rfl rfl rfl rfl ?_
      refine wp_iconst (n := 16) (v := nI 1) dL_corrupt_15 rfl (by decide) ?_
      exact wp_ireturn dL_corrupt_16 rfl rfl (k)
    · exact absurd z (by decide)
    · exact absurd z (by decide)
theorem s_L_auditSet (hX : h.2 p = some (.inr (9, fs))) (hA : Γ.2.1 ≤ o) (kc : WP Γ MX9_auditSet (7, 119, 1, 6) 0 [some (.ref p), some (.int x1), some (.int x2)] [] h (WQ 0 o Q)) : WP Γ ML_auditSet (8, 141, 1, 6) 0 [some (.ref p), some (.int x1), some (.int x2), some (.ref o), none] [] h Q := by
  refine wp_aload_n (n := 1) dL_auditSet_0 rfl rfl ?_
  refine wp_iconst (n := 2) (v := 0) dL_auditSet_1 rfl (by decide) ?_
  refine wp_aload_n (n := 3) dL_auditSet_2 rfl rfl ?_
  refine wp_iload_n (n := 4) dL_auditSet_3 rfl rfl ?_
  refine wp_iload_n (n := 5) dL_auditSet_4 rfl rfl ?_
  refine wp_callVH (n := 8) (rm' := (7, 119, 1, 6)) rfl dL_auditSet_5 rfl mlL_134 [.int x1, .int x2] rfl rfl hX rfl rfl rfl (Nat.le_of_ble_eq_true rfl) rfl ?_
  refine wp_conseq (fun out h' hw => ?_) kc
  rcases out with (_ | v) | E
  · exact False.elim hw
  · cases v with
    | int v =>
      obtain ⟨fo, hfo, k⟩ := hw
      show WP Γ _ _ _ _ _ _ _
      refine wp_i2l (n := 9) dL_auditSet_8 rfl ?_
      refine wp_last (n := 10) 0 dL_auditSet_9 rfl hfo hA rfl (by omega) (by omega) ?_
      refine wp_goto (t := 17) dL_auditSet_10 (by decide) ?_
      refine wp_iconst (n := 18) (v := 0) dL_auditSet_17 rfl (by decide) ?_
      exact wp_ireturn dL_auditSet_18 rfl rfl (k _ (if_pos rfl))
    | _ => exact False.elim hw
  · rcases hw with ⟨z, rfl, k⟩ | ⟨z, rfl, k⟩ | ⟨z, ⟨rfl, k⟩ | ⟨rfl, k⟩⟩
    · refine ⟨13, ax_HTa (by decide), fun q => ?_⟩
      refine wp_astore (n := 15) dL_auditSet_13 rfl rfl rfl rfl ?_
      refine wp_iconst (n := 16) (v := nI 1) dL_auditSet_15 rfl (by decide) ?_
      exact wp_ireturn dL_auditSet_16 rfl rfl (k)
    · exact absurd z (by decide)
    · exact absurd z (by decide)
    · exact absurd z (by decide)
theorem s_L_auditOf (hX : h.2 p = some (.inr (9, fs))) (hA : Γ.2.1 ≤ o) (kc : WP Γ MX9_auditOf (7, 117, 2, 12) 0 [some (.ref p), some (.int x1), some (.int x2), some (.int x3)] [] h (WQ 2 o Q)) : WP Γ ML_auditOf (8, 140, 2, 12) 0 [some (.ref p), some (.int x1), some (.int x2), some (.int x3), some (.ref o), none] [] h Q := by
  refine wp_aload (n := 2) dL_auditOf_0 rfl rfl ?_
  refine wp_iconst (n := 3) (v := 0) dL_auditOf_2 rfl (by decide) ?_
  refine wp_aload_n (n := 4) dL_auditOf_3 rfl rfl ?_
  refine wp_iload_n (n := 5) dL_auditOf_4 rfl rfl ?_
  refine wp_iload_n (n := 6) dL_auditOf_5 rfl rfl ?_
  refine wp_iload_n (n := 7) dL_auditOf_6 rfl rfl ?_
  refine wp_callVH (n := 10) (rm' := (7, 117, 2, 12)) rfl dL_auditOf_7 rfl mlL_137 [.int x1, .int x2, .int x3] rfl rfl hX rfl rfl rfl (Nat.le_of_ble_eq_true rfl) rfl ?_
  refine wp_conseq (fun out h' hw => ?_) kc
  rcases out with (_ | v) | E
  · exact False.elim hw
  · cases v with
    | int v =>
      obtain ⟨fo, hfo, k⟩ := hw
      show WP Γ _ _ _ _ _ _ _
      refine wp_i2l (n := 11) dL_auditOf_10 rfl ?_
      refine wp_last (n := 12) 0 dL_auditOf_11 rfl hfo hA rfl (by omega) (by omega) ?_
      refine wp_goto (t := 23) dL_auditOf_12 (by decide) ?_
      refine wp_iconst (n := 24) (v := 0) dL_auditOf_23 rfl (by decide) ?_
      exact wp_ireturn dL_auditOf_24 rfl rfl (k _ (if_pos rfl))
    | _ => exact False.elim hw
  · rcases hw with ⟨z, rfl, k⟩ | ⟨z, rfl, k⟩ | ⟨z, ⟨rfl, k⟩ | ⟨rfl, k⟩⟩
    · exact absurd z (by decide)
    · exact absurd z (by decide)
    · refine ⟨15, ax_HTc1 (by decide), fun q => ?_⟩
      refine wp_astore (n := 17) dL_auditOf_15 rfl rfl rfl rfl ?_
      refine wp_iconst (n := 18) (v := nI 1) dL_auditOf_17 rfl (by decide) ?_
      exact wp_ireturn dL_auditOf_18 rfl rfl (k)
    · refine ⟨19, ax_HTc2 (by decide), fun q => ?_⟩
      refine wp_astore (n := 21) dL_auditOf_19 rfl rfl rfl rfl ?_
      refine wp_iconst (n := 22) (v := nI 2) dL_auditOf_21 rfl (by decide) ?_
      exact wp_ireturn dL_auditOf_22 rfl rfl (k)
theorem s_L_saveSnapshot (hX : h.2 p = some (.inr (9, fs))) (hA : Γ.2.1 ≤ o) (kc : WP Γ MX9_saveSnapshot (7, 115, 20, 4409) 0 [some (.ref p), some (.int x1), none] [] h (WQ 0 o Q)) : WP Γ ML_saveSnapshot (8, 137, 20, 4409) 0 [some (.ref p), some (.int x1), some (.ref o), none] [] h Q := by
  refine wp_aload_n (n := 1) dL_saveSnapshot_0 rfl rfl ?_
  refine wp_iconst (n := 2) (v := 0) dL_saveSnapshot_1 rfl (by decide) ?_
  refine wp_aload_n (n := 3) dL_saveSnapshot_2 rfl rfl ?_
  refine wp_iload_n (n := 4) dL_saveSnapshot_3 rfl rfl ?_
  refine wp_callVH (n := 7) (rm' := (7, 115, 20, 4409)) rfl dL_saveSnapshot_4 rfl mlL_140 [.int x1] rfl rfl hX rfl rfl rfl (Nat.le_of_ble_eq_true rfl) rfl ?_
  refine wp_conseq (fun out h' hw => ?_) kc
  rcases out with (_ | v) | E
  · exact False.elim hw
  · cases v with
    | int v =>
      obtain ⟨fo, hfo, k⟩ := hw
      show WP Γ _ _ _ _ _ _ _
      refine wp_i2l (n := 8) dL_saveSnapshot_7 rfl ?_
      refine wp_last (n := 9) 0 dL_saveSnapshot_8 rfl hfo hA rfl (by omega) (by omega) ?_
      refine wp_goto (t := 15) dL_saveSnapshot_9 (by decide) ?_
      refine wp_iconst (n := 16) (v := 0) dL_saveSnapshot_15 rfl (by decide) ?_
      exact wp_ireturn dL_saveSnapshot_16 rfl rfl (k _ (if_pos rfl))
    | _ => exact False.elim hw
  · rcases hw with ⟨z, rfl, k⟩ | ⟨z, rfl, k⟩ | ⟨z, ⟨rfl, k⟩ | ⟨rfl, k⟩⟩
    · refine ⟨12, ax_HTa (by decide), fun q => ?_⟩
      refine wp_astore_n (n := 13) dL_saveSnapshot_12 rfl rfl rfl rfl ?_
      refine wp_iconst (n := 14) (v := nI 1) dL_saveSnapshot_13 rfl (by decide) ?_
      exact wp_ireturn dL_saveSnapshot_14 rfl rfl (k)
    · exact absurd z (by decide)
    · exact absurd z (by decide)
    · exact absurd z (by decide)
theorem s_L_restoreSnapshot (hX : h.2 p = some (.inr (9, fs))) (hA : Γ.2.1 ≤ o) (kc : WP Γ MX9_restoreSnapshot (7, 115, 1, 6) 0 [some (.ref p), some (.int x1), none] [] h (WQ 0 o Q)) : WP Γ ML_restoreSnapshot (8, 137, 1, 6) 0 [some (.ref p), some (.int x1), some (.ref o), none] [] h Q := by
  refine wp_aload_n (n := 1) dL_restoreSnapshot_0 rfl rfl ?_
  refine wp_iconst (n := 2) (v := 0) dL_restoreSnapshot_1 rfl (by decide) ?_
  refine wp_aload_n (n := 3) dL_restoreSnapshot_2 rfl rfl ?_
  refine wp_iload_n (n := 4) dL_restoreSnapshot_3 rfl rfl ?_
  refine wp_callVH (n := 7) (rm' := (7, 115, 1, 6)) rfl dL_restoreSnapshot_4 rfl mlL_143 [.int x1] rfl rfl hX rfl rfl rfl (Nat.le_of_ble_eq_true rfl) rfl ?_
  refine wp_conseq (fun out h' hw => ?_) kc
  rcases out with (_ | v) | E
  · exact False.elim hw
  · cases v with
    | int v =>
      obtain ⟨fo, hfo, k⟩ := hw
      show WP Γ _ _ _ _ _ _ _
      refine wp_i2l (n := 8) dL_restoreSnapshot_7 rfl ?_
      refine wp_last (n := 9) 0 dL_restoreSnapshot_8 rfl hfo hA rfl (by omega) (by omega) ?_
      refine wp_goto (t := 15) dL_restoreSnapshot_9 (by decide) ?_
      refine wp_iconst (n := 16) (v := 0) dL_restoreSnapshot_15 rfl (by decide) ?_
      exact wp_ireturn dL_restoreSnapshot_16 rfl rfl (k _ (if_pos rfl))
    | _ => exact False.elim hw
  · rcases hw with ⟨z, rfl, k⟩ | ⟨z, rfl, k⟩ | ⟨z, ⟨rfl, k⟩ | ⟨rfl, k⟩⟩
    · refine ⟨12, ax_HTa (by decide), fun q => ?_⟩
      refine wp_astore_n (n := 13) dL_restoreSnapshot_12 rfl rfl rfl rfl ?_
      refine wp_iconst (n := 14) (v := nI 1) dL_restoreSnapshot_13 rfl (by decide) ?_
      exact wp_ireturn dL_restoreSnapshot_14 rfl rfl (k)
    · exact absurd z (by decide)
    · exact absurd z (by decide)
    · exact absurd z (by decide)
end
