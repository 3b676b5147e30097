/-! ===== the law: calls inside a try, calls of wrappers, room ===== -/
set_option maxRecDepth 20000 in
theorem cwL_13 : Cond.classLink "StorageLedgerLaw" 13 IAE ∈ TB := TB_4 54 rfl rfl
set_option maxRecDepth 20000 in
theorem cwL_19 : Cond.classLink "StorageLedgerLaw" 19 IOB ∈ TB := TB_4 132 rfl rfl
/-- the row of the handlers that takes E -/
def ax_HT (E : String) (pc hp : Nat) (hh : List (Nat × Nat × Nat × Nat)) : Prop := ∃ pre x suf, hh = pre ++ x :: suf ∧ x.1 ≤ pc ∧ pc < x.2.1 ∧ x.2.2.1 = hp ∧ ((x.2.2.2 = 13 ∧ E = IAE) ∨ (x.2.2.2 = 19 ∧ E = IOB)) ∧ ∀ z ∈ pre, (z.2.2.2 = 19 ∧ E = IAE) ∨ (z.2.2.2 = 13 ∧ E = IOB)
theorem ax_HTa {e hp pc : Nat} (h : pc < e) : ax_HT IAE pc hp [(0, e, hp, 13)] := ⟨[], _, [], rfl, Nat.zero_le _, h, rfl, Or.inl ⟨rfl, rfl⟩, fun z hz => absurd hz List.not_mem_nil⟩
theorem ax_HTb {e hp pc : Nat} (h : pc < e) : ax_HT IOB pc hp [(0, e, hp, 19)] := ⟨[], _, [], rfl, Nat.zero_le _, h, rfl, Or.inr ⟨rfl, rfl⟩, fun z hz => absurd hz List.not_mem_nil⟩
theorem ax_HTc1 {e hp hq pc : Nat} (h : pc < e) : ax_HT IOB pc hp [(0, e, hp, 19), (0, e, hq, 13)] := ⟨[], _, _, rfl, Nat.zero_le _, h, rfl, Or.inr ⟨rfl, rfl⟩, fun z hz => absurd hz List.not_mem_nil⟩
theorem ax_HTc2 {e hp hq pc : Nat} (h : pc < e) : ax_HT IAE pc hq [(0, e, hp, 19), (0, e, hq, 13)] := ⟨[(0, e, hp, 19)], (0, e, hq, 13), [], rfl, Nat.zero_le _, h, rfl, Or.inl ⟨rfl, rfl⟩, fun z hz => by
  rw [List.mem_singleton] at hz
  subst hz
  exact Or.inl ⟨rfl, rfl⟩⟩
/-- what follows a call inside a try -/
def ax_KH (Γ : GE) (M : MD) (rm : RM) (pc n : Nat) (lo : List (Option Value)) (rest : List Value) (Q : PO) : PO := fun o h' => match o with
  | .inl (some v) => WP Γ M rm n lo (v :: rest) h' Q
  | .inl none => WP Γ M rm n lo rest h' Q
  | .inr E => ∃ hp, ax_HT E pc hp M.2.2.2.2 ∧ ∀ q, WP Γ M rm hp lo [.ref q] h' Q
section
variable {Γ : GE} {M M' : MD} {rm rm' : RM} {pc n t : Nat} {lo lo' : List (Option Value)} {st : List Value} {h : AH} {Q Q' : PO} {As : List Value}
theorem wp_big {rm2 : RM} (q1 : rm.1 ≤ rm2.1) (q2 : rm.2.1 ≤ rm2.2.1) (q3 : rm.2.2.1 ≤ rm2.2.2.1) (q4 : rm.2.2.2 ≤ rm2.2.2.2) (k : WP Γ M rm pc lo st h Q) : WP Γ M rm2 pc lo st h Q := by
  intro p e R s m args below meth c C hf hl H locs cells slots ls mc ms g1 g2 g3 g4 hlo hR hS
  exact k p e R s m args below meth c C (by omega) (by omega) H locs cells slots ls mc ms (by omega) (by omega) (by omega) (by omega) hlo hR hS
theorem ax_afterH {p : Program} {e : Env} {R : Room} {s : State} {m : MethodId} {args : Array Value} {below : List Frame} {meth : Method} {c : Code} {H : Heap} {locs : List Loc} {cells slots mc ms : Nat} {ls : Array Slot} {rest : List Value} {aa : Array Value}
    (hown : M.1.cls = "StorageLedgerLaw") (hn : pc + 3 = n) (C0 : ax_C Γ M p e s m args below meth c) (hf : rm.1 ≤ R.frames) (hl : rm.2.1 ≤ R.locals) (hfit : rm'.2.2.1 ≤ rm.2.2.1 ∧ rm'.2.2.2 ≤ rm.2.2.2)
    (h1 : cells + rm.2.2.1 ≤ R.cells) (h2 : slots + rm.2.2.2 ≤ R.slots) (h3 : cells + rm.2.2.1 ≤ mc) (h4 : slots + rm.2.2.2 ≤ ms) (hlo : lv_has ls M.2.2.1 (ax_lo 0 lo)) (hR : ax_R Γ h s H) (hS : va_S (ax_A Γ) s.heap H locs)
    (hr : vx_Run p Γ.1 e R s m args below meth c H locs cells slots rm'.2.2.1 rm'.2.2.2 (F0 m pc ls st) rest (ax_Qc Γ (ax_KH Γ M (rm.1, rm.2.1, rm.2.2.1 - rm'.2.2.1, rm.2.2.2 - rm'.2.2.2) pc n lo rest Q) aa) (ax_XC Γ (ax_KH Γ M (rm.1, rm.2.1, rm.2.2.1 - rm'.2.2.1, rm.2.2.2 - rm'.2.2.2) pc n lo rest Q)) (ax_A Γ)) :
    W p Γ.1 e R s m args below meth c H locs cells slots (vx_MQ below (ax_Qc Γ Q) (ax_XC Γ Q) args s mc ms (ax_A Γ)) (F0 m pc ls st) := by
  subst hn
  intro T hT X
  rcases hr T hT X with ⟨v, st₀, t, T', L, h0, X', hL, e1, e2, ⟨v', h', hv, hk, hR', hz⟩, stp⟩ | ⟨q, st₀, t, T', L, E, ce, h0, X', hL, e1, e2, ⟨h', hk, hR', hz⟩, hce, hcv, hcl, stp⟩
  · cases hv
    rw [h0, ← e1] at hz
    have hR1 : ax_R Γ h' s T'.heap := by
      rw [e1]
      exact hR'.moved (by rw [← e2]; exact X'.warmed.alike.symm)
    have hS1 := ax_S_call (st0 := st₀) (L := L) hS hR hR1 hz hL
    cases v with
    | none =>
      obtain ⟨t2, a1, b1⟩ := hk p e R s m args below meth c C0 hf hl T'.heap (locs ++ L) (cells + rm'.2.2.1) (slots + rm'.2.2.2) ls mc ms (by dsimp only; omega) (by dsimp only; omega) (by dsimp only; omega) (by dsimp only; omega) hlo hR1 hS1 T' rfl X'
      exact ⟨t2, stp t2 a1, b1⟩
    | some w =>
      obtain ⟨t2, a1, b1⟩ := hk p e R s m args below meth c C0 hf hl T'.heap (locs ++ L) (cells + rm'.2.2.1) (slots + rm'.2.2.2) ls mc ms (by dsimp only; omega) (by dsimp only; omega) (by dsimp only; omega) (by dsimp only; omega) hlo hR1 hS1 T' rfl X'
      exact ⟨t2, stp t2 a1, b1⟩
  · rw [h0, ← e1] at hz
    have hR1 : ax_R Γ h' s T'.heap := by
      rw [e1]
      exact hR'.moved (by rw [← e2]; exact X'.warmed.alike.symm)
    have hS1 := ax_S_call (st0 := st₀) (L := L) hS hR hR1 hz hL
    obtain ⟨hp, ⟨pre, x, suf, x1, x2, x3, x4, x5, x6⟩, hk⟩ := hk
    have hG := C0.2.2.2.2.2.2.2.2.2
    have ht := C0.2.2.2.2.1
    have ho := C0.2.2.2.1
    rw [hown] at ho
    have hsplit : c.exceptionTable.toList = tableOf pre ++ (⟨x.1, x.2.1, x.2.2.1, x.2.2.2⟩ : ExceptionTableEntry) :: tableOf suf := by
      rw [C0.2.2.2.2.2.2.2.2.1.1, x1]
      simp [tableOf]
    have nI1 : ∀ w ∈ ax_nests, w.onTables = true → w.before args s = true := fun w hw ho => va_Nw.use ho (hG.2.2.1 w hw)
    have c1 : (Cond.castable IAE IAE).before args s = true := nI1 _ (List.mem_of_getElem? (i := 8) rfl) rfl
    have c2 : (Cond.castable IOB IOB).before args s = true := nI1 _ (List.mem_of_getElem? (i := 9) rfl) rfl
    have n1 : va_Nc IOB IAE s := hG.2.2.2.1 _ (List.mem_of_getElem? (i := 0) rfl)
    have n2 : va_Nc IAE IOB s := hG.2.2.2.1 _ (List.mem_of_getElem? (i := 1) rfl)
    have hcov : covers (⟨x.1, x.2.1, x.2.2.1, x.2.2.2⟩ : ExceptionTableEntry) pc = true := by
      simp [covers, x2, x3]
    have hpass : ∀ z ∈ tableOf pre, covers z pc = false ∨ (z.catchType ≠ 0 ∧ ∃ nm : String, (Cond.classLink "StorageLedgerLaw" z.catchType nm).before args s = true ∧ va_Nc E nm s) := by
      intro z hz
      obtain ⟨w, hw, rfl⟩ := List.mem_map.mp hz
      right
      rcases x6 w hw with ⟨y1, y2⟩ | ⟨y1, y2⟩
      · exact ⟨by show w.2.2.2 ≠ 0; rw [y1]; decide, IOB, by show (Cond.classLink "StorageLedgerLaw" w.2.2.2 IOB).before args s = true; rw [y1]; exact ht _ cwL_19, by rw [y2]; exact n2⟩
      · exact ⟨by show w.2.2.2 ≠ 0; rw [y1]; decide, IAE, by show (Cond.classLink "StorageLedgerLaw" w.2.2.2 IAE).before args s = true; rw [y1]; exact ht _ cwL_13, by rw [y2]; exact n1⟩
    have hlk : (Cond.classLink "StorageLedgerLaw" x.2.2.2 E).before args s = true ∧ (Cond.castable E E).before args s = true ∧ x.2.2.2 ≠ 0 := by
      rcases x5 with ⟨y1, y2⟩ | ⟨y1, y2⟩
      · rw [y1, y2]; exact ⟨ht _ cwL_13, c1, by decide⟩
      · rw [y1, y2]; exact ⟨ht _ cwL_19, c2, by decide⟩
    have kW := hk q p e R s m args below meth c C0 hf hl T'.heap (locs ++ L) (cells + rm'.2.2.1) (slots + rm'.2.2.2) ls mc ms (by dsimp only; omega) (by dsimp only; omega) (by dsimp only; omega) (by dsimp only; omega) hlo hR1 hS1
    rw [← x4] at kW
    have V := vx_catch (p := p) (l := Γ.1) (e := e) (R := R) (s := s) (m := m) (args := args) (below := below) (meth := meth) (c := c) (H := T'.heap) (locs := locs ++ L) (cells := cells + rm'.2.2.1) (slots := slots + rm'.2.2.2) (ls := ls) (rest := rest) (pc := pc) (own := "StorageLedgerLaw") (name := E) (E := E) (ce := ce) (q := q) ho (tableOf pre) ⟨x.1, x.2.1, x.2.2.1, x.2.2.2⟩ (tableOf suf) hsplit hpass hcov hlk.2.2 hlk.1 hlk.2.1 (by rw [e1]; exact hce) hcv hcl kW
    obtain ⟨t2, a1, b1⟩ := V T' rfl X'
    exact ⟨t2, stp.trans a1, b1⟩
theorem wp_callVH {idx k b ci : Nat} {fs rest : List Value} (hown : M.1.cls = "StorageLedgerLaw") (hd : decode M.2.1 pc = .ok (.invokevirtual idx, 3)) (hn : pc + 3 = n) (hL : ax_CV M.1.cls idx M' k) (As : List Value) (hst : st = As.reverse ++ .ref b :: rest) (hk : As.length = k) (hb : h.2 b = some (.inr (ci, fs))) (hci : (vwCl[ci]?).map (·.1) = some M'.1.cls) (hc : As.all (fun v => v.category == 1) = true) (hml : Nat.ble (k + 1) M'.2.2.1 = true) (hrs : (rest.map fun v => v.category).sum ≤ 8) (hfit : ax_fit rm rm' M'.2.2.1 = true)
    (kk : WP Γ M' rm' 0 (ax_en (.ref b :: As) M'.2.2.1) [] h (ax_KH Γ M (rm.1, rm.2.1, rm.2.2.1 - rm'.2.2.1, rm.2.2.2 - rm'.2.2.2) pc n lo rest Q)) : WP Γ M rm pc lo st h Q := by
  obtain ⟨f1, f2, f3, f4⟩ := ax_fit_of hfit
  intro p e R s m args below meth c C0 hf hl H locs cells slots ls mc ms h1 h2 h3 h4 hlo hR hS
  have ht := C0.2.2.2.2.1
  have hc' : ∀ v ∈ (.ref b :: As : List Value), v.category = 1 := by
    intro v hv
    rcases List.mem_cons.mp hv with rfl | hv
    · rfl
    · exact beq_iff_eq.mp (List.all_eq_true.mp hc v hv)
  have hM := ax_met hL.1.2.2.2.2.2.2 hL.1.2.2.2.2.2.1 hc' (by simp only [List.length_cons]; rw [hk]; exact Nat.le_of_ble_eq_true hml) kk
  refine ax_afterH (rm := rm) (rm' := rm') hown hn C0 hf hl ⟨f3, f4⟩ h1 h2 h3 h4 hlo hR hS (vx_runV (nL := M.2.2.1) (Ts := TB) (own := M.1.cls) (C := M'.1.cls) (index := idx) (bytes := M'.2.1) (maxL := M'.2.2.1) (ret := M'.2.2.2.1) (n := k) (As := As) (rest := rest) (b := b) ⟨C0.1, C0.2.1, C0.2.2.1, C0.2.2.2.1, ht⟩ hM ⟨hL.1.callB ht (by omega) (by omega), ht _ hL.2.1, ht _ hL.2.2⟩ ⟨ax_Pc_blind _ _ _, ?_, fun U hU hW => ⟨rfl, ax_G.warm hW C0.2.2.2.2.2.2.2.2.2, by rw [hU]; exact hR.moved hW.alike⟩⟩ rfl hk hlo.1 hst (lv_room hrs) hd ⟨by omega, by omega⟩)
  obtain ⟨r, g1, g2, cell, q1, q2, q3, q4⟩ := hR.2.2.2 b _ hb
  refine ⟨cell, q1, by rw [q3]; rfl, ?_⟩
  have hKn := (C0.2.2.2.2.2.2.2.2.2).1.1 ci r g1
  rw [g1] at hci
  rw [← Option.some.inj hci, q2]
  exact hKn.2.1
/-- the words of a call of a method with handlers -/
def ax_CH (own : String) (idx : Nat) (M' : MD) (k : Nat) : Prop := Cond.methodLink own idx M'.1 ∈ TB ∧ Cond.initialized M'.1.cls ∈ TB ∧ Cond.codeWith M'.1 M'.2.1 M'.2.2.1 M'.2.2.2.1 M'.2.2.2.2 ∈ TB ∧ (M'.1.cls ≠ "java/lang/invoke/MethodHandle" ∧ M'.1.cls ≠ "java/lang/invoke/VarHandle") ∧ (parseMethodDescriptor M'.1.desc).map (fun d => d.parameters.length) = some k ∧ plainName M'.1.cls = true ∧ Cond.static M'.1 ∈ TB
theorem fit_sym {F LL C S c0 s0 maxL : Nat} (hfit : ax_fit (F, LL, C, S) rm' maxL = true) : (rm'.1 + 1 ≤ F ∧ 8 + (maxL + 11) + rm'.2.1 ≤ LL ∧ rm'.2.2.1 ≤ C ∧ rm'.2.2.2 ≤ S) ∧ ax_fit (F, LL, c0 + C, s0 + S) rm' maxL = true := by
  have f := ax_fit_of hfit
  refine ⟨f, ?_⟩
  simp only [ax_fit, Bool.and_eq_true]
  exact ⟨⟨⟨Nat.ble_eq_true_of_le f.1, Nat.ble_eq_true_of_le f.2.1⟩, Nat.ble_eq_true_of_le (Nat.le_trans f.2.2.1 (Nat.le_add_left _ _))⟩, Nat.ble_eq_true_of_le (Nat.le_trans f.2.2.2 (Nat.le_add_left _ _))⟩
theorem wp_callSH {F LL C S c0 s0 : Nat} {idx k : Nat} {rest : List Value} (hT0 : M.2.2.2.2 = []) (hd : decode M.2.1 pc = .ok (.invokestatic idx, 3)) (hn : pc + 3 = n) (hL : ax_CH M.1.cls idx M' k) (As : List Value) (hst : st = As.reverse ++ rest) (hk : As.length = k) (hc : As.all (fun v => v.category == 1) = true) (hml : Nat.ble k M'.2.2.1 = true) (hrs : (rest.map fun v => v.category).sum ≤ 8) (hfit : ax_fit (F, LL, C, S) rm' M'.2.2.1 = true)
    (kk : WP Γ M' rm' 0 (ax_en As M'.2.2.1) [] h (ax_K Γ M (F, LL, c0 + (C - rm'.2.2.1), s0 + (S - rm'.2.2.2)) n lo rest Q)) : WP Γ M (F, LL, c0 + C, s0 + S) pc lo st h Q := by
  obtain ⟨⟨f1, f2, f3, f4⟩, hfit2⟩ := fit_sym (c0 := c0) (s0 := s0) hfit
  rw [← Nat.add_sub_assoc f3, ← Nat.add_sub_assoc f4] at kk
  intro p e R s m args below meth c C0 hf hl H locs cells slots ls mc ms h1 h2 h3 h4 hlo hR hS
  have ht := C0.2.2.2.2.1
  have hc' : ∀ v ∈ As, v.category = 1 := fun v hv => beq_iff_eq.mp (List.all_eq_true.mp hc v hv)
  obtain ⟨q1, q2, q3, q4, q5, q6, q7⟩ := hL
  have hM := ax_metH q6 hc' (by rw [hk]; exact Nat.le_of_ble_eq_true hml) kk
  have hf' : F ≤ R.frames := hf
  have hl' : LL ≤ R.locals := hl
  have h1' : cells + (c0 + C) ≤ R.cells := h1
  have h2' : slots + (s0 + S) ≤ R.slots := h2
  refine ax_after (rm := (F, LL, c0 + C, s0 + S)) (rm' := rm') hT0 hn C0 hf hl ⟨by show rm'.2.2.1 ≤ c0 + C; omega, by show rm'.2.2.2 ≤ s0 + S; omega⟩ h1 h2 h3 h4 hlo hR hS (vx_runSX (nL := M.2.2.1) (Ts := TB) (own := M.1.cls) (index := idx) (bytes := M'.2.1) (maxL := M'.2.2.1) (ret := M'.2.2.2.1) (hh := M'.2.2.2.2) (n := k) (As := As) (rest := rest) ⟨C0.1, C0.2.1, C0.2.2.1, C0.2.2.2.1, ht⟩ hM ⟨⟨rfl, rfl, by show rm'.1 + 1 ≤ R.frames; omega, by show 8 + (M'.2.2.1 + 11) + rm'.2.1 ≤ R.locals; omega, fun w hw a' U hW => ?_, List.mem_cons_self⟩, ht _ q3, ht _ q2, q4, fun sig hs => ?_, ht _ q1, ht _ q7⟩ ⟨ax_Pc_blind _ _ _, fun U hU hW => ⟨rfl, ax_G.warm hW C0.2.2.2.2.2.2.2.2.2, by rw [hU]; exact hR.moved hW.alike⟩⟩ rfl hk hlo.1 hst (lv_room hrs) hd ⟨by omega, by omega⟩)
  · rcases List.mem_cons.mp hw with rfl | hw
    · exact word_at hW (TB_good q3) (ht _ q3)
    · exact word_at hW (TB_good hw) (ht _ hw)
  · rw [hs] at q5
    exact (Option.some.inj q5).symm
theorem wp_callVs {F LL C S c0 s0 : Nat} {idx k b ci : Nat} {fs rest : List Value} (hT0 : M.2.2.2.2 = []) (hd : decode M.2.1 pc = .ok (.invokevirtual idx, 3)) (hn : pc + 3 = n) (hL : ax_CV M.1.cls idx M' k) (As : List Value) (hst : st = As.reverse ++ .ref b :: rest) (hk : As.length = k) (hb : h.2 b = some (.inr (ci, fs))) (hci : (vwCl[ci]?).map (·.1) = some M'.1.cls) (hc : As.all (fun v => v.category == 1) = true) (hml : Nat.ble (k + 1) M'.2.2.1 = true) (hrs : (rest.map fun v => v.category).sum ≤ 8) (hfit : ax_fit (F, LL, C, S) rm' M'.2.2.1 = true)
    (kk : WP Γ M' rm' 0 (ax_en (.ref b :: As) M'.2.2.1) [] h (ax_K Γ M (F, LL, c0 + (C - rm'.2.2.1), s0 + (S - rm'.2.2.2)) n lo rest Q)) : WP Γ M (F, LL, c0 + C, s0 + S) pc lo st h Q := by
  obtain ⟨⟨f1, f2, f3, f4⟩, hfit2⟩ := fit_sym (c0 := c0) (s0 := s0) hfit
  rw [← Nat.add_sub_assoc f3, ← Nat.add_sub_assoc f4] at kk
  exact wp_callV hT0 hd hn hL As hst hk hb hci hc hml hrs hfit2 kk
end
