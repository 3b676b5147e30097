/-! ===== a program logic over the kit: WP ===== -/
def ax_A (Γ : GE) : Nat → Prop := fun q => Γ.2.1 ≤ q
def ax_el (x : vp_A) (j : Nat) : Value := match x.2 with
  | .inl f => .int (f j)
  | .inr (.inl f) => .long (f j)
  | .inr (.inr (.inl f)) => .float (f j)
  | .inr (.inr (.inr (.inl f))) => .double (f j)
  | .inr (.inr (.inr (.inr f))) => va_rf (f j)
def ax_arr (Γ : GE) (U : State) (H : Heap) (a : Nat) (ty : FieldType) (x : vp_A) : Prop :=
  ∃ cell : Cell, H[a]? = some cell ∧ U.isArrayOf cell ty ∧ cell.vm ≠ .unknown ∧ (Γ.2.1 ≤ a → cell.vm = .none) ∧ cell.slots.size = x.1 ∧ (∀ j : Nat, j < x.1 → cell.slots[j]? = some (ax_el x j)) ∧ (∀ C : String, ty = .object C → va_RA U cell.cls ty)
def ax_obj (Γ : GE) (H : Heap) (a : Nat) (ci : Nat) (fs : List Value) : Prop :=
  ∃ r : vw_C, vwCl[ci]? = some r ∧ fs.length = r.2.2 ∧ t_OB a (Γ.2.2.2.1.1 ci) r.2.2 (Γ.2.2.2.1.2 ci) H (vp_V fs)
def ax_at (Γ : GE) (U : State) (H : Heap) (a : Nat) (e : AE) : Prop := match e with
  | .inl q => ax_arr Γ U H a q.1 q.2
  | .inr o => ax_obj Γ H a o.1 o.2
/-- the heap H holds what h says -/
def ax_R (Γ : GE) (h : AH) (U : State) (H : Heap) : Prop :=
  h.1 = H.size ∧ Γ.2.1 ≤ H.size ∧ (∀ q : Nat, q < Γ.2.1 → H[q]? = Γ.2.2.1[q]?) ∧ ∀ (a : Nat) (e : AE), h.2 a = some e → ax_at Γ U H a e
/-- the String constants: class, pool index, text, bytes -/
def ax_str (Γ : GE) (U : State) (i : Nat) (own : String) (idx : Nat) (tx : String) (by_ : List Int32) : Prop :=
  vk_R own idx tx (Γ.2.2.2.2.1 i) U ∧ va_O "java/lang/String" (Γ.2.2.2.2.1 i) (ax_A Γ) U Γ.2.2.1 ∧ va_OF "java/lang/String" "coder" "B" (.int 0) (Γ.2.2.2.2.1 i) (ax_A Γ) U Γ.2.2.1 ∧ va_OF "java/lang/String" "value" "[B" (.ref (Γ.2.2.2.2.2 i)) (Γ.2.2.2.2.1 i) (ax_A Γ) U Γ.2.2.1 ∧ va_T .byte (Γ.2.2.2.2.2 i) by_.length (fun j => .int (by_.getD j 0)) (ax_A Γ) U Γ.2.2.1
/-- what holds of the tables and of the cells that were there before, throughout -/
def ax_G (Γ : GE) (U : State) : Prop :=
  va_K Γ.2.2.2.1 vwCl [] U ∧
  (∀ (i : Nat) (q : String × Nat × String × List Int32), ax_strs[i]? = some q → ax_str Γ U i q.1 q.2.1 q.2.2.1 q.2.2.2) ∧
  (∀ w ∈ ax_nests, va_Nw w U) ∧ (∀ q ∈ ax_ncs, va_Nc q.1 q.2 U) ∧
  vx_Zq Bundle.tN "UNASSIGNED_STACK" Bundle.steD (ax_A Γ) U Γ.2.2.1 ∧ vx_Zq Bundle.tN "SUPPRESSED_SENTINEL" Bundle.listD (ax_A Γ) U Γ.2.2.1 ∧
  va_Z "StorageLedger" "FREE_NAME" "[I" (.ref (Γ.2.2.2.2.2 1000)) (ax_A Γ) U Γ.2.2.1 ∧
  va_Z "java/lang/String" "COMPACT_STRINGS" "Z" (.int 1) (ax_A Γ) U Γ.2.2.1 ∧
  va_Zq "jdk/internal/util/Preconditions" "SIOOBE_FORMATTER" "Ljava/util/function/BiFunction;" (ax_A Γ) U Γ.2.2.1 ∧
  va_AO "StorageLedger$Ledger" U ∧ Γ.1.stackTraces = false
/-! locals by place -/
def ax_lo : Nat → List (Option Value) → List (Nat × Value)
  | _, [] => []
  | k, none :: r => ax_lo (k + 1) r
  | k, some v :: r => (k, v) :: ax_lo (k + 1) r
def ax_gl : List (Option Value) → Nat → Option Value
  | [], _ => none
  | a :: _, 0 => a
  | _ :: r, n + 1 => ax_gl r n
/-- place k gets v -/
def ax_sl : List (Option Value) → Nat → Value → Option (List (Option Value))
  | [], _, _ => none
  | _ :: r, 0, v => some (some v :: r)
  | a :: r, n + 1, v => match ax_sl r n v with
    | some r' => some (a :: r')
    | none => none
/-- the place ahead of k holds no value of two slots -/
def ax_pv : List (Option Value) → Nat → Bool
  | _, 0 => true
  | l, n + 1 => match ax_gl l n with
    | some v => v.category == 1
    | none => true
/-- places k, k + 1 get a value of two slots -/
def ax_sl2 : List (Option Value) → Nat → Value → Option (List (Option Value))
  | _ :: _ :: r, 0, v => some (some v :: none :: r)
  | a :: r, n + 1, v => match ax_sl2 r n v with
    | some r' => some (a :: r')
    | none => none
  | _, _, _ => none
def ax_sv : List Value → Nat → Value → Option (List Value)
  | [], _, _ => none
  | _ :: r, 0, v => some (v :: r)
  | a :: r, n + 1, v => match ax_sv r n v with
    | some r' => some (a :: r')
    | none => none
theorem ax_lo_mem : ∀ (l : List (Option Value)) (k : Nat) (q : Nat × Value), q ∈ ax_lo k l ↔ k ≤ q.1 ∧ ax_gl l (q.1 - k) = some q.2
  | [], k, q => by simp [ax_lo, ax_gl]
  | none :: r, k, q => by
    simp only [ax_lo, ax_lo_mem r (k + 1) q]
    constructor
    · rintro ⟨h1, h2⟩
      refine ⟨by omega, ?_⟩
      rw [show q.1 - k = (q.1 - (k + 1)) + 1 by omega]
      exact h2
    · rintro ⟨h1, h2⟩
      have h3 : q.1 ≠ k := by
        intro e
        rw [e, Nat.sub_self] at h2
        simp [ax_gl] at h2
      refine ⟨by omega, ?_⟩
      rw [show q.1 - k = (q.1 - (k + 1)) + 1 by omega] at h2
      exact h2
  | some v :: r, k, q => by
    simp only [ax_lo, List.mem_cons, ax_lo_mem r (k + 1) q]
    constructor
    · rintro (rfl | ⟨h1, h2⟩)
      · simp [ax_gl]
      · refine ⟨by omega, ?_⟩
        rw [show q.1 - k = (q.1 - (k + 1)) + 1 by omega]
        exact h2
    · rintro ⟨h1, h2⟩
      by_cases h3 : q.1 = k
      · left
        rw [h3, Nat.sub_self] at h2
        simp only [ax_gl, Option.some.injEq] at h2
        obtain ⟨a, b⟩ := q
        simp_all
      · right
        refine ⟨by omega, ?_⟩
        rw [show q.1 - k = (q.1 - (k + 1)) + 1 by omega] at h2
        exact h2
theorem ax_sl_get : ∀ (l l' : List (Option Value)) (k : Nat) (v : Value), ax_sl l k v = some l' → l'.length = l.length ∧ k < l.length ∧ ∀ j, ax_gl l' j = if j = k then some v else ax_gl l j
  | [], l', k, v, h => by simp [ax_sl] at h
  | a :: r, l', 0, v, h => by
    simp only [ax_sl, Option.some.injEq] at h
    subst h
    refine ⟨by simp, by simp, fun j => ?_⟩
    cases j <;> simp [ax_gl]
  | a :: r, l', n + 1, v, h => by
    simp only [ax_sl] at h
    cases hr : ax_sl r n v with
    | none => simp [hr] at h
    | some r' =>
      simp only [hr, Option.some.injEq] at h
      subst h
      obtain ⟨h1, h2, h3⟩ := ax_sl_get r r' n v hr
      refine ⟨by simp [h1], by simp; omega, fun j => ?_⟩
      cases j with
      | zero => simp [ax_gl]
      | succ j => simp [ax_gl, h3 j]
theorem ax_sl2_get : ∀ (l l' : List (Option Value)) (k : Nat) (v : Value), ax_sl2 l k v = some l' → l'.length = l.length ∧ k + 1 < l.length ∧ ∀ j, ax_gl l' j = if j = k then some v else if j = k + 1 then none else ax_gl l j
  | [], l', k, v, h => by simp [ax_sl2] at h
  | [a], l', 0, v, h => by simp [ax_sl2] at h
  | a :: b :: r, l', 0, v, h => by
    simp only [ax_sl2, Option.some.injEq] at h
    subst h
    refine ⟨by simp, by simp, fun j => ?_⟩
    rcases j with _ | _ | j <;> simp [ax_gl]
  | a :: r, l', n + 1, v, h => by
    simp only [ax_sl2] at h
    cases hr : ax_sl2 r n v with
    | none => simp [hr] at h
    | some r' =>
      simp only [hr, Option.some.injEq] at h
      subst h
      obtain ⟨h1, h2, h3⟩ := ax_sl2_get r r' n v hr
      refine ⟨by simp [h1], by simp; omega, fun j => ?_⟩
      cases j with
      | zero => simp [ax_gl]
      | succ j => simp [ax_gl, h3 j]
theorem ax_sv_set : ∀ (l l' : List Value) (k : Nat) (v : Value), ax_sv l k v = some l' → l' = l.set k v ∧ k < l.length
  | [], l', k, v, h => by simp [ax_sv] at h
  | a :: r, l', 0, v, h => by
    simp only [ax_sv, Option.some.injEq] at h
    subst h
    simp
  | a :: r, l', n + 1, v, h => by
    simp only [ax_sv] at h
    cases hr : ax_sv r n v with
    | none => simp [hr] at h
    | some r' =>
      simp only [hr, Option.some.injEq] at h
      subst h
      obtain ⟨h1, h2⟩ := ax_sv_set r r' n v hr
      subst h1
      simp
      omega
/-- known values of locals, in the frame -/
theorem ax_lget {ls : Array Slot} {nL : Nat} {lo : List (Option Value)} {k : Nat} {v : Value} (h : lv_has ls nL (ax_lo 0 lo)) (hk : ax_gl lo k = some v) : ls[k]? = some (.val v) :=
  h.2.2 (k, v) ((ax_lo_mem lo 0 (k, v)).mpr ⟨Nat.zero_le _, hk⟩)
theorem ax_lput {ls : Array Slot} {nL : Nat} {lo lo' : List (Option Value)} {k : Nat} {v : Value} (hs : ax_sl lo k v = some lo') (hp : ax_pv lo k = true) (h : lv_has ls nL ((k, v) :: (ax_lo 0 lo).filter (fun q => !(q.1 == k) && !(q.1 + 1 == k && q.2.category == 2)))) : lv_has ls nL (ax_lo 0 lo') := by
  obtain ⟨-, -, hg⟩ := ax_sl_get _ _ _ _ hs
  refine ⟨h.1, h.2.1, fun q hq => h.2.2 q ?_⟩
  obtain ⟨-, h2⟩ := (ax_lo_mem lo' 0 q).mp hq
  rw [Nat.sub_zero, hg] at h2
  by_cases e : q.1 = k
  · rw [if_pos e] at h2
    obtain ⟨a, b⟩ := q
    simp only [Option.some.injEq] at h2
    simp only at e
    subst e; subst h2
    exact List.mem_cons_self
  · rw [if_neg e] at h2
    refine List.mem_cons_of_mem _ (List.mem_filter.mpr ⟨(ax_lo_mem lo 0 q).mpr ⟨Nat.zero_le _, by rw [Nat.sub_zero]; exact h2⟩, ?_⟩)
    simp only [Bool.and_eq_true, Bool.not_eq_true', beq_eq_false_iff_ne, ne_eq, e, not_false_eq_true, true_and, Bool.and_eq_false_iff]
    by_cases e2 : q.1 + 1 = k
    · right
      subst e2
      simp only [ax_pv, h2, beq_iff_eq] at hp
      omega
    · left
      exact e2
theorem ax_lput2 {ls : Array Slot} {nL : Nat} {lo lo' : List (Option Value)} {k : Nat} {v : Value} (hs : ax_sl2 lo k v = some lo') (hp : ax_pv lo k = true) (h : lv_has ls nL ((k, v) :: (ax_lo 0 lo).filter (fun q => !(q.1 == k) && (!(q.1 == k + 1) && !(q.1 + 1 == k && q.2.category == 2))))) : lv_has ls nL (ax_lo 0 lo') := by
  obtain ⟨-, -, hg⟩ := ax_sl2_get _ _ _ _ hs
  refine ⟨h.1, h.2.1, fun q hq => h.2.2 q ?_⟩
  obtain ⟨-, h2⟩ := (ax_lo_mem lo' 0 q).mp hq
  rw [Nat.sub_zero, hg] at h2
  by_cases e : q.1 = k
  · rw [if_pos e] at h2
    obtain ⟨a, b⟩ := q
    simp only [Option.some.injEq] at h2
    simp only at e
    subst e; subst h2
    exact List.mem_cons_self
  · rw [if_neg e] at h2
    by_cases e3 : q.1 = k + 1
    · rw [if_pos e3] at h2
      cases h2
    rw [if_neg e3] at h2
    refine List.mem_cons_of_mem _ (List.mem_filter.mpr ⟨(ax_lo_mem lo 0 q).mpr ⟨Nat.zero_le _, by rw [Nat.sub_zero]; exact h2⟩, ?_⟩)
    simp only [Bool.and_eq_true, Bool.not_eq_true', beq_eq_false_iff_ne, ne_eq, e, e3, not_false_eq_true, true_and, Bool.and_eq_false_iff]
    by_cases e2 : q.1 + 1 = k
    · right
      subst e2
      simp only [ax_pv, h2, beq_iff_eq] at hp
      omega
    · left
      exact e2
theorem ax_at.moved {Γ : GE} {u U : State} {H : Heap} {a : Nat} {e : AE} (hvm : u.vm.Alike U.vm) (h : ax_at Γ u H a e) : ax_at Γ U H a e := by
  cases e with
  | inl x =>
    obtain ⟨cell, h1, h2, h3, h4, h5, h6, h7⟩ := h
    exact ⟨cell, h1, State.isArrayOf_alike hvm h2, h3, h4, h5, h6, fun C hC => (h7 C hC).moved hvm⟩
  | inr o => exact h
theorem ax_R.moved {Γ : GE} {h : AH} {u U : State} {H : Heap} (hvm : u.vm.Alike U.vm) (hR : ax_R Γ h u H) : ax_R Γ h U H := ⟨hR.1, hR.2.1, hR.2.2.1, fun a e ha => (hR.2.2.2 a e ha).moved hvm⟩
/-! the judgement -/
def ax_C (Γ : GE) (M : MD) (p : Program) (e : Env) (s : State) (m : MethodId) (args : Array Value) (below : List Frame) (meth : Method) (c : Code) : Prop :=
  p.tables.exec = Jvm.exec ∧ c.code = M.2.1 ∧ c.maxLocals = M.2.2.1 ∧ s.vm.findClass M.1.cls = some m.cls ∧ (∀ w ∈ TB, w.before args s = true) ∧ meth.sig.returnType = M.2.2.2.1 ∧ meth.locks = false ∧ meth.name = M.1.name ∧ (c.exceptionTable.toList = tableOf M.2.2.2.2 ∧ ∀ q : Nat, q < Γ.2.1 → s.heap[q]? = Γ.2.2.1[q]?) ∧ ax_G Γ s
def ax_Qc (Γ : GE) (Q : PO) : Array Value → State → Outcome → State → Prop := fun _ s o t => ∃ (v : Option Value) (h : AH), o = .returned v ∧ Q (.inl v) h ∧ ax_R Γ h t t.heap ∧ s.heap.size ≤ t.heap.size
def ax_XC (Γ : GE) (Q : PO) : String → State → State → Prop := fun E s t => ∃ h : AH, Q (.inr E) h ∧ ax_R Γ h t t.heap ∧ s.heap.size ≤ t.heap.size
/-- from every machine state that looks so, the method comes to an end with Q -/
def WP (Γ : GE) (M : MD) (rm : RM) (pc : Nat) (lo : List (Option Value)) (st : List Value) (h : AH) (Q : PO) : Prop :=
  ∀ (p : Program) (e : Env) (R : Room) (s : State) (m : MethodId) (args : Array Value) (below : List Frame) (meth : Method) (c : Code),
    ax_C Γ M p e s m args below meth c → rm.1 ≤ R.frames → rm.2.1 ≤ R.locals →
    ∀ (H : Heap) (locs : List Loc) (cells slots : Nat) (ls : Array Slot) (mc ms : Nat),
      cells + rm.2.2.1 ≤ R.cells → slots + rm.2.2.2 ≤ R.slots → cells + rm.2.2.1 ≤ mc → slots + rm.2.2.2 ≤ ms →
      lv_has ls M.2.2.1 (ax_lo 0 lo) → ax_R Γ h s H → va_S (ax_A Γ) s.heap H locs →
      W p Γ.1 e R s m args below meth c H locs cells slots (vx_MQ below (ax_Qc Γ Q) (ax_XC Γ Q) args s mc ms (ax_A Γ)) (F0 m pc ls st)
section
variable {Γ : GE} {M : MD} {rm : RM} {pc n : Nat} {lo lo' : List (Option Value)} {st : List Value} {h : AH} {Q : PO}
/-- a step that touches neither heap nor locals -/
theorem wp_go {st' : List Value} (hstep : ∀ (p : Program) (e : Env) (R : Room) (s : State) (m : MethodId) (args : Array Value) (below : List Frame) (meth : Method) (c : Code) (H : Heap) (locs : List Loc) (cells slots : Nat) (Z : State → Prop) (ls : Array Slot),
      p.tables.exec = Jvm.exec → c.code = M.2.1 → (∀ (k : Nat) (v : Value), ax_gl lo k = some v → ls[k]? = some (.val v)) → W p Γ.1 e R s m args below meth c H locs cells slots Z (F0 m n ls st') → W p Γ.1 e R s m args below meth c H locs cells slots Z (F0 m pc ls st))
    (k : WP Γ M rm n lo st' h Q) : WP Γ M rm pc lo st h Q := by
  intro p e R s m args below meth c C hf hl H locs cells slots ls mc ms h1 h2 h3 h4 hlo hR hS
  exact hstep p e R s m args below meth c H locs cells slots _ ls C.1 C.2.1 (fun k v hk => ax_lget hlo hk) (k p e R s m args below meth c C hf hl H locs cells slots ls mc ms h1 h2 h3 h4 hlo hR hS)
/-- .. with the class and the words at hand -/
theorem wp_goC {st' : List Value} (hstep : ∀ (p : Program) (e : Env) (R : Room) (s : State) (m : MethodId) (args : Array Value) (below : List Frame) (meth : Method) (c : Code) (H : Heap) (locs : List Loc) (cells slots : Nat) (Z : State → Prop) (ls : Array Slot),
      p.tables.exec = Jvm.exec → c.code = M.2.1 → s.vm.findClass M.1.cls = some m.cls → (∀ w ∈ TB, w.before args s = true) → c.maxLocals = ls.size → rm.1 ≤ R.frames → rm.2.1 ≤ R.locals → cells ≤ R.cells → slots ≤ R.slots → ax_R Γ h s H → ax_G Γ s → va_S (ax_A Γ) s.heap H locs → W p Γ.1 e R s m args below meth c H locs cells slots Z (F0 m n ls st') → W p Γ.1 e R s m args below meth c H locs cells slots Z (F0 m pc ls st))
    (k : WP Γ M rm n lo st' h Q) : WP Γ M rm pc lo st h Q := by
  intro p e R s m args below meth c C hf hl H locs cells slots ls mc ms h1 h2 h3 h4 hlo hR hS
  exact hstep p e R s m args below meth c H locs cells slots _ ls C.1 C.2.1 C.2.2.2.1 C.2.2.2.2.1 (by rw [C.2.2.1]; exact hlo.1.symm) hf hl (by omega) (by omega) hR C.2.2.2.2.2.2.2.2.2 hS (k p e R s m args below meth c C hf hl H locs cells slots ls mc ms h1 h2 h3 h4 hlo hR hS)
/-- a store into locals -/
theorem wp_goL {st' : List Value} (hstep : ∀ (p : Program) (e : Env) (R : Room) (s : State) (m : MethodId) (args : Array Value) (below : List Frame) (meth : Method) (c : Code) (H : Heap) (locs : List Loc) (cells slots : Nat) (Z : State → Prop) (ls : Array Slot),
      p.tables.exec = Jvm.exec → c.code = M.2.1 → lv_has ls M.2.2.1 (ax_lo 0 lo) → (∀ ls' : Array Slot, lv_has ls' M.2.2.1 (ax_lo 0 lo') → W p Γ.1 e R s m args below meth c H locs cells slots Z (F0 m n ls' st')) → W p Γ.1 e R s m args below meth c H locs cells slots Z (F0 m pc ls st))
    (k : WP Γ M rm n lo' st' h Q) : WP Γ M rm pc lo st h Q := by
  intro p e R s m args below meth c C hf hl H locs cells slots ls mc ms h1 h2 h3 h4 hlo hR hS
  exact hstep p e R s m args below meth c H locs cells slots _ ls C.1 C.2.1 hlo (fun ls' hlo' => k p e R s m args below meth c C hf hl H locs cells slots ls' mc ms h1 h2 h3 h4 hlo' hR hS)
end
