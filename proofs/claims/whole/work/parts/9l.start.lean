/-! ===== the start ===== -/
theorem lw_size {args : Array Value} {s : State} {tm : Term} {N t : Nat} {cell : Cell} (hN : N < 2147483648) (hlen : (Term.length tm).eval args s none [] s = some (.int (Int32.ofNat N))) (ht : tm.eval args s none [] s = some (.ref t)) (hc : s.heap[t]? = some cell) : cell.slots.size = N := by
  obtain ⟨b, cell2, h1, harr, hv⟩ := Term.length_spec hlen
  cases ht.symm.trans h1
  obtain ⟨hcell, -, -, -⟩ := State.arrayAt?_spec harr
  cases hc.symm.trans hcell
  have hsz : cell.slots.size < 2147483648 := by
    simp only [Term.eval, ht, harr, Option.bind_eq_bind, Option.bind_some] at hlen
    by_cases hlt : cell.slots.size < 2147483648
    · exact hlt
    · simp [hlt] at hlen
  exact (nI_eq9 hsz hN).mp (Value.int.inj hv).symm
theorem lw_nests {args : Array Value} {s : State} (hts : ∀ w ∈ lw_tbl, w.before args s = true) : ∀ w ∈ ax_nests, va_Nw w s := by
  intro w hw
  have h1 : ∀ w ∈ ax_nests, w ∈ lw_tbl ∧ w.onTables = true := by decide +kernel
  exact va_Nw.of (h1 w hw).2 (hts w (h1 w hw).1)
theorem lw_G {args : Array Value} {s : State} {l : Launch} (hflags : l.flags = flags0) (hs : ∀ w ∈ lw_flat, w.before args s = true) (hts : ∀ w ∈ lw_tbl, w.before args s = true) : ∃ (D : va_G) (sk sv : Nat → Nat), ax_G (l, s.heap.size, s.heap, D, sk, sv) s ∧ va_T .int (sv 1000) 4 (fun j => .int (([102, 114, 101, 101] : List Int32).getD j 0)) (fun q => s.heap.size ≤ q) s s.heap ∧ ∀ cell, s.heap[sv 1000]? = some cell → cell.slots.size = 4 := by
  have hA : ∀ a : Nat, a < s.heap.size → ¬ ((fun q => s.heap.size ≤ q) a) := fun a ha hb => Nat.not_le.mpr ha hb
  obtain ⟨cq, hcq⟩ := Classical.axiomOfChoice (lw_cl hts)
  have h0 : ∀ i : Nat, ∃ q : Nat × Nat, ∀ r, ax_strs[i]? = some r → lw_S r (fun q => s.heap.size ≤ q) s q := by
    intro i
    cases hr : ax_strs[i]? with
    | none => exact ⟨(0, 0), fun r h => absurd h (by simp)⟩
    | some r =>
      obtain ⟨q, hq⟩ := lw_sall hs hts hA r (List.mem_of_getElem? hr)
      exact ⟨q, fun r' h => by cases h; exact hq⟩
  obtain ⟨sq, hsq⟩ := Classical.axiomOfChoice h0
  obtain ⟨tF, htF, hTF⟩ := lw_free (A := fun q => s.heap.size ≤ q) hs hA
  refine ⟨(fun c => (cq c).1, fun c => (cq c).2), fun i => (sq i).1, fun i => if i = 1000 then tF else (sq i).2, ⟨⟨fun c r hr => hcq c r hr, fun k q hk => absurd hk (by simp)⟩, fun i r hr => ?_, lw_nests hts, ?_, ?_, ?_, ?_, ?_, ?_, ?_, ?_⟩, ?_⟩
  · have hi : ¬ i = 1000 := by
      intro e
      subst e
      have z9 : ax_strs[1000]? = none := by decide +kernel
      rw [z9] at hr
      cases hr
    have z := hsq i r hr
    unfold ax_str
    dsimp only
    rw [if_neg hi]
    exact z
  · intro q hq
    rcases List.mem_cons.mp hq with rfl | hq
    · exact va_Nc.of (hs _ (List.mem_of_getElem? (i := 29) (by decide +kernel)))
    · rcases List.mem_cons.mp hq with rfl | hq
      · exact va_Nc.of (hs _ (List.mem_of_getElem? (i := 41) (by decide +kernel)))
      · exact absurd hq List.not_mem_nil
  · exact vx_Zqof (hts _ (List.mem_append_right _ (List.mem_of_getElem? (i := 806) (by decide +kernel)))) (hts _ (List.mem_append_right _ (List.mem_of_getElem? (i := 12) (by decide +kernel)))) (hs _ (List.mem_of_getElem? (i := 16) (by decide +kernel))) hA
  · exact vx_Zqof (hts _ (List.mem_append_right _ (List.mem_of_getElem? (i := 808) (by decide +kernel)))) (hts _ (List.mem_append_right _ (List.mem_of_getElem? (i := 12) (by decide +kernel)))) (hs _ (List.mem_of_getElem? (i := 17) (by decide +kernel))) hA
  · dsimp only
    rw [if_pos rfl]
    exact va_Zref (hts _ (List.mem_append_right _ (List.mem_of_getElem? (i := 256) (by decide +kernel)))) (hts _ (List.mem_append_right _ (List.mem_of_getElem? (i := 1) (by decide +kernel)))) htF hA
  · exact va_Zof (hts _ (List.mem_append_right _ (List.mem_of_getElem? (i := 341) (by decide +kernel)))) (hts _ (List.mem_append_right _ (List.mem_of_getElem? (i := 16) (by decide +kernel)))) (va_eqi (hs _ (List.mem_of_getElem? (i := 11) (by decide +kernel)))) hA
  · exact va_Zqof (hts _ (List.mem_append_right _ (List.mem_of_getElem? (i := 357) (by decide +kernel)))) (hts _ (List.mem_append_right _ (List.mem_of_getElem? (i := 18) (by decide +kernel)))) (hs _ (List.mem_of_getElem? (i := 12) (by decide +kernel))) hA
  · exact va_AO.of (hts _ (List.mem_append_right _ (List.mem_of_getElem? (i := 96) (by decide +kernel))))
  · show l.stackTraces = false
    unfold Launch.stackTraces
    rw [hflags]
    decide +kernel
  · dsimp only
    rw [if_pos rfl]
    exact ⟨hTF, fun cell hc => lw_size (by decide) (va_eqt (hs _ (List.mem_of_getElem? (i := 6) (by decide +kernel)))) htF hc⟩
def R_law : String := "StorageLedgerLaw"
def lw_P (b : Addr) (xs : List Int32) (args : Array Value) (s : State) : Prop := args = #[.ref b] ∧ s.IntsAt b xs ∧ xs.length ≤ 2560 ∧ (Jvm.Cond.and given_1 narrow_1).before args s = true
/-- what a walk over the start with the record d0 says of its end, said of the start itself -/
theorem lw_closed {s t : State} {o : Outcome} {d0 : Drawn} {L : List Loc} {k n : Nat} (hd0 : s.drawn.sameBut d0 lw_cs) (hv : ∃ v, o = .returned v) (hW : (s.setDrawn d0).WarmedH t.vm) (hs : (s.setDrawn d0).sameButNew ({ t with vm := s.vm } : State) L k n) : State.butDraws s t lw_cs (fun t1 => Framed s o t1 L k n) := by
  have h2 : t.drawn = d0 := congrArg State.drawn hs.1
  refine ⟨⟨hv, hW, State.sameButNew.setDrawn hs s.drawn⟩, ?_, by decide⟩
  rw [h2]
  exact hd0
def lw_Q (_ : Array Value) (s : State) (o : Outcome) (t : State) : Prop := o = .returned (some (.int 1)) ∧ State.butDraws s t lw_cs (fun t1 => Framed s o t1 [] 601024 7293033)
def lw_Z (below : List Frame) (a : Array Value) (s : State) : State → Prop := fun t => ∃ o, t.status = .running ∧ Ended t below o ∧ lw_Q a s o t
/-- what holds at the law's entry: the machine, the code, the tables' words (any of lw_tbl by 'hts w (by decide +kernel)'), the script of L ints xs at the cell b, what the Statement gives of the start (any of its parts by flat_of_before) -/
def lw_At (p : Program) (s : State) (m : MethodId) (meth : Method) (c : Code) (b L : Nat) (xs : Nat → Int32) : Prop :=
  p.tables.exec = Jvm.exec ∧ c.code = code ∧ meth.sig.returnType = ret ∧ c.maxLocals = 10 ∧ s.vm.findClass R_law = some m.cls ∧ (∀ w ∈ lw_tbl, w.before #[Value.ref b] s = true) ∧ va_X b L xs s s.heap ∧ b < s.heap.size ∧ meth.locks = false ∧ (Jvm.Cond.and given_1 narrow_1).before #[Value.ref b] s = true
theorem whole_start {p : Program} {e : Env} {s : State} {m : MethodId} {below : List Frame} {meth : Method} {c : Code} (l : Launch) (hflags : l.flags = flags0) {b L : Nat} {xs : Nat → Int32} (hL : L ≤ 2560) (C0 : lw_At p s m meth c b L xs) (hnm : meth.name = "law") (hex : ∀ x ∈ c.exceptionTable.toList, False) : W p l e room_1 s m #[Value.ref b] below meth c s.heap [] 0 0 (lw_Z below #[Value.ref b] s) (entryFrame m ([Value.ref b] : List Value).toArray 10) := by
  obtain ⟨a1, a2, a3, a4, a5, hts, hX, hbl, a9, hgv⟩ := C0
  have hs : ∀ w ∈ lw_flat, w.before #[Value.ref b] s = true := flat_of_before _ hgv
  obtain ⟨D, sk, sv, hG, hT, h4⟩ := lw_G hflags hs hts
  obtain ⟨scr, x1, x2, x3, x4, x5⟩ := hX
  obtain ⟨fc, y1, y2, y3, y4, y5, y6, y7⟩ := hT
  have y8 := h4 fc y1
  have hF : sv 1000 < s.heap.size := (Array.getElem?_eq_some_iff.mp y1).1
  have hR : ax_R (l, s.heap.size, s.heap, D, sk, sv) (s.heap.size, fun a => if a = b then some (.inl (.int, L, .inl xs)) else if a = sv 1000 then some (.inl (.int, 4, .inl (fun j => ([102, 114, 101, 101] : List Int32).getD j 0))) else none) s s.heap := by
    refine ⟨rfl, Nat.le_refl _, fun _ _ => rfl, fun a e9 he => ?_⟩
    dsimp only at he
    by_cases q1 : a = b
    · rw [if_pos q1] at he
      subst q1
      cases he
      exact ⟨scr, x1, x2, x3, fun q => absurd q (Nat.not_le.mpr hbl), x4, x5, fun C hC => by cases hC⟩
    · rw [if_neg q1] at he
      by_cases q2 : a = sv 1000
      · rw [if_pos q2] at he
        subst q2
        cases he
        exact ⟨fc, y1, y2, y3, fun q => absurd q (Nat.not_le.mpr hF), y8, y6, fun C hC => by cases hC⟩
      · rw [if_neg q2] at he
        cases he
  have hFree : FreeAt (l, s.heap.size, s.heap, D, sk, sv) (s.heap.size, fun a => if a = b then some (.inl (.int, L, .inl xs)) else if a = sv 1000 then some (.inl (.int, 4, .inl (fun j => ([102, 114, 101, 101] : List Int32).getD j 0))) else none) := by
    refine ⟨hF, ?_⟩
    dsimp only
    by_cases q1 : sv 1000 = b
    · rw [q1] at y1
      cases x1.symm.trans y1
      have hL4 : L = 4 := x4.symm.trans y8
      subst hL4
      refine ⟨xs, by rw [if_pos q1], ?_, ?_, ?_, ?_⟩
      · exact Value.int.inj (Option.some.inj ((x5 0 (by omega)).symm.trans (y6 0 (by omega))))
      · exact Value.int.inj (Option.some.inj ((x5 1 (by omega)).symm.trans (y6 1 (by omega))))
      · exact Value.int.inj (Option.some.inj ((x5 2 (by omega)).symm.trans (y6 2 (by omega))))
      · exact Value.int.inj (Option.some.inj ((x5 3 (by omega)).symm.trans (y6 3 (by omega))))
    · exact ⟨_, by rw [if_neg q1, if_pos rfl], rfl, rfl, rfl, rfl⟩
  have hScr : ScrP (l, s.heap.size, s.heap, D, sk, sv) (s.heap.size, fun a => if a = b then some (.inl (.int, L, .inl xs)) else if a = sv 1000 then some (.inl (.int, 4, .inl (fun j => ([102, 114, 101, 101] : List Int32).getD j 0))) else none) b L xs := ⟨if_pos rfl, hbl, hL, hFree⟩
  have K := lw_start (Q := fun o _ => o = .inl (some (.int (nI 1)))) rfl (Nat.le_refl _) hScr (fun _ => rfl)
  have KW := K p e room_1 s m #[Value.ref b] below meth c ⟨a1, a2, a4, a5, fun w hw => hts w (List.mem_filter.mp hw).1, a3, a9, hnm, ⟨List.eq_nil_iff_forall_not_mem.mpr (fun x hx => hex x hx), fun _ _ => rfl⟩, hG⟩ (by decide) (by decide) s.heap [] 0 0 _ 601024 7293033 (by decide) (by decide) (by decide) (by decide) (ax_entry [Value.ref b] 10 (fun v hv => by rw [List.mem_singleton] at hv; subst hv; rfl) (Nat.le_of_ble_eq_true rfl)) hR va_S.rf
  rw [lg_entry_eq]
  intro T hT X
  obtain ⟨t, k1, o, k2, k3, k4⟩ := KW T hT X
  refine ⟨t, k1, o, k2, k3, ?_⟩
  rcases k4 with ⟨⟨v, h', z1, z2, z3, z4⟩, Lc, hfr, hfree⟩ | ⟨q, e1, E, ce, L9, ⟨h', e2, e3⟩, e4⟩
  · cases z2
    subst z1
    obtain ⟨_, hW, hsame⟩ := hfr
    exact ⟨rfl, lw_closed (d0 := s.drawn) (Drawn.sameBut.refl s.drawn lw_cs) ⟨_, rfl⟩ hW (State.sameButNew.weaken hsame (fun x hx hlt => absurd (hfree x hx) (Nat.not_le.mpr hlt)) (Nat.le_refl _) (Nat.le_refl _))⟩
  · cases e2
