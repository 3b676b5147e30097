/-! ===== constructors, Math, copies, throws, constants ===== -/
section
variable {Γ : GE} {M M' : MD} {rm rm' : RM} {pc n t : Nat} {lo lo' : List (Option Value)} {st : List Value} {h : AH} {Q Q' : PO} {As : List Value}
theorem wp_objInit {idx a : Nat} (hd : decode M.2.1 pc = .ok (.invokespecial idx, 3)) (hn : pc + 3 = n) (hl : Cond.methodLink M.1.cls idx objectInit ∈ TB) (hi : Cond.instanceMethod objectInit ∈ TB) (hc : Cond.code objectInit ⟨#[0xb1]⟩ 1 none ∈ TB) (hf : Nat.ble 1 rm.1 = true) (hlo : Nat.ble ((st.map fun v => v.category).sum + 12) rm.2.1 = true)
    (k : WP Γ M rm n lo st h Q) : WP Γ M rm pc lo (.ref a :: st) h Q := by
  subst hn
  have f1 := Nat.le_of_ble_eq_true hf
  have f2 := Nat.le_of_ble_eq_true hlo
  refine wp_goC (fun p e R s m args below meth c H locs cells slots Z ls hx hb ho ht hml g1 g2 _ _ hR hG _ w => ?_) k
  exact W.objInit hx hb ho (ht _ hl) (ht _ hi) (ht _ hc) rfl hml.symm rfl hd (by omega) (by show 2 * 0 + _ + 12 ≤ _; omega) w
/-- what follows a constructor's call -/
def ax_KN (Γ : GE) (M : MD) (rm : RM) (n : Nat) (lo : List (Option Value)) (rest : List Value) (Q : PO) : PO := fun o h' => match o with
  | .inl (some v) => WP Γ M rm n lo (v :: rest) h' Q
  | .inl none => WP Γ M rm n lo rest h' Q
  | .inr _ => False
theorem ax_afterN {p : Program} {e : Env} {R : Room} {s : State} {m : MethodId} {args : Array Value} {below : List Frame} {meth : Method} {c : Code} {H : Heap} {locs : List Loc} {cells slots mc ms : Nat} {ls : Array Slot} {rest : List Value} {aa : Array Value}
    (hn : pc + 3 = n) (C0 : ax_C Γ M p e s m args below meth c) (hf : rm.1 ≤ R.frames) (hl : rm.2.1 ≤ R.locals) (hfit : rm'.2.2.1 ≤ rm.2.2.1 ∧ rm'.2.2.2 ≤ rm.2.2.2)
    (h1 : cells + rm.2.2.1 ≤ R.cells) (h2 : slots + rm.2.2.2 ≤ R.slots) (h3 : cells + rm.2.2.1 ≤ mc) (h4 : slots + rm.2.2.2 ≤ ms) (hlo : lv_has ls M.2.2.1 (ax_lo 0 lo)) (hR : ax_R Γ h s H) (hS : va_S (ax_A Γ) s.heap H locs)
    (hr : va_Run p Γ.1 e R s m args below meth c H locs cells slots rm'.2.2.1 rm'.2.2.2 (F0 m pc ls st) rest (ax_Qc Γ (ax_KN Γ M (rm.1, rm.2.1, rm.2.2.1 - rm'.2.2.1, rm.2.2.2 - rm'.2.2.2) n lo rest Q) aa) (ax_A Γ)) :
    W p Γ.1 e R s m args below meth c H locs cells slots (vx_MQ below (ax_Qc Γ Q) (ax_XC Γ Q) args s mc ms (ax_A Γ)) (F0 m pc ls st) := by
  subst hn
  intro T hT X
  obtain ⟨v, st₀, t, T', L, h0, X', hL, e1, e2, ⟨v', h', hv, hk, hR', hz⟩, stp⟩ := hr T hT X
  cases hv
  rw [h0, ← e1] at hz
  have hR1 : ax_R Γ h' s T'.heap := by
    rw [e1]
    exact hR'.moved (by rw [← e2]; exact X'.warmed.alike.symm)
  have hS1 := ax_S_call (st0 := st₀) (L := L) hS hR hR1 hz hL
  cases v with
  | none =>
    obtain ⟨t2, a1, b1⟩ := hk p e R s m args below meth c C0 hf hl T'.heap (locs ++ L) (cells + rm'.2.2.1) (slots + rm'.2.2.2) ls mc ms (by dsimp only; omega) (by dsimp only; omega) (by dsimp only; omega) (by dsimp only; omega) hlo hR1 hS1 T' rfl X'
    exact ⟨t2, stp t2 a1, b1⟩
  | some w =>
    obtain ⟨t2, a1, b1⟩ := hk p e R s m args below meth c C0 hf hl T'.heap (locs ++ L) (cells + rm'.2.2.1) (slots + rm'.2.2.2) ls mc ms (by dsimp only; omega) (by dsimp only; omega) (by dsimp only; omega) (by dsimp only; omega) hlo hR1 hS1 T' rfl X'
    exact ⟨t2, stp t2 a1, b1⟩
theorem wp_callI {idx k b : Nat} {rest : List Value} (hd : decode M.2.1 pc = .ok (.invokespecial idx, 3)) (hn : pc + 3 = n) (hL : ax_CI M.1.cls idx M' k) (As : List Value) (hst : st = As.reverse ++ .ref b :: rest) (hk : As.length = k) (hret : M'.2.2.2.1 = none) (hc : As.all (fun v => v.category == 1) = true) (hml : Nat.ble (k + 1) M'.2.2.1 = true) (hrs : (rest.map fun v => v.category).sum ≤ 8) (hfit : ax_fit rm rm' M'.2.2.1 = true)
    (kk : WP Γ M' rm' 0 (ax_en (.ref b :: As) M'.2.2.1) [] h (ax_KN Γ M (rm.1, rm.2.1, rm.2.2.1 - rm'.2.2.1, rm.2.2.2 - rm'.2.2.2) n lo rest Q)) : WP Γ M rm pc lo st h Q := by
  obtain ⟨f1, f2, f3, f4⟩ := ax_fit_of hfit
  intro p e R s m args below meth c C0 hf hl H locs cells slots ls mc ms h1 h2 h3 h4 hlo hR hS
  have ht := C0.2.2.2.2.1
  have hc' : ∀ v ∈ (.ref b :: As : List Value), v.category = 1 := by
    intro v hv
    rcases List.mem_cons.mp hv with rfl | hv
    · rfl
    · exact beq_iff_eq.mp (List.all_eq_true.mp hc v hv)
  have hM := ax_metN (fun E h' q => q) hL.1.2.2.2.2.2.1 hL.1.2.2.2.2.2.2 hc' (by simp only [List.length_cons]; rw [hk]; exact Nat.le_of_ble_eq_true hml) kk
  have hcb := hL.1.callB (rm' := rm') (R := R) ht (by omega) (by omega)
  rw [hret] at hcb
  exact ax_afterN (rm := rm) (rm' := rm') hn C0 hf hl ⟨f3, f4⟩ h1 h2 h3 h4 hlo hR hS (va_runI (nL := M.2.2.1) (Ts := TB) (own := M.1.cls) (index := idx) (bytes := M'.2.1) (maxL := M'.2.2.1) (n := k) (As := As) (rest := rest) (b := b) ⟨C0.1, C0.2.1, C0.2.2.1, C0.2.2.2.1, ht⟩ hM ⟨hcb, hL.2.1, ht _ hL.2.2⟩ ⟨ax_Pc_blind _ _ _, fun U hU hW => ⟨rfl, ax_G.warm hW C0.2.2.2.2.2.2.2.2.2, by rw [hU]; exact hR.moved hW.alike⟩⟩ rfl hk hlo.1 hst (lv_room hrs) hd ⟨by omega, by omega⟩)
/-- a constructor of a nest mate -/
theorem wp_callIN {idx k b : Nat} {host : String} {rest : List Value} (hd : decode M.2.1 pc = .ok (.invokespecial idx, 3)) (hn : pc + 3 = n) (hL : ax_MB M' k) (hN : Cond.methodLinkNest M.1.cls idx M'.1 host ∈ ax_nests) (hI : M'.1.name = "<init>") (hin : Cond.instanceMethod M'.1 ∈ TB) (As : List Value) (hst : st = As.reverse ++ .ref b :: rest) (hk : As.length = k) (hret : M'.2.2.2.1 = none) (hc : As.all (fun v => v.category == 1) = true) (hml : Nat.ble (k + 1) M'.2.2.1 = true) (hrs : (rest.map fun v => v.category).sum ≤ 8) (hfit : ax_fit rm rm' M'.2.2.1 = true)
    (kk : WP Γ M' rm' 0 (ax_en (.ref b :: As) M'.2.2.1) [] h (ax_KN Γ M (rm.1, rm.2.1, rm.2.2.1 - rm'.2.2.1, rm.2.2.2 - rm'.2.2.2) n lo rest Q)) : WP Γ M rm pc lo st h Q := by
  obtain ⟨f1, f2, f3, f4⟩ := ax_fit_of hfit
  intro p e R s m args below meth c C0 hf hl H locs cells slots ls mc ms h1 h2 h3 h4 hlo hR hS
  have ht := C0.2.2.2.2.1
  have hG := C0.2.2.2.2.2.2.2.2.2
  have hc' : ∀ v ∈ (.ref b :: As : List Value), v.category = 1 := by
    intro v hv
    rcases List.mem_cons.mp hv with rfl | hv
    · rfl
    · exact beq_iff_eq.mp (List.all_eq_true.mp hc v hv)
  obtain ⟨q2, q3, q4, q5, q6, q7⟩ := hL
  have hM := ax_metN (fun E h' q => q) q6 q7 hc' (by simp only [List.length_cons]; rw [hk]; exact Nat.le_of_ble_eq_true hml) kk
  refine ax_afterN (rm := rm) (rm' := rm') hn C0 hf hl ⟨f3, f4⟩ h1 h2 h3 h4 hlo hR hS (va_runIN (nL := M.2.2.1) (Ts := TB) (own := M.1.cls) (host := host) (index := idx) (bytes := M'.2.1) (maxL := M'.2.2.1) (n := k) (As := As) (rest := rest) (b := b) ⟨C0.1, C0.2.1, C0.2.2.1, C0.2.2.2.1, ht⟩ hM ⟨⟨⟨rfl, rfl, ?_, ?_, fun w hw a' U hW => ?_, ?_⟩, ?_, ht _ q2, q4, fun sig hs => ?_, va_Nw.use rfl (hG.2.2.1 _ hN)⟩, hI, ht _ hin⟩ ⟨ax_Pc_blind _ _ _, fun U hU hW => ⟨rfl, ax_G.warm hW hG, by rw [hU]; exact hR.moved hW.alike⟩⟩ rfl hk hlo.1 hst (lv_room hrs) hd ⟨by omega, by omega⟩)
  · show rm'.1 + 1 ≤ R.frames
    omega
  · show 8 + (M'.2.2.1 + 11) + rm'.2.1 ≤ R.locals
    omega
  · rcases List.mem_cons.mp hw with rfl | hw
    · exact word_at hW (TB_good q3) (ht _ q3)
    · exact word_at hW (TB_good hw) (ht _ hw)
  · rw [← hret]
    exact List.mem_cons_self
  · rw [← hret]
    exact ht _ q3
  · rw [hs] at q5
    exact (Option.some.inj q5).symm
/-! Math -/
theorem wp_mmax {idx : Nat} {x y : Int32} (hd : decode M.2.1 pc = .ok (.invokestatic idx, 3)) (hn : pc + 3 = n) (hl : Cond.methodLink M.1.cls idx Lib.Math.max.name ∈ TB) (hs9 : Cond.static Lib.Math.max.name ∈ TB) (hi : Cond.initialized "java/lang/Math" ∈ TB) (hc : Cond.code Lib.Math.max.name Lib.Math.max.code 2 (some .int) ∈ TB) (hf : Nat.ble 1 rm.1 = true) (hlo : Nat.ble ((st.map fun v => v.category).sum + 13) rm.2.1 = true)
    (k : WP Γ M rm n lo (.int (if x < y then y else x) :: st) h Q) : WP Γ M rm pc lo (.int y :: .int x :: st) h Q := by
  subst hn
  have f1 := Nat.le_of_ble_eq_true hf
  have f2 := Nat.le_of_ble_eq_true hlo
  refine wp_goC (fun p e R s m args below meth c H locs cells slots Z ls hx hb ho ht hml g1 g2 g3 g4 hR hG _ w => ?_) k
  exact va_mmax hx hb hml ho (ht _ hl) (ht _ hs9) (ht _ hi) (ht _ hc) (by omega) (by omega) g3 g4 hd w
theorem wp_mmin {idx : Nat} {x y : Int32} (hd : decode M.2.1 pc = .ok (.invokestatic idx, 3)) (hn : pc + 3 = n) (hl : Cond.methodLink M.1.cls idx Lib.Math.min.name ∈ TB) (hs9 : Cond.static Lib.Math.min.name ∈ TB) (hi : Cond.initialized "java/lang/Math" ∈ TB) (hc : Cond.code Lib.Math.min.name Lib.Math.min.code 2 (some .int) ∈ TB) (hf : Nat.ble 1 rm.1 = true) (hlo : Nat.ble ((st.map fun v => v.category).sum + 13) rm.2.1 = true)
    (k : WP Γ M rm n lo (.int (if y < x then y else x) :: st) h Q) : WP Γ M rm pc lo (.int y :: .int x :: st) h Q := by
  subst hn
  have f1 := Nat.le_of_ble_eq_true hf
  have f2 := Nat.le_of_ble_eq_true hlo
  refine wp_goC (fun p e R s m args below meth c H locs cells slots Z ls hx hb ho ht hml g1 g2 g3 g4 hR hG _ w => ?_) k
  exact va_mmin hx hb hml ho (ht _ hl) (ht _ hs9) (ht _ hi) (ht _ hc) (by omega) (by omega) g3 g4 hd w
/-! constants, statics -/
theorem wp_ldc {idx : Nat} {v : Int32} (hd : decode M.2.1 pc = .ok (.ldc idx, 2)) (hn : pc + 2 = n) (hc : Cond.constant M.1.cls idx v ∈ TB) (k : WP Γ M rm n lo (.int v :: st) h Q) : WP Γ M rm pc lo st h Q := by
  subst hn
  exact wp_goC (fun p e R s m args below meth c H locs cells slots Z ls hx hb ho ht hml g1 g2 g3 g4 hR hG _ w => lv_ldc hx hb ho (ht _ hc) hd w) k
theorem wp_ldcw {idx : Nat} {v : Int32} (hd : decode M.2.1 pc = .ok (.ldc_w idx, 3)) (hn : pc + 3 = n) (hc : Cond.constant M.1.cls idx v ∈ TB) (k : WP Γ M rm n lo (.int v :: st) h Q) : WP Γ M rm pc lo st h Q := by
  subst hn
  exact wp_goC (fun p e R s m args below meth c H locs cells slots Z ls hx hb ho ht hml g1 g2 g3 g4 hR hG _ w => lv_ldcw hx hb ho (ht _ hc) hd w) k
theorem wp_ldcf {idx : Nat} {v : UInt32} (hd : decode M.2.1 pc = .ok (.ldc idx, 2)) (hn : pc + 2 = n) (hc : Cond.constantFloat M.1.cls idx v ∈ TB) (k : WP Γ M rm n lo (.float v :: st) h Q) : WP Γ M rm pc lo st h Q := by
  subst hn
  exact wp_goC (fun p e R s m args below meth c H locs cells slots Z ls hx hb ho ht hml g1 g2 g3 g4 hR hG _ w => lv_ldcf hx hb ho (ht _ hc) hd w) k
theorem wp_ldcS (i : Nat) {idx : Nat} {tx : String} {by_ : List Int32} (hd : decode M.2.1 pc = .ok (.ldc idx, 2)) (hn : pc + 2 = n) (hi : ax_strs[i]? = some (M.1.cls, idx, tx, by_)) (k : WP Γ M rm n lo (.ref (Γ.2.2.2.2.1 i) :: st) h Q) : WP Γ M rm pc lo st h Q := by
  subst hn
  exact wp_goC (fun p e R s m args below meth c H locs cells slots Z ls hx hb ho ht hml g1 g2 g3 g4 hR hG _ w => va_ldcS hx hb ho (hG.2.1 i _ hi).1 hd w) k
theorem ax_stat {s : State} {H : Heap} {locs : List Loc} (hR : ax_R Γ h s H) (hS : va_S (ax_A Γ) s.heap H locs) : ∀ a : Nat, a < Γ.2.2.1.size → ¬ ax_A Γ a → H[a]? = Γ.2.2.1[a]? := fun a _ hA => hR.2.2.1 a (Nat.not_le.mp hA)
/-- the private constant FREE_NAME, out of a nest mate -/
theorem wp_free {idx : Nat} {host : String} (hd : decode M.2.1 pc = .ok (.getstatic idx, 3)) (hn : pc + 3 = n) (hN : Cond.fieldLinkNest M.1.cls idx "StorageLedger" "FREE_NAME" "[I" host ∈ ax_nests) (k : WP Γ M rm n lo (.ref (Γ.2.2.2.2.2 1000) :: st) h Q) : WP Γ M rm pc lo st h Q := by
  subst hn
  refine wp_goC (fun p e R s m args below meth c H locs cells slots Z ls hx hb ho ht hml g1 g2 g3 g4 hR hG hS w => ?_) k
  obtain ⟨cf, kf, fi, f, a, cell, q1, q2, q3, q4, q5, q6, q7, q8⟩ := hG.2.2.2.2.2.2.1
  exact va_WgetsN hx hb ho (va_Nw.use rfl (hG.2.2.1 _ hN)) q1 q2 q3 q4 (by rw [hR.2.2.1 a (Nat.not_le.mp q8)]; exact q5) (fun e => by rw [e] at q6; cases q6) q7 rfl hd w
/-! arrays of references -/
theorem wp_anew {idx N : Nat} {C : String} {i : Int32} (hd : decode M.2.1 pc = .ok (.anewarray idx, 3)) (hn : pc + 3 = n) (hC : C = "StorageLedger$Ledger") (hcl : Cond.classLink M.1.cls idx C ∈ TB) (hi : i = nI N) (hN : N < 100000) (hc1 : 1 ≤ rm.2.2.1) (hs1 : N ≤ rm.2.2.2)
    (kk : WP Γ M (rm.1, rm.2.1, rm.2.2.1 - 1, rm.2.2.2 - N) n lo (.ref h.1 :: st) (ax_new h (.inl (.object C, N, .inr (.inr (.inr (.inr (fun _ => none))))))) Q) : WP Γ M rm pc lo (.int i :: st) h Q := by
  subst hn
  subst hC
  intro p e R s m args below meth c C0 hf hl0 H locs cells slots ls mc ms h1 h2 h3 h4 hlo hR hSS
  have ht := C0.2.2.2.2.1
  have hG := C0.2.2.2.2.2.2.2.2.2
  have hiN : i.toNatClampNeg = N := by rw [hi]; exact nI_clamp (by omega)
  refine W.anew C0.1 C0.2.1 C0.2.2.2.1 (ht _ hcl) (va_AO.use hG.2.2.2.2.2.2.2.2.2.1) rfl hd rfl (by rw [hi]; exact nI_pos (by omega)) (by rw [hiN]; omega) (by omega) (by rw [hiN]; omega) fun cA kA comp f1 f2 f3 f4 => ?_
  rw [hiN, arrV_new]
  generalize hH1 : H.push (arrV cA N (fun _ => .null)) = H1
  have z1 : H1.size = H.size + 1 := by rw [← hH1, Array.size_push]
  have e1 : H1[H.size]? = some (arrV cA N (fun _ => .null)) := by rw [← hH1, Array.getElem?_push_size]
  have o1 : ∀ q : Nat, q < H.size → H1[q]? = H[q]? := fun q hq => by rw [← hH1, Array.getElem?_push, if_neg (Nat.ne_of_lt hq)]
  rw [← hR.1]
  refine kk p e R s m args below meth c C0 hf hl0 H1 locs (cells + 1) (slots + N) ls mc ms (by dsimp only; omega) (by dsimp only; omega) (by dsimp only; omega) (by dsimp only; omega) hlo (hR.new z1 o1 ⟨_, e1, ⟨(fun k h => by cases h), kA, f2, comp, f3⟩, (fun q => by cases q), fun _ => rfl, arrV_size _ _ _, fun j hj => ?_, fun C9 hC9 => ?_⟩) ⟨Nat.le_trans hSS.1 (by omega), fun x g1 g2 => (o1 x (Nat.lt_of_lt_of_le g1 hSS.1)).trans (hSS.2.1 x g1 g2), hSS.2.2⟩
  · rw [arrV_read _ _ hj]
    rfl
  · exact ⟨kA, comp, f2, f3, f4, f1⟩
theorem wp_aast {a N v ci : Nat} (j : Nat) {C : String} {f : Nat → Option Nat} {fs : List Value} {i : Int32} (hd : decode M.2.1 pc = .ok (.aastore, 1)) (hn : pc + 1 = n) (he : h.2 a = some (.inl (.object C, N, .inr (.inr (.inr (.inr f)))))) (hv : h.2 v = some (.inr (ci, fs))) (hci : (vwCl[ci]?).map (·.1) = some C) (hA : Γ.2.1 ≤ a) (hi : i = nI j) (hj : j < N) (hN : N < 2147483648)
    (k : WP Γ M rm n lo st (ax_set h a (.inl (.object C, N, .inr (.inr (.inr (.inr (va_up f j (some v)))))))) Q) : WP Γ M rm pc lo (.ref v :: .int i :: .ref a :: st) h Q := by
  subst hn
  obtain ⟨g1, g2⟩ := ax_in hj hN hi
  intro p e R s m args below meth c C0 hf hl H locs cells slots ls mc ms h1 h2 h3 h4 hlo hR hS
  have hG := C0.2.2.2.2.2.2.2.2.2
  obtain ⟨cell, q1, q2, q3, q4, q5, q6, q7⟩ := hR.2.2.2 a _ he
  obtain ⟨r, y1, y2, cellV, y3, y4, y5, -⟩ := hR.2.2.2 v _ hv
  rw [y1] at hci
  obtain rfl := Option.some.inj hci
  obtain ⟨hfc, kC, hkC, hkind⟩ := (hG.1.1 ci r y1).2
  obtain ⟨kA, comp, k1, k2, k3, -⟩ := q7 _ rfl
  have hcomp : comp = Γ.2.2.2.1.1 ci := Option.some.inj (k3.symm.trans hfc)
  have hlt : j < cell.slots.size := by rw [q5]; exact hj
  refine W.aast C0.1 C0.2.1 q1 q2.1 q3 k1 k2 rfl (by rw [hcomp]; exact hkC) ⟨fun q => g1 (Or.inl q), by rw [g2]; exact hlt⟩ y3 (fun q => by rw [y5]; intro h; cases h) (by rw [y4]; exact hkC) (by rw [y4, hcomp]; exact va_assign ⟨hfc, kC, hkC, hkind⟩) rfl rfl hd fun H1 e1 z1 o1 => ?_
  rw [g2] at e1 ⊢
  exact k p e R s m args below meth c C0 hf hl H1 _ cells slots ls mc ms h1 h2 h3 h4 hlo (hR.set hA z1 o1 (ax_stored q2 q3 q4 q5 q6 q7 e1 rfl (fun i _ => by simp only [ax_el, va_up]; split <;> rfl))) (hS.put z1 o1 hA)
/-! throws -/
theorem wp_throwS (i : Nat) {ik is ic : Nat} {cls tx : String} {names : List String} {by_ : List Int32} (hT0 : M.2.2.2.2 = []) (d0 : decode M.2.1 pc = .ok (.new ik, 3)) (d3 : decode M.2.1 (pc + 3) = .ok (.dup, 1)) (d4 : decode M.2.1 (pc + 4) = .ok (.ldc is, 2)) (d6 : decode M.2.1 (pc + 6) = .ok (.invokespecial ic, 3)) (d9 : decode M.2.1 (pc + 9) = .ok (.athrow, 1))
    (hi : ax_strs[i]? = some (M.1.cls, is, tx, by_)) (hcls : Bundle.fit cls = true) (hnames : ∀ n ∈ names, Bundle.fit n = true) (hk : Cond.classLink M.1.cls ik cls ∈ TB) (hini : Cond.initialized cls ∈ TB) (hat : ∀ w ∈ vx_atS M.1.cls ic cls names, w ∈ TB ∨ w ∈ ax_nests) (hgood : ∀ w ∈ Cond.classLink M.1.cls ik cls :: Cond.initialized cls :: vx_atS M.1.cls ic cls names, vx_ot w = true) (hnw : ∀ w ∈ ax_nests, w.onTables = true)
    (hf9 : Nat.ble (names.length + 4) rm.1 = true) (hl9 : Nat.ble ((st.map fun v => v.category).sum + (13 * (names.length + 1) + 43)) rm.2.1 = true) (hc9 : 1 ≤ rm.2.2.1) (hs9 : 6 ≤ rm.2.2.2)
    (kq : ∀ n', h.1 ≤ n' → Q (.inr cls) (n', h.2)) : WP Γ M rm pc lo st h Q := by
  have f1 := Nat.le_of_ble_eq_true hf9
  have f2 := Nat.le_of_ble_eq_true hl9
  intro p e R s m args below meth c C0 hf hl H locs cells slots ls mc ms h1 h2 h3 h4 hlo hR hS
  have ht := C0.2.2.2.2.1
  have hG := C0.2.2.2.2.2.2.2.2.2
  have hkp : ∀ a : Nat, a < Γ.2.2.1.size → ¬ ax_A Γ a → s.heap[a]? = Γ.2.2.1[a]? := fun a _ hA => C0.2.2.2.2.2.2.2.2.1.2 a (Nat.not_le.mp hA)
  refine vx_throwS (A := ax_A Γ) (names := names) C0.1 C0.2.1 hG.2.2.2.2.2.2.2.2.2.2 C0.2.2.2.1 hcls hnames (ht _ hk) (ht _ hini) (hG.2.1 i _ hi).1 (fun w hw => ?_) hgood (hG.2.2.2.2.1.kept hkp) (hG.2.2.2.2.2.1.kept hkp) hS (by rw [C0.2.2.1]; exact hlo.1) d0 d3 d4 d6 d9 ?_ (by omega) (by omega) (by omega) (by omega) C0.2.2.2.2.2.2.1 (fun t hvm hz ho => ?_) hS.2.2 (by omega) (by omega)
  · rcases hat w hw with q | q
    · exact ht _ q
    · exact va_Nw.use (hnw w q) (hG.2.2.1 _ q)
  · intro x hx
    rw [C0.2.2.2.2.2.2.2.2.1.1, hT0] at hx
    cases hx
  · exact ⟨(t.heap.size, h.2), kq _ (by rw [hR.1]; exact hz), (hR.grow hz ho).moved hvm, Nat.le_trans hS.1 hz⟩
theorem wp_throwSW (i : Nat) {ik is ic : Nat} {cls tx : String} {names : List String} {by_ : List Int32} (hT0 : M.2.2.2.2 = []) (d0 : decode M.2.1 pc = .ok (.new ik, 3)) (d3 : decode M.2.1 (pc + 3) = .ok (.dup, 1)) (d4 : decode M.2.1 (pc + 4) = .ok (.ldc_w is, 3)) (d7 : decode M.2.1 (pc + 7) = .ok (.invokespecial ic, 3)) (d10 : decode M.2.1 (pc + 10) = .ok (.athrow, 1))
    (hi : ax_strs[i]? = some (M.1.cls, is, tx, by_)) (hcls : Bundle.fit cls = true) (hnames : ∀ n ∈ names, Bundle.fit n = true) (hk : Cond.classLink M.1.cls ik cls ∈ TB) (hini : Cond.initialized cls ∈ TB) (hat : ∀ w ∈ vx_atS M.1.cls ic cls names, w ∈ TB ∨ w ∈ ax_nests) (hgood : ∀ w ∈ Cond.classLink M.1.cls ik cls :: Cond.initialized cls :: vx_atS M.1.cls ic cls names, vx_ot w = true) (hnw : ∀ w ∈ ax_nests, w.onTables = true)
    (hf9 : Nat.ble (names.length + 4) rm.1 = true) (hl9 : Nat.ble ((st.map fun v => v.category).sum + (13 * (names.length + 1) + 43)) rm.2.1 = true) (hc9 : 1 ≤ rm.2.2.1) (hs9 : 6 ≤ rm.2.2.2)
    (kq : ∀ n', h.1 ≤ n' → Q (.inr cls) (n', h.2)) : WP Γ M rm pc lo st h Q := by
  have f1 := Nat.le_of_ble_eq_true hf9
  have f2 := Nat.le_of_ble_eq_true hl9
  intro p e R s m args below meth c C0 hf hl H locs cells slots ls mc ms h1 h2 h3 h4 hlo hR hS
  have ht := C0.2.2.2.2.1
  have hG := C0.2.2.2.2.2.2.2.2.2
  have hkp : ∀ a : Nat, a < Γ.2.2.1.size → ¬ ax_A Γ a → s.heap[a]? = Γ.2.2.1[a]? := fun a _ hA => C0.2.2.2.2.2.2.2.2.1.2 a (Nat.not_le.mp hA)
  refine vx_throwSW (A := ax_A Γ) (names := names) C0.1 C0.2.1 hG.2.2.2.2.2.2.2.2.2.2 C0.2.2.2.1 hcls hnames (ht _ hk) (ht _ hini) (hG.2.1 i _ hi).1 (fun w hw => ?_) hgood (hG.2.2.2.2.1.kept hkp) (hG.2.2.2.2.2.1.kept hkp) hS (by rw [C0.2.2.1]; exact hlo.1) d0 d3 d4 d7 d10 ?_ (by omega) (by omega) (by omega) (by omega) C0.2.2.2.2.2.2.1 (fun t hvm hz ho => ?_) hS.2.2 (by omega) (by omega)
  · rcases hat w hw with q | q
    · exact ht _ q
    · exact va_Nw.use (hnw w q) (hG.2.2.1 _ q)
  · intro x hx
    rw [C0.2.2.2.2.2.2.2.2.1.1, hT0] at hx
    cases hx
  · exact ⟨(t.heap.size, h.2), kq _ (by rw [hR.1]; exact hz), (hR.grow hz ho).moved hvm, Nat.le_trans hS.1 hz⟩
end
