/-! ===== fields, new ===== -/
section
variable {Γ : GE} {M : MD} {rm : RM} {pc n t : Nat} {lo lo' : List (Option Value)} {st : List Value} {h : AH} {Q : PO}
theorem wp_getf {idx ci k a : Nat} {ty : FieldType} {fin : Bool} {fs : List Value} {v : Value} (hd : decode M.2.1 pc = .ok (.getfield idx, 3)) (hn : pc + 3 = n) (hL : ax_FL M.1.cls idx ci k ty fin) (he : h.2 a = some (.inr (ci, fs))) (hv : fs[k]? = some v)
    (kk : WP Γ M rm n lo (v :: st) h Q) : WP Γ M rm pc lo (.ref a :: st) h Q := by
  subst hn
  refine wp_goC (fun p e R s m args below meth c H locs cells slots Z ls hx hb ho ht _ _ _ _ _ hR hG _ w => ?_) kk
  obtain ⟨C, T, N, ty0, hc, hk, hl, hin, hty, hnm, -, -, -⟩ := hL
  obtain ⟨r, g1, g2, cell, q1, q2, q3, q4⟩ := hR.2.2.2 a _ he
  have hr : r = (C, T, N) := Option.some.inj (g1.symm.trans hc)
  subst hr
  obtain ⟨hS, hfc, kC, hkC, hkind⟩ := hG.1.1 ci _ hc
  obtain ⟨cf, kf, fi, f, hi, hsl⟩ := hS k hk
  refine W.getf hx hb ho (ht _ hl) hi (u_facts hfc hkC (u_lays ht hin hk) hi).1 q1 (by rw [q3]; exact fun h => by cases h) (v := v) ?_ rfl rfl hd w
  rw [hsl, q4 k hk]
  show some (fs.getD k .null) = some v
  rw [List.getD_eq_getElem?_getD, hv]
  rfl
theorem wp_putf {idx ci k a : Nat} {ty : FieldType} {fs fs' : List Value} {v : Value} (hd : decode M.2.1 pc = .ok (.putfield idx, 3)) (hn : pc + 3 = n) (hL : ax_FL M.1.cls idx ci k ty false) (he : h.2 a = some (.inr (ci, fs))) (hA : Γ.2.1 ≤ a) (hs : ax_sv fs k v = some fs') (hnr : narrow ty v = v) (hft : fits ty v = true)
    (kk : WP Γ M rm n lo st (ax_set h a (.inr (ci, fs'))) Q) : WP Γ M rm pc lo (v :: .ref a :: st) h Q := by
  subst hn
  intro p e R s m args below meth c C0 hf hl0 H locs cells slots ls mc ms h1 h2 h3 h4 hlo hR hSS
  obtain ⟨C, T, N, ty0, hc, hk, hl, hin, hty, hnm, hk2, hfin, -⟩ := hL
  have hG := C0.2.2.2.2.2.2.2.2.2
  have ht := C0.2.2.2.2.1
  have hap := va_apart (own := M.1.cls) ht hin ty0 hty hnm hG.1 hc
  obtain ⟨r, g1, g2, cell, q1, q2, q3, q4⟩ := hR.2.2.2 a _ he
  have hr : r = (C, T, N) := Option.some.inj (g1.symm.trans hc)
  subst hr
  obtain ⟨hS, hfc, kC, hkC, hkind⟩ := hG.1.1 ci _ hc
  obtain ⟨cf, kf, fi, f, hi, hsl⟩ := hS k hk
  have hlay := ht _ (hin _ (u_in_lay hk))
  unfold u_lay at hlay
  rw [if_neg (by rw [hfin]; decide)] at hlay
  have hst := (u_facts hfc hkC (u_lays ht hin hk) hi).1
  have h6 := u_store hfc hkC hkind hlay hi (by rw [hty k hk, hk2]) hnr hft
  obtain ⟨hs1, hs2⟩ := ax_sv_set _ _ _ _ hs
  refine W.putK C0.1 C0.2.1 (f := f) ⟨C0.2.2.2.1, ht _ hl, ⟨_, _, _, hi⟩, hst⟩ (by rw [q2]; exact h6) q1 q3 (by rw [hsl]; exact k2_hasslot (q4 k hk)) rfl rfl hd fun H' e1 e2 e3 => ?_
  rw [hsl] at e1 ⊢
  refine kk p e R s m args below meth c C0 hf hl0 H' _ cells slots ls mc ms h1 h2 h3 h4 hlo (hR.set hA e2 e3 ⟨_, hc, by rw [hs1, List.length_set]; exact g2, ?_⟩) (hSS.put e2 e3 hA)
  rw [hs1]
  exact t_OB.to (V := updV (vp_V fs) k v) ⟨_, e1, q2, q3, t_set q4 hap hk v⟩ (fun j _ => vp_updV_set hs2 v j)
theorem wp_putF {idx ci k a : Nat} {ty : FieldType} {fs fs' : List Value} {v : Value} (hd : decode M.2.1 pc = .ok (.putfield idx, 3)) (hn : pc + 3 = n) (hL : ax_FL M.1.cls idx ci k ty true) (hI : M.1.name = "<init>") (hO : (vwCl[ci]?).map (·.1) = some M.1.cls) (he : h.2 a = some (.inr (ci, fs))) (hA : Γ.2.1 ≤ a) (hs : ax_sv fs k v = some fs') (hnr : narrow ty v = v) (hft : fits ty v = true)
    (kk : WP Γ M rm n lo st (ax_set h a (.inr (ci, fs'))) Q) : WP Γ M rm pc lo (v :: .ref a :: st) h Q := by
  subst hn
  intro p e R s m args below meth c C0 hf hl0 H locs cells slots ls mc ms h1 h2 h3 h4 hlo hR hSS
  obtain ⟨C, T, N, ty0, hc, hk, hl, hin, hty, hnm, hk2, hfin, hdecl⟩ := hL
  have hG := C0.2.2.2.2.2.2.2.2.2
  have ht := C0.2.2.2.2.1
  have hown := C0.2.2.2.1
  have hdecl : (T k).1 = M.1.cls := by
    rw [hc] at hO
    exact hdecl.trans (Option.some.inj hO)
  have hap := va_apart (own := M.1.cls) ht hin ty0 hty hnm hG.1 hc
  obtain ⟨r, g1, g2, cell, q1, q2, q3, q4⟩ := hR.2.2.2 a _ he
  have hr : r = (C, T, N) := Option.some.inj (g1.symm.trans hc)
  subst hr
  obtain ⟨hS, hfc, kC, hkC, hkind⟩ := hG.1.1 ci _ hc
  obtain ⟨cf, kf, fi, f, hi, hsl⟩ := hS k hk
  have hlay := ht _ (hin _ (u_in_lay hk))
  unfold u_lay at hlay
  rw [if_pos hfin] at hlay
  have hst := (u_facts hfc hkC (u_lays ht hin hk) hi).1
  have hcf : m.cls = cf := by
    obtain ⟨_, _, c', _, _, _, -, -, hf', -, -, -, hown2, -⟩ := Cond.laysFinal_spec hlay
    have e1 : c' = cf := by have := hi.symm.trans hf'; simp at this; exact this.1.symm
    rw [hdecl] at hown2
    rw [← e1]; exact Option.some.inj (hown.symm.trans hown2)
  have h6 := u_fits hfc hkC hkind (Or.inr hlay) hi (by rw [hty k hk, hk2]) hnr hft
  obtain ⟨hs1, hs2⟩ := ax_sv_set _ _ _ _ hs
  refine W.putFinK C0.1 C0.2.1 hown (ht _ hl) hi hst hcf (C0.2.2.2.2.2.2.2.1.trans hI) (by rw [q2]; exact h6) q1 q3 (by rw [hsl]; exact k2_hasslot (q4 k hk)) rfl rfl hd fun H' e1 e2 e3 => ?_
  rw [hsl] at e1 ⊢
  refine kk p e R s m args below meth c C0 hf hl0 H' _ cells slots ls mc ms h1 h2 h3 h4 hlo (hR.set hA e2 e3 ⟨_, hc, by rw [hs1, List.length_set]; exact g2, ?_⟩) (hSS.put e2 e3 hA)
  rw [hs1]
  exact t_OB.to (V := updV (vp_V fs) k v) ⟨_, e1, q2, q3, t_set q4 hap hk v⟩ (fun j _ => vp_updV_set hs2 v j)
theorem wp_new {idx ci : Nat} {fs : List Value} (hd : decode M.2.1 pc = .ok (.new idx, 3)) (hn : pc + 3 = n) (hL : ax_NL M.1.cls idx ci fs) (hc1 : 1 ≤ rm.2.2.1) (hs1 : fs.length ≤ rm.2.2.2)
    (kk : WP Γ M (rm.1, rm.2.1, rm.2.2.1 - 1, rm.2.2.2 - fs.length) n lo (.ref h.1 :: st) (ax_new h (.inr (ci, fs))) Q) : WP Γ M rm pc lo st h Q := by
  subst hn
  intro p e R s m args below meth c C0 hf hl0 H locs cells slots ls mc ms h1 h2 h3 h4 hlo hR hSS
  obtain ⟨C, T, N, ty0, hc, hcl, hins, hini, hin, hty, hlen, hdf⟩ := hL
  have hG := C0.2.2.2.2.2.2.2.2.2
  have ht := C0.2.2.2.2.1
  have hKn := hG.1.1 ci _ hc
  subst hlen
  refine W.newcK C0.1 C0.2.1 C0.2.2.2.1 (ht _ hcl) (ht _ hins) (ht _ hini) rfl hd (by omega) (by omega) hKn.2.1 rfl fun H1 kC hkC e1 z1 o1 => ?_
  rw [← hR.1]
  refine kk p e R s m args below meth c C0 hf hl0 H1 locs (cells + 1) (slots + fs.length) ls mc ms (by dsimp only; omega) (by dsimp only; omega) (by dsimp only; omega) (by dsimp only; omega) hlo (hR.new z1 o1 ⟨_, hc, rfl, ?_⟩) ⟨Nat.le_trans hSS.1 (by omega), fun x g1 g2 => (o1 x (Nat.lt_of_lt_of_le g1 hSS.1)).trans (hSS.2.1 x g1 g2), hSS.2.2⟩
  exact (u_born ty0 ht hin hKn hkC e1 hty).to hdf
theorem wp_newa {atype : ArrayType} {ty : FieldType} {N : Nat} {i : Int32} {x : vp_A} (hd : decode M.2.1 pc = .ok (.newarray atype, 2)) (hn : pc + 2 = n) (hty : newarray.typeOf atype = ty) (hac : Cond.arrayClass (newarray.typeOf atype) ∈ TB) (hi : i = nI N) (hN : N < 100000) (hx : x.1 = N) (hel : ∀ j, ax_el x j = defaultValue ty) (hno : ∀ C : String, ty ≠ .object C) (hcb : componentBytes ty ≤ 8) (hc1 : 1 ≤ rm.2.2.1) (hs1 : N ≤ rm.2.2.2)
    (kk : WP Γ M (rm.1, rm.2.1, rm.2.2.1 - 1, rm.2.2.2 - N) n lo (.ref h.1 :: st) (ax_new h (.inl (ty, x))) Q) : WP Γ M rm pc lo (.int i :: st) h Q := by
  subst hn
  subst hty
  intro p e R s m args below meth c C0 hf hl0 H locs cells slots ls mc ms h1 h2 h3 h4 hlo hR hSS
  have ht := C0.2.2.2.2.1
  have hiN : i.toNatClampNeg = N := by rw [hi]; exact nI_clamp (by omega)
  have hb : N * componentBytes (newarray.typeOf atype) ≤ 536870912 := Nat.le_trans (Nat.mul_le_mul (Nat.le_of_lt hN) hcb) (by decide)
  refine va_newaK C0.1 C0.2.1 (ht _ hac) rfl hd rfl (by rw [hi]; exact nI_pos (by omega)) hiN hb (by omega) (by omega) rfl fun H1 cA e1 z1 o1 hAr hNm => ?_
  rw [← hR.1]
  refine kk p e R s m args below meth c C0 hf hl0 H1 locs (cells + 1) (slots + N) ls mc ms (by dsimp only; omega) (by dsimp only; omega) (by dsimp only; omega) (by dsimp only; omega) hlo (hR.new z1 o1 ⟨_, e1, hAr _ _, (fun q => by cases q), fun _ => rfl, ?_, fun j hj => ?_, fun C hC => absurd hC (hno C)⟩) ⟨Nat.le_trans hSS.1 (by omega), fun x g1 g2 => (o1 x (Nat.lt_of_lt_of_le g1 hSS.1)).trans (hSS.2.1 x g1 g2), hSS.2.2⟩
  · rw [arrV_size]
    exact hx.symm
  · rw [arrV_read _ _ (by rw [← hx]; exact hj)]
    rw [hel]
end
