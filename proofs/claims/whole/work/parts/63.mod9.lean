/-! ===== the reference: reverses ===== -/
theorem upd7_link (rw : FI) {ne e : Nat} (he : e < ne) (i j c d t g l p : Int32) : upd (upd (upd7 rw ne i j c d t g (-1)) (e * 7 + 6) p) (ne * 7 + 6) l = upd (upd7 rw ne i j c d t g l) (e * 7 + 6) p := by
  funext u
  by_cases q1 : u = ne * 7 + 6
  · subst q1
    rw [show upd (upd (upd7 rw ne i j c d t g (-1)) (e * 7 + 6) p) (ne * 7 + 6) l (ne * 7 + 6) = l from if_pos rfl, show upd (upd7 rw ne i j c d t g l) (e * 7 + 6) p (ne * 7 + 6) = upd7 rw ne i j c d t g l (ne * 7 + 6) from if_neg (by omega)]
    exact (upd7_at rw ne i j c d t g l).2.2.2.2.2.2.symm
  · by_cases q2 : u = e * 7 + 6
    · subst q2
      simp only [upd, if_neg q1, if_true]
    · have e1 : ∀ v, upd7 rw ne i j c d t g v u = upd (upd (upd (upd (upd (upd rw (ne * 7 + 0) i) (ne * 7 + 1) j) (ne * 7 + 2) c) (ne * 7 + 3) d) (ne * 7 + 4) t) (ne * 7 + 5) g u := fun v => if_neg q1
      rw [show upd (upd (upd7 rw ne i j c d t g (-1)) (e * 7 + 6) p) (ne * 7 + 6) l u = upd (upd7 rw ne i j c d t g (-1)) (e * 7 + 6) p u from if_neg q1, show upd (upd7 rw ne i j c d t g (-1)) (e * 7 + 6) p u = upd7 rw ne i j c d t g (-1) u from if_neg q2, show upd (upd7 rw ne i j c d t g l) (e * 7 + 6) p u = upd7 rw ne i j c d t g l u from if_neg q2, e1, e1]
section
variable {Γ : GE} {h : AH} {Q : PO} {m a np nb ne nh nc y : Nat} {R : FI} {qu ra le ln pl tm rw hw cw pk : FI} {re : Nat → UInt32} {bk : Nat → Int64} {t x z w v th tl at' bg er ea lr cm : Int32}
theorem RowR.link {e : Nat} {p : Int32} (h : RowR R np qu ra re le ln nb pl tm ne rw bk nh hw nc cw t y) (he : e < 300) (hS : InvS np nb ne nh nc y t) : RowR (upd R (471 + 14 * e + 6) p) np qu ra re le ln nb pl tm ne (upd rw (e * 7 + 6) p) bk nh hw nc cw t y := by
  obtain ⟨i1, i2, i3, i4, i5, i6, i7, i8, i9⟩ := hS
  obtain ⟨⟨r0, r1, r2, r3, r4, r5, r6⟩, rM, rP, rJ, rH, rC⟩ := h
  have eo : ∀ u, ¬ u = 471 + 14 * e + 6 → upd R (471 + 14 * e + 6) p u = R u := fun u hu => if_neg hu
  refine ⟨⟨(eo 0 (by omega)).trans r0, (eo 1 (by omega)).trans r1, (eo 2 (by omega)).trans r2, (eo 3 (by omega)).trans r3, (eo 4 (by omega)).trans r4, (eo 5 (by omega)).trans r5, (eo 6 (by omega)).trans r6⟩, fun d hd => ⟨(eo _ (by omega)).trans (rM d hd).1, (eo _ (by omega)).trans (rM d hd).2⟩, fun j hj => ⟨(eo _ (by omega)).trans (rP j hj).1, (eo _ (by omega)).trans (rP j hj).2.1, fun i hi => (eo _ (by omega)).trans ((rP j hj).2.2 i hi)⟩, fun e1 he1 => ⟨fun q hq => ?_, fun d hd => by rw [eo _ (by omega)]; exact (rJ e1 he1).2 d hd⟩, fun r hr q hq => (eo _ (by omega)).trans (rH r hr q hq), fun c hc => ⟨fun j hj => (eo _ (by omega)).trans ((rC c hc).1 j hj), (eo _ (by omega)).trans (rC c hc).2⟩⟩
  by_cases q9 : e1 * 7 + q = e * 7 + 6
  · rw [show upd R (471 + 14 * e + 6) p (471 + 14 * e1 + q) = p from if_pos (by omega), show upd rw (e * 7 + 6) p (e1 * 7 + q) = p from if_pos q9]
  · rw [eo _ (by omega), show upd rw (e * 7 + 6) p (e1 * 7 + q) = rw (e1 * 7 + q) from if_neg q9]
    exact (rJ e1 he1).1 q hq
end
