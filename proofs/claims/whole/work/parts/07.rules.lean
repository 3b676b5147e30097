/-! ===== instructions that touch neither heap nor tables ===== -/
section
variable {Γ : GE} {M : MD} {rm : RM} {pc n t : Nat} {lo lo' : List (Option Value)} {st : List Value} {h : AH} {Q : PO}
theorem wp_iconst {i : Int} {v : Int32}  (hd : decode M.2.1 pc = .ok (.iconst i, 1)) (hn : pc + 1 = n) (hv : Int32.ofInt i = v)
    (k : WP Γ M rm n lo (.int v :: st) h Q) : WP Γ M rm pc lo (st) h Q := by
  subst hn
  exact wp_go (fun p e R s m args below meth c H locs cells slots Z ls hx hb hg w => lv_iconst hx hb hd hv w) k
theorem wp_bipush {i : Int} {v : Int32}  (hd : decode M.2.1 pc = .ok (.bipush i, 2)) (hn : pc + 2 = n) (hv : (Int8.ofInt i).toInt32 = v)
    (k : WP Γ M rm n lo (.int v :: st) h Q) : WP Γ M rm pc lo (st) h Q := by
  subst hn
  exact wp_go (fun p e R s m args below meth c H locs cells slots Z ls hx hb hg w => lv_bipush hx hb hd hv w) k
theorem wp_sipush {i : Int} {v : Int32}  (hd : decode M.2.1 pc = .ok (.sipush i, 3)) (hn : pc + 3 = n) (hv : (Int16.ofInt i).toInt32 = v)
    (k : WP Γ M rm n lo (.int v :: st) h Q) : WP Γ M rm pc lo (st) h Q := by
  subst hn
  exact wp_go (fun p e R s m args below meth c H locs cells slots Z ls hx hb hg w => lv_sipush hx hb hd hv w) k
theorem wp_lconst {i : Fin 2} {v : Int64}  (hd : decode M.2.1 pc = .ok (.lconst i, 1)) (hn : pc + 1 = n) (hv : Int64.ofNat (i : Nat) = v)
    (k : WP Γ M rm n lo (.long v :: st) h Q) : WP Γ M rm pc lo (st) h Q := by
  subst hn
  exact wp_go (fun p e R s m args below meth c H locs cells slots Z ls hx hb hg w => lv_lconst hx hb hd hv w) k
theorem wp_fconst0  (hd : decode M.2.1 pc = .ok (.fconst 0, 1)) (hn : pc + 1 = n) 
    (k : WP Γ M rm n lo (.float FP.fconst0 :: st) h Q) : WP Γ M rm pc lo (st) h Q := by
  subst hn
  exact wp_go (fun p e R s m args below meth c H locs cells slots Z ls hx hb hg w => lv_fconst0 hx hb hd w) k
theorem wp_fconst1  (hd : decode M.2.1 pc = .ok (.fconst 1, 1)) (hn : pc + 1 = n) 
    (k : WP Γ M rm n lo (.float FP.fconst1 :: st) h Q) : WP Γ M rm pc lo (st) h Q := by
  subst hn
  exact wp_go (fun p e R s m args below meth c H locs cells slots Z ls hx hb hg w => lv_fconst1 hx hb hd w) k
theorem wp_iload_n {i : Fin 4} {x : Int32}  (hd : decode M.2.1 pc = .ok (.iload_n i, 1)) (hn : pc + 1 = n) (hl : ax_gl lo (i : Nat) = some (.int x))
    (k : WP Γ M rm n lo (.int x :: st) h Q) : WP Γ M rm pc lo (st) h Q := by
  subst hn
  exact wp_go (fun p e R s m args below meth c H locs cells slots Z ls hx hb hg w => lv_iload_n hx hb hd rfl (hg _ _ hl) w) k
theorem wp_iload {i : Nat} {x : Int32}  (hd : decode M.2.1 pc = .ok (.iload i, 2)) (hn : pc + 2 = n) (hl : ax_gl lo i = some (.int x))
    (k : WP Γ M rm n lo (.int x :: st) h Q) : WP Γ M rm pc lo (st) h Q := by
  subst hn
  exact wp_go (fun p e R s m args below meth c H locs cells slots Z ls hx hb hg w => lv_iload hx hb hd (hg _ _ hl) w) k
theorem wp_istore_n {i : Fin 4} {x : Int32} (hd : decode M.2.1 pc = .ok (.istore_n i, 1)) (hn : pc + 1 = n) (hs : ax_sl lo (i : Nat) (.int x) = some lo') (hp : ax_pv lo (i : Nat) = true) (hL : decide ((i : Nat) < M.2.2.1) = true)
    (k : WP Γ M rm n lo' st h Q) : WP Γ M rm pc lo (.int x :: st) h Q := by
  subst hn
  exact wp_goL (fun p e R s m args below meth c H locs cells slots Z ls hx hb hlo w => lv_istore_n hx hb hd rfl hlo (of_decide_eq_true hL) rfl (fun ls' hl' => w ls' (ax_lput hs hp hl'))) k
theorem wp_istore {i : Nat} {x : Int32} (hd : decode M.2.1 pc = .ok (.istore i, 2)) (hn : pc + 2 = n) (hs : ax_sl lo i (.int x) = some lo') (hp : ax_pv lo i = true) (hL : decide (i < M.2.2.1) = true)
    (k : WP Γ M rm n lo' st h Q) : WP Γ M rm pc lo (.int x :: st) h Q := by
  subst hn
  exact wp_goL (fun p e R s m args below meth c H locs cells slots Z ls hx hb hlo w => lv_istore hx hb hd hlo (of_decide_eq_true hL) rfl (fun ls' hl' => w ls' (ax_lput hs hp hl'))) k
theorem wp_lload_n {i : Fin 4} {x : Int64}  (hd : decode M.2.1 pc = .ok (.lload_n i, 1)) (hn : pc + 1 = n) (hl : ax_gl lo (i : Nat) = some (.long x))
    (k : WP Γ M rm n lo (.long x :: st) h Q) : WP Γ M rm pc lo (st) h Q := by
  subst hn
  exact wp_go (fun p e R s m args below meth c H locs cells slots Z ls hx hb hg w => lv_lload_n hx hb hd rfl (hg _ _ hl) w) k
theorem wp_lload {i : Nat} {x : Int64}  (hd : decode M.2.1 pc = .ok (.lload i, 2)) (hn : pc + 2 = n) (hl : ax_gl lo i = some (.long x))
    (k : WP Γ M rm n lo (.long x :: st) h Q) : WP Γ M rm pc lo (st) h Q := by
  subst hn
  exact wp_go (fun p e R s m args below meth c H locs cells slots Z ls hx hb hg w => lv_lload hx hb hd (hg _ _ hl) w) k
theorem wp_lstore_n {i : Fin 4} {x : Int64} (hd : decode M.2.1 pc = .ok (.lstore_n i, 1)) (hn : pc + 1 = n) (hs : ax_sl2 lo (i : Nat) (.long x) = some lo') (hp : ax_pv lo (i : Nat) = true) (hL : decide ((i : Nat) + 1 < M.2.2.1) = true)
    (k : WP Γ M rm n lo' st h Q) : WP Γ M rm pc lo (.long x :: st) h Q := by
  subst hn
  exact wp_goL (fun p e R s m args below meth c H locs cells slots Z ls hx hb hlo w => lv_lstore_n hx hb hd rfl hlo (of_decide_eq_true hL) rfl (fun ls' hl' => w ls' (ax_lput2 hs hp hl'))) k
theorem wp_lstore {i : Nat} {x : Int64} (hd : decode M.2.1 pc = .ok (.lstore i, 2)) (hn : pc + 2 = n) (hs : ax_sl2 lo i (.long x) = some lo') (hp : ax_pv lo i = true) (hL : decide (i + 1 < M.2.2.1) = true)
    (k : WP Γ M rm n lo' st h Q) : WP Γ M rm pc lo (.long x :: st) h Q := by
  subst hn
  exact wp_goL (fun p e R s m args below meth c H locs cells slots Z ls hx hb hlo w => lv_lstore hx hb hd hlo (of_decide_eq_true hL) rfl (fun ls' hl' => w ls' (ax_lput2 hs hp hl'))) k
theorem wp_fload_n {i : Fin 4} {x : UInt32}  (hd : decode M.2.1 pc = .ok (.fload_n i, 1)) (hn : pc + 1 = n) (hl : ax_gl lo (i : Nat) = some (.float x))
    (k : WP Γ M rm n lo (.float x :: st) h Q) : WP Γ M rm pc lo (st) h Q := by
  subst hn
  exact wp_go (fun p e R s m args below meth c H locs cells slots Z ls hx hb hg w => lv_fload_n hx hb hd rfl (hg _ _ hl) w) k
theorem wp_fload {i : Nat} {x : UInt32}  (hd : decode M.2.1 pc = .ok (.fload i, 2)) (hn : pc + 2 = n) (hl : ax_gl lo i = some (.float x))
    (k : WP Γ M rm n lo (.float x :: st) h Q) : WP Γ M rm pc lo (st) h Q := by
  subst hn
  exact wp_go (fun p e R s m args below meth c H locs cells slots Z ls hx hb hg w => lv_fload hx hb hd (hg _ _ hl) w) k
theorem wp_fstore_n {i : Fin 4} {x : UInt32} (hd : decode M.2.1 pc = .ok (.fstore_n i, 1)) (hn : pc + 1 = n) (hs : ax_sl lo (i : Nat) (.float x) = some lo') (hp : ax_pv lo (i : Nat) = true) (hL : decide ((i : Nat) < M.2.2.1) = true)
    (k : WP Γ M rm n lo' st h Q) : WP Γ M rm pc lo (.float x :: st) h Q := by
  subst hn
  exact wp_goL (fun p e R s m args below meth c H locs cells slots Z ls hx hb hlo w => lv_fstore_n hx hb hd rfl hlo (of_decide_eq_true hL) rfl (fun ls' hl' => w ls' (ax_lput hs hp hl'))) k
theorem wp_fstore {i : Nat} {x : UInt32} (hd : decode M.2.1 pc = .ok (.fstore i, 2)) (hn : pc + 2 = n) (hs : ax_sl lo i (.float x) = some lo') (hp : ax_pv lo i = true) (hL : decide (i < M.2.2.1) = true)
    (k : WP Γ M rm n lo' st h Q) : WP Γ M rm pc lo (.float x :: st) h Q := by
  subst hn
  exact wp_goL (fun p e R s m args below meth c H locs cells slots Z ls hx hb hlo w => lv_fstore hx hb hd hlo (of_decide_eq_true hL) rfl (fun ls' hl' => w ls' (ax_lput hs hp hl'))) k
theorem wp_dload_n {i : Fin 4} {x : UInt64}  (hd : decode M.2.1 pc = .ok (.dload_n i, 1)) (hn : pc + 1 = n) (hl : ax_gl lo (i : Nat) = some (.double x))
    (k : WP Γ M rm n lo (.double x :: st) h Q) : WP Γ M rm pc lo (st) h Q := by
  subst hn
  exact wp_go (fun p e R s m args below meth c H locs cells slots Z ls hx hb hg w => lv_dload_n hx hb hd rfl (hg _ _ hl) w) k
theorem wp_dload {i : Nat} {x : UInt64}  (hd : decode M.2.1 pc = .ok (.dload i, 2)) (hn : pc + 2 = n) (hl : ax_gl lo i = some (.double x))
    (k : WP Γ M rm n lo (.double x :: st) h Q) : WP Γ M rm pc lo (st) h Q := by
  subst hn
  exact wp_go (fun p e R s m args below meth c H locs cells slots Z ls hx hb hg w => lv_dload hx hb hd (hg _ _ hl) w) k
theorem wp_dstore_n {i : Fin 4} {x : UInt64} (hd : decode M.2.1 pc = .ok (.dstore_n i, 1)) (hn : pc + 1 = n) (hs : ax_sl2 lo (i : Nat) (.double x) = some lo') (hp : ax_pv lo (i : Nat) = true) (hL : decide ((i : Nat) + 1 < M.2.2.1) = true)
    (k : WP Γ M rm n lo' st h Q) : WP Γ M rm pc lo (.double x :: st) h Q := by
  subst hn
  exact wp_goL (fun p e R s m args below meth c H locs cells slots Z ls hx hb hlo w => lv_dstore_n hx hb hd rfl hlo (of_decide_eq_true hL) rfl (fun ls' hl' => w ls' (ax_lput2 hs hp hl'))) k
theorem wp_dstore {i : Nat} {x : UInt64} (hd : decode M.2.1 pc = .ok (.dstore i, 2)) (hn : pc + 2 = n) (hs : ax_sl2 lo i (.double x) = some lo') (hp : ax_pv lo i = true) (hL : decide (i + 1 < M.2.2.1) = true)
    (k : WP Γ M rm n lo' st h Q) : WP Γ M rm pc lo (.double x :: st) h Q := by
  subst hn
  exact wp_goL (fun p e R s m args below meth c H locs cells slots Z ls hx hb hlo w => lv_dstore hx hb hd hlo (of_decide_eq_true hL) rfl (fun ls' hl' => w ls' (ax_lput2 hs hp hl'))) k
theorem wp_aload_n {i : Fin 4} {x : Nat}  (hd : decode M.2.1 pc = .ok (.aload_n i, 1)) (hn : pc + 1 = n) (hl : ax_gl lo (i : Nat) = some (.ref x))
    (k : WP Γ M rm n lo (.ref x :: st) h Q) : WP Γ M rm pc lo (st) h Q := by
  subst hn
  exact wp_go (fun p e R s m args below meth c H locs cells slots Z ls hx hb hg w => lv_aload_n hx hb hd rfl (hg _ _ hl) w) k
theorem wp_aload {i : Nat} {x : Nat}  (hd : decode M.2.1 pc = .ok (.aload i, 2)) (hn : pc + 2 = n) (hl : ax_gl lo i = some (.ref x))
    (k : WP Γ M rm n lo (.ref x :: st) h Q) : WP Γ M rm pc lo (st) h Q := by
  subst hn
  exact wp_go (fun p e R s m args below meth c H locs cells slots Z ls hx hb hg w => lv_aload hx hb hd (hg _ _ hl) w) k
theorem wp_astore_n {i : Fin 4} {x : Nat} (hd : decode M.2.1 pc = .ok (.astore_n i, 1)) (hn : pc + 1 = n) (hs : ax_sl lo (i : Nat) (.ref x) = some lo') (hp : ax_pv lo (i : Nat) = true) (hL : decide ((i : Nat) < M.2.2.1) = true)
    (k : WP Γ M rm n lo' st h Q) : WP Γ M rm pc lo (.ref x :: st) h Q := by
  subst hn
  exact wp_goL (fun p e R s m args below meth c H locs cells slots Z ls hx hb hlo w => lv_astore_n hx hb hd rfl hlo (of_decide_eq_true hL) rfl (fun ls' hl' => w ls' (ax_lput hs hp hl'))) k
theorem wp_astore {i : Nat} {x : Nat} (hd : decode M.2.1 pc = .ok (.astore i, 2)) (hn : pc + 2 = n) (hs : ax_sl lo i (.ref x) = some lo') (hp : ax_pv lo i = true) (hL : decide (i < M.2.2.1) = true)
    (k : WP Γ M rm n lo' st h Q) : WP Γ M rm pc lo (.ref x :: st) h Q := by
  subst hn
  exact wp_goL (fun p e R s m args below meth c H locs cells slots Z ls hx hb hlo w => lv_astore hx hb hd hlo (of_decide_eq_true hL) rfl (fun ls' hl' => w ls' (ax_lput hs hp hl'))) k
theorem ax_place : ∀ (l : List (Option Value)) (k : Nat) (q : Nat × Value), q ∈ ax_lo k l → ∃ j : Nat, (ax_lo k l)[j]? = some q := fun l k q hq => List.getElem?_of_mem hq
theorem wp_iinc {i : Nat} {d : Int} {x v : Int32} (hd : decode M.2.1 pc = .ok (.iinc i d, 3)) (hn : pc + 3 = n) (hl : ax_gl lo i = some (.int x)) (hv : x + Int32.ofInt d = v) (hs : ax_sl lo i (.int v) = some lo') (hp : ax_pv lo i = true) (hL : decide (i < M.2.2.1) = true)
    (k : WP Γ M rm n lo' st h Q) : WP Γ M rm pc lo st h Q := by
  subst hn
  obtain ⟨j, hj⟩ := ax_place lo 0 (i, .int x) ((ax_lo_mem lo 0 (i, .int x)).mpr ⟨Nat.zero_le _, hl⟩)
  exact wp_goL (fun p e R s m args below meth c H locs cells slots Z ls hx hb hlo w => lv_iinc hx hb hd hlo hj hv (of_decide_eq_true hL) rfl (fun ls' hl' => w ls' (ax_lput hs hp hl'))) k
theorem wp_iadd {x y : Int32} (hd : decode M.2.1 pc = .ok (.iadd, 1)) (hn : pc + 1 = n) 
    (k : WP Γ M rm n lo (.int (x + y) :: st) h Q) : WP Γ M rm pc lo (.int y :: .int x :: st) h Q := by
  subst hn
  exact wp_go (fun p e R s m args below meth c H locs cells slots Z ls hx hb hg w => lv_iadd hx hb hd w) k
theorem wp_isub {x y : Int32} (hd : decode M.2.1 pc = .ok (.isub, 1)) (hn : pc + 1 = n) 
    (k : WP Γ M rm n lo (.int (x - y) :: st) h Q) : WP Γ M rm pc lo (.int y :: .int x :: st) h Q := by
  subst hn
  exact wp_go (fun p e R s m args below meth c H locs cells slots Z ls hx hb hg w => lv_isub hx hb hd w) k
theorem wp_imul {x y : Int32} (hd : decode M.2.1 pc = .ok (.imul, 1)) (hn : pc + 1 = n) 
    (k : WP Γ M rm n lo (.int (x * y) :: st) h Q) : WP Γ M rm pc lo (.int y :: .int x :: st) h Q := by
  subst hn
  exact wp_go (fun p e R s m args below meth c H locs cells slots Z ls hx hb hg w => lv_imul hx hb hd w) k
theorem wp_iand {x y : Int32} (hd : decode M.2.1 pc = .ok (.iand, 1)) (hn : pc + 1 = n) 
    (k : WP Γ M rm n lo (.int (x &&& y) :: st) h Q) : WP Γ M rm pc lo (.int y :: .int x :: st) h Q := by
  subst hn
  exact wp_go (fun p e R s m args below meth c H locs cells slots Z ls hx hb hg w => lv_iand hx hb hd w) k
theorem wp_ior {x y : Int32} (hd : decode M.2.1 pc = .ok (.ior, 1)) (hn : pc + 1 = n) 
    (k : WP Γ M rm n lo (.int (x ||| y) :: st) h Q) : WP Γ M rm pc lo (.int y :: .int x :: st) h Q := by
  subst hn
  exact wp_go (fun p e R s m args below meth c H locs cells slots Z ls hx hb hg w => lv_ior hx hb hd w) k
theorem wp_ishl {x y : Int32} (hd : decode M.2.1 pc = .ok (.ishl, 1)) (hn : pc + 1 = n) 
    (k : WP Γ M rm n lo (.int (x <<< (y &&& 31)) :: st) h Q) : WP Γ M rm pc lo (.int y :: .int x :: st) h Q := by
  subst hn
  exact wp_go (fun p e R s m args below meth c H locs cells slots Z ls hx hb hg w => lv_ishl hx hb hd w) k
theorem wp_ishr {x y : Int32} (hd : decode M.2.1 pc = .ok (.ishr, 1)) (hn : pc + 1 = n) 
    (k : WP Γ M rm n lo (.int (x >>> (y &&& 31)) :: st) h Q) : WP Γ M rm pc lo (.int y :: .int x :: st) h Q := by
  subst hn
  exact wp_go (fun p e R s m args below meth c H locs cells slots Z ls hx hb hg w => lv_ishr hx hb hd w) k
theorem wp_idiv {x y : Int32}  (hd : decode M.2.1 pc = .ok (.idiv, 1)) (hn : pc + 1 = n) (hne : ¬ y = 0)
    (k : WP Γ M rm n lo (.int (x / y) :: st) h Q) : WP Γ M rm pc lo (.int y :: .int x :: st) h Q := by
  subst hn
  exact wp_go (fun p e R s m args below meth c H locs cells slots Z ls hx hb hg w => lv_idiv hx hb hd hne w) k
theorem wp_irem {x y : Int32}  (hd : decode M.2.1 pc = .ok (.irem, 1)) (hn : pc + 1 = n) (hne : ¬ y = 0)
    (k : WP Γ M rm n lo (.int (x - x / y * y) :: st) h Q) : WP Γ M rm pc lo (.int y :: .int x :: st) h Q := by
  subst hn
  exact wp_go (fun p e R s m args below meth c H locs cells slots Z ls hx hb hg w => lv_irem hx hb hd hne w) k
theorem wp_ineg {x : Int32} (hd : decode M.2.1 pc = .ok (.ineg, 1)) (hn : pc + 1 = n) 
    (k : WP Γ M rm n lo (.int (-x) :: st) h Q) : WP Γ M rm pc lo (.int x :: st) h Q := by
  subst hn
  exact wp_go (fun p e R s m args below meth c H locs cells slots Z ls hx hb hg w => lv_ineg hx hb hd w) k
theorem wp_land {x y : Int64} (hd : decode M.2.1 pc = .ok (.land, 1)) (hn : pc + 1 = n) 
    (k : WP Γ M rm n lo (.long (x &&& y) :: st) h Q) : WP Γ M rm pc lo (.long y :: .long x :: st) h Q := by
  subst hn
  exact wp_go (fun p e R s m args below meth c H locs cells slots Z ls hx hb hg w => lv_land hx hb hd w) k
theorem wp_lor {x y : Int64} (hd : decode M.2.1 pc = .ok (.lor, 1)) (hn : pc + 1 = n) 
    (k : WP Γ M rm n lo (.long (x ||| y) :: st) h Q) : WP Γ M rm pc lo (.long y :: .long x :: st) h Q := by
  subst hn
  exact wp_go (fun p e R s m args below meth c H locs cells slots Z ls hx hb hg w => lv_lor hx hb hd w) k
theorem wp_lshl {x : Int64} {y : Int32} (hd : decode M.2.1 pc = .ok (.lshl, 1)) (hn : pc + 1 = n) 
    (k : WP Γ M rm n lo (.long (x <<< (y.toInt64 &&& 63)) :: st) h Q) : WP Γ M rm pc lo (.int y :: .long x :: st) h Q := by
  subst hn
  exact wp_go (fun p e R s m args below meth c H locs cells slots Z ls hx hb hg w => lv_lshl hx hb hd rfl w) k
theorem wp_lushr {x : Int64} {y : Int32} (hd : decode M.2.1 pc = .ok (.lushr, 1)) (hn : pc + 1 = n) 
    (k : WP Γ M rm n lo (.long (x.toUInt64 >>> (y.toInt64.toUInt64 &&& Int64.toUInt64 63)).toInt64 :: st) h Q) : WP Γ M rm pc lo (.int y :: .long x :: st) h Q := by
  subst hn
  exact wp_go (fun p e R s m args below meth c H locs cells slots Z ls hx hb hg w => lv_lushr hx hb hd rfl w) k
theorem wp_lcmp {x y : Int64} (hd : decode M.2.1 pc = .ok (.lcmp, 1)) (hn : pc + 1 = n) 
    (k : WP Γ M rm n lo (.int (lg_cmp x y) :: st) h Q) : WP Γ M rm pc lo (.long y :: .long x :: st) h Q := by
  subst hn
  exact wp_go (fun p e R s m args below meth c H locs cells slots Z ls hx hb hg w => W.lcmp hx hb hd w) k
theorem wp_i2l {x : Int32} (hd : decode M.2.1 pc = .ok (.i2l, 1)) (hn : pc + 1 = n) 
    (k : WP Γ M rm n lo (.long x.toInt64 :: st) h Q) : WP Γ M rm pc lo (.int x :: st) h Q := by
  subst hn
  exact wp_go (fun p e R s m args below meth c H locs cells slots Z ls hx hb hg w => lv_i2l hx hb hd rfl w) k
theorem wp_i2b {x : Int32} (hd : decode M.2.1 pc = .ok (.i2b, 1)) (hn : pc + 1 = n) 
    (k : WP Γ M rm n lo (.int x.toInt8.toInt32 :: st) h Q) : WP Γ M rm pc lo (.int x :: st) h Q := by
  subst hn
  exact wp_go (fun p e R s m args below meth c H locs cells slots Z ls hx hb hg w => lv_i2b hx hb hd rfl w) k
theorem wp_i2c {x v : Int32}  (hd : decode M.2.1 pc = .ok (.i2c, 1)) (hn : pc + 1 = n) (hv : (x.toUInt32 % 65536).toInt32 = v)
    (k : WP Γ M rm n lo (.int v :: st) h Q) : WP Γ M rm pc lo (.int x :: st) h Q := by
  subst hn
  exact wp_go (fun p e R s m args below meth c H locs cells slots Z ls hx hb hg w => lv_i2c hx hb hd hv w) k
theorem wp_i2f {x : Int32} (hd : decode M.2.1 pc = .ok (.i2f, 1)) (hn : pc + 1 = n) 
    (k : WP Γ M rm n lo (.float (FP.i2f x) :: st) h Q) : WP Γ M rm pc lo (.int x :: st) h Q := by
  subst hn
  exact wp_go (fun p e R s m args below meth c H locs cells slots Z ls hx hb hg w => lv_i2f hx hb hd w) k
theorem wp_fadd {x y : UInt32}  (hd : decode M.2.1 pc = .ok (.fadd, 1)) (hn : pc + 1 = n) (hne : vf_n32 (FP.fadd x y))
    (k : WP Γ M rm n lo (.float (FP.fadd x y) :: st) h Q) : WP Γ M rm pc lo (.float y :: .float x :: st) h Q := by
  subst hn
  exact wp_go (fun p e R s m args below meth c H locs cells slots Z ls hx hb hg w => lv_fadd hx hb hd hne w) k
theorem wp_fsub {x y : UInt32}  (hd : decode M.2.1 pc = .ok (.fsub, 1)) (hn : pc + 1 = n) (hne : vf_n32 (FP.fsub x y))
    (k : WP Γ M rm n lo (.float (FP.fsub x y) :: st) h Q) : WP Γ M rm pc lo (.float y :: .float x :: st) h Q := by
  subst hn
  exact wp_go (fun p e R s m args below meth c H locs cells slots Z ls hx hb hg w => lv_fsub hx hb hd hne w) k
theorem wp_fmul {x y : UInt32}  (hd : decode M.2.1 pc = .ok (.fmul, 1)) (hn : pc + 1 = n) (hne : vf_n32 (FP.fmul x y))
    (k : WP Γ M rm n lo (.float (FP.fmul x y) :: st) h Q) : WP Γ M rm pc lo (.float y :: .float x :: st) h Q := by
  subst hn
  exact wp_go (fun p e R s m args below meth c H locs cells slots Z ls hx hb hg w => lv_fmul hx hb hd hne w) k
theorem wp_fdiv {x y : UInt32}  (hd : decode M.2.1 pc = .ok (.fdiv, 1)) (hn : pc + 1 = n) (hne : vf_n32 (FP.fdiv x y))
    (k : WP Γ M rm n lo (.float (FP.fdiv x y) :: st) h Q) : WP Γ M rm pc lo (.float y :: .float x :: st) h Q := by
  subst hn
  exact wp_go (fun p e R s m args below meth c H locs cells slots Z ls hx hb hg w => lv_fdiv hx hb hd hne w) k
theorem wp_fcmp {x y : UInt32} {op : CmpOp} (hd : decode M.2.1 pc = .ok (.fcmp op, 1)) (hn : pc + 1 = n) 
    (k : WP Γ M rm n lo (.int (Op.cmpValue (FP.fcmp x y) op) :: st) h Q) : WP Γ M rm pc lo (.float y :: .float x :: st) h Q := by
  subst hn
  exact wp_go (fun p e R s m args below meth c H locs cells slots Z ls hx hb hg w => lv_fcmp hx hb hd w) k
theorem wp_dcmp {x y : UInt64} {op : CmpOp} (hd : decode M.2.1 pc = .ok (.dcmp op, 1)) (hn : pc + 1 = n) 
    (k : WP Γ M rm n lo (.int (Op.cmpValue (FP.dcmp x y) op) :: st) h Q) : WP Γ M rm pc lo (.double y :: .double x :: st) h Q := by
  subst hn
  exact wp_go (fun p e R s m args below meth c H locs cells slots Z ls hx hb hg w => lv_dcmp hx hb hd w) k
theorem wp_f2d {x : UInt32}  (hd : decode M.2.1 pc = .ok (.f2d, 1)) (hn : pc + 1 = n) (hne : vf_n64 (FP.f2d x))
    (k : WP Γ M rm n lo (.double (FP.f2d x) :: st) h Q) : WP Γ M rm pc lo (.float x :: st) h Q := by
  subst hn
  exact wp_go (fun p e R s m args below meth c H locs cells slots Z ls hx hb hg w => lv_f2d hx hb hd hne w) k
theorem wp_dup {v : Value}  (hd : decode M.2.1 pc = .ok (.dup, 1)) (hn : pc + 1 = n) (hv : v.category = 1)
    (k : WP Γ M rm n lo (v :: v :: st) h Q) : WP Γ M rm pc lo (v :: st) h Q := by
  subst hn
  exact wp_go (fun p e R s m args below meth c H locs cells slots Z ls hx hb hg w => lv_dup hx hb hd hv w) k
theorem wp_pop {v : Value}  (hd : decode M.2.1 pc = .ok (.pop, 1)) (hn : pc + 1 = n) (hv : v.category = 1)
    (k : WP Γ M rm n lo (st) h Q) : WP Γ M rm pc lo (v :: st) h Q := by
  subst hn
  exact wp_go (fun p e R s m args below meth c H locs cells slots Z ls hx hb hg w => lv_pop hx hb hd hv w) k
theorem wp_dup_x1 {v u : Value}  (hd : decode M.2.1 pc = .ok (.dup_x1, 1)) (hn : pc + 1 = n) (hv : v.category = 1) (hu : u.category = 1)
    (k : WP Γ M rm n lo (v :: u :: v :: st) h Q) : WP Γ M rm pc lo (v :: u :: st) h Q := by
  subst hn
  exact wp_go (fun p e R s m args below meth c H locs cells slots Z ls hx hb hg w => lv_dup_x1 hx hb hd hv hu w) k
theorem wp_dup2 {v u : Value}  (hd : decode M.2.1 pc = .ok (.dup2, 1)) (hn : pc + 1 = n) (hv : v.category = 1) (hu : u.category = 1)
    (k : WP Γ M rm n lo (v :: u :: v :: u :: st) h Q) : WP Γ M rm pc lo (v :: u :: st) h Q := by
  subst hn
  exact wp_go (fun p e R s m args below meth c H locs cells slots Z ls hx hb hg w => lv_dup2_11 hx hb hd hv hu w) k
theorem wp_null  (hd : decode M.2.1 pc = .ok (.aconst_null, 1)) (hn : pc + 1 = n) 
    (k : WP Γ M rm n lo (.null :: st) h Q) : WP Γ M rm pc lo (st) h Q := by
  subst hn
  exact wp_go (fun p e R s m args below meth c H locs cells slots Z ls hx hb hg w => lv_null hx hb hd w) k
theorem wp_goto {off : Int} (hd : decode M.2.1 pc = .ok (.goto off, 3)) (ht : (pc : Int) + off = (t : Int)) (k : WP Γ M rm t lo st h Q) : WP Γ M rm pc lo st h Q :=
  wp_go (fun p e R s m args below meth c H locs cells slots Z ls hx hb hg w => lv_goto hx hb hd ht w) k
theorem wp_if_eq {x : Int32} {off : Int} (hd : decode M.2.1 pc = .ok (.ifCond .eq off, 3)) (ht : (pc : Int) + off = (t : Int)) (hn : pc + 3 = n) (kt : x = 0 → WP Γ M rm t lo st h Q) (kf : ¬ x = 0 → WP Γ M rm n lo st h Q) : WP Γ M rm pc lo (.int x :: st) h Q := by
  subst hn
  intro p e R s m args below meth c C hf hl H locs cells slots ls mc ms h1 h2 h3 h4 hlo hR hS
  exact lv_if_eq C.1 C.2.1 hd ht (fun q => kt q p e R s m args below meth c C hf hl H locs cells slots ls mc ms h1 h2 h3 h4 hlo hR hS) (fun q => kf q p e R s m args below meth c C hf hl H locs cells slots ls mc ms h1 h2 h3 h4 hlo hR hS)
theorem wp_icmp_eq {x y : Int32} {off : Int} (hd : decode M.2.1 pc = .ok (.if_icmp .eq off, 3)) (ht : (pc : Int) + off = (t : Int)) (hn : pc + 3 = n) (kt : x = y → WP Γ M rm t lo st h Q) (kf : ¬ x = y → WP Γ M rm n lo st h Q) : WP Γ M rm pc lo (.int y :: .int x :: st) h Q := by
  subst hn
  intro p e R s m args below meth c C hf hl H locs cells slots ls mc ms h1 h2 h3 h4 hlo hR hS
  exact lv_icmp_eq C.1 C.2.1 hd ht (fun q => kt q p e R s m args below meth c C hf hl H locs cells slots ls mc ms h1 h2 h3 h4 hlo hR hS) (fun q => kf q p e R s m args below meth c C hf hl H locs cells slots ls mc ms h1 h2 h3 h4 hlo hR hS)
theorem wp_if_ne {x : Int32} {off : Int} (hd : decode M.2.1 pc = .ok (.ifCond .ne off, 3)) (ht : (pc : Int) + off = (t : Int)) (hn : pc + 3 = n) (kt : ¬ x = 0 → WP Γ M rm t lo st h Q) (kf : x = 0 → WP Γ M rm n lo st h Q) : WP Γ M rm pc lo (.int x :: st) h Q := by
  subst hn
  intro p e R s m args below meth c C hf hl H locs cells slots ls mc ms h1 h2 h3 h4 hlo hR hS
  exact lv_if_ne C.1 C.2.1 hd ht (fun q => kt q p e R s m args below meth c C hf hl H locs cells slots ls mc ms h1 h2 h3 h4 hlo hR hS) (fun q => kf q p e R s m args below meth c C hf hl H locs cells slots ls mc ms h1 h2 h3 h4 hlo hR hS)
theorem wp_icmp_ne {x y : Int32} {off : Int} (hd : decode M.2.1 pc = .ok (.if_icmp .ne off, 3)) (ht : (pc : Int) + off = (t : Int)) (hn : pc + 3 = n) (kt : ¬ x = y → WP Γ M rm t lo st h Q) (kf : x = y → WP Γ M rm n lo st h Q) : WP Γ M rm pc lo (.int y :: .int x :: st) h Q := by
  subst hn
  intro p e R s m args below meth c C hf hl H locs cells slots ls mc ms h1 h2 h3 h4 hlo hR hS
  exact lv_icmp_ne C.1 C.2.1 hd ht (fun q => kt q p e R s m args below meth c C hf hl H locs cells slots ls mc ms h1 h2 h3 h4 hlo hR hS) (fun q => kf q p e R s m args below meth c C hf hl H locs cells slots ls mc ms h1 h2 h3 h4 hlo hR hS)
theorem wp_if_lt {x : Int32} {off : Int} (hd : decode M.2.1 pc = .ok (.ifCond .lt off, 3)) (ht : (pc : Int) + off = (t : Int)) (hn : pc + 3 = n) (kt : x < 0 → WP Γ M rm t lo st h Q) (kf : ¬ x < 0 → WP Γ M rm n lo st h Q) : WP Γ M rm pc lo (.int x :: st) h Q := by
  subst hn
  intro p e R s m args below meth c C hf hl H locs cells slots ls mc ms h1 h2 h3 h4 hlo hR hS
  exact lv_if_lt C.1 C.2.1 hd ht (fun q => kt q p e R s m args below meth c C hf hl H locs cells slots ls mc ms h1 h2 h3 h4 hlo hR hS) (fun q => kf q p e R s m args below meth c C hf hl H locs cells slots ls mc ms h1 h2 h3 h4 hlo hR hS)
theorem wp_icmp_lt {x y : Int32} {off : Int} (hd : decode M.2.1 pc = .ok (.if_icmp .lt off, 3)) (ht : (pc : Int) + off = (t : Int)) (hn : pc + 3 = n) (kt : x < y → WP Γ M rm t lo st h Q) (kf : ¬ x < y → WP Γ M rm n lo st h Q) : WP Γ M rm pc lo (.int y :: .int x :: st) h Q := by
  subst hn
  intro p e R s m args below meth c C hf hl H locs cells slots ls mc ms h1 h2 h3 h4 hlo hR hS
  exact lv_icmp_lt C.1 C.2.1 hd ht (fun q => kt q p e R s m args below meth c C hf hl H locs cells slots ls mc ms h1 h2 h3 h4 hlo hR hS) (fun q => kf q p e R s m args below meth c C hf hl H locs cells slots ls mc ms h1 h2 h3 h4 hlo hR hS)
theorem wp_if_ge {x : Int32} {off : Int} (hd : decode M.2.1 pc = .ok (.ifCond .ge off, 3)) (ht : (pc : Int) + off = (t : Int)) (hn : pc + 3 = n) (kt : 0 ≤ x → WP Γ M rm t lo st h Q) (kf : ¬ 0 ≤ x → WP Γ M rm n lo st h Q) : WP Γ M rm pc lo (.int x :: st) h Q := by
  subst hn
  intro p e R s m args below meth c C hf hl H locs cells slots ls mc ms h1 h2 h3 h4 hlo hR hS
  exact lv_if_ge C.1 C.2.1 hd ht (fun q => kt q p e R s m args below meth c C hf hl H locs cells slots ls mc ms h1 h2 h3 h4 hlo hR hS) (fun q => kf q p e R s m args below meth c C hf hl H locs cells slots ls mc ms h1 h2 h3 h4 hlo hR hS)
theorem wp_icmp_ge {x y : Int32} {off : Int} (hd : decode M.2.1 pc = .ok (.if_icmp .ge off, 3)) (ht : (pc : Int) + off = (t : Int)) (hn : pc + 3 = n) (kt : y ≤ x → WP Γ M rm t lo st h Q) (kf : ¬ y ≤ x → WP Γ M rm n lo st h Q) : WP Γ M rm pc lo (.int y :: .int x :: st) h Q := by
  subst hn
  intro p e R s m args below meth c C hf hl H locs cells slots ls mc ms h1 h2 h3 h4 hlo hR hS
  exact lv_icmp_ge C.1 C.2.1 hd ht (fun q => kt q p e R s m args below meth c C hf hl H locs cells slots ls mc ms h1 h2 h3 h4 hlo hR hS) (fun q => kf q p e R s m args below meth c C hf hl H locs cells slots ls mc ms h1 h2 h3 h4 hlo hR hS)
theorem wp_if_gt {x : Int32} {off : Int} (hd : decode M.2.1 pc = .ok (.ifCond .gt off, 3)) (ht : (pc : Int) + off = (t : Int)) (hn : pc + 3 = n) (kt : 0 < x → WP Γ M rm t lo st h Q) (kf : ¬ 0 < x → WP Γ M rm n lo st h Q) : WP Γ M rm pc lo (.int x :: st) h Q := by
  subst hn
  intro p e R s m args below meth c C hf hl H locs cells slots ls mc ms h1 h2 h3 h4 hlo hR hS
  exact lv_if_gt C.1 C.2.1 hd ht (fun q => kt q p e R s m args below meth c C hf hl H locs cells slots ls mc ms h1 h2 h3 h4 hlo hR hS) (fun q => kf q p e R s m args below meth c C hf hl H locs cells slots ls mc ms h1 h2 h3 h4 hlo hR hS)
theorem wp_icmp_gt {x y : Int32} {off : Int} (hd : decode M.2.1 pc = .ok (.if_icmp .gt off, 3)) (ht : (pc : Int) + off = (t : Int)) (hn : pc + 3 = n) (kt : y < x → WP Γ M rm t lo st h Q) (kf : ¬ y < x → WP Γ M rm n lo st h Q) : WP Γ M rm pc lo (.int y :: .int x :: st) h Q := by
  subst hn
  intro p e R s m args below meth c C hf hl H locs cells slots ls mc ms h1 h2 h3 h4 hlo hR hS
  exact lv_icmp_gt C.1 C.2.1 hd ht (fun q => kt q p e R s m args below meth c C hf hl H locs cells slots ls mc ms h1 h2 h3 h4 hlo hR hS) (fun q => kf q p e R s m args below meth c C hf hl H locs cells slots ls mc ms h1 h2 h3 h4 hlo hR hS)
theorem wp_if_le {x : Int32} {off : Int} (hd : decode M.2.1 pc = .ok (.ifCond .le off, 3)) (ht : (pc : Int) + off = (t : Int)) (hn : pc + 3 = n) (kt : x ≤ 0 → WP Γ M rm t lo st h Q) (kf : ¬ x ≤ 0 → WP Γ M rm n lo st h Q) : WP Γ M rm pc lo (.int x :: st) h Q := by
  subst hn
  intro p e R s m args below meth c C hf hl H locs cells slots ls mc ms h1 h2 h3 h4 hlo hR hS
  exact lv_if_le C.1 C.2.1 hd ht (fun q => kt q p e R s m args below meth c C hf hl H locs cells slots ls mc ms h1 h2 h3 h4 hlo hR hS) (fun q => kf q p e R s m args below meth c C hf hl H locs cells slots ls mc ms h1 h2 h3 h4 hlo hR hS)
theorem wp_icmp_le {x y : Int32} {off : Int} (hd : decode M.2.1 pc = .ok (.if_icmp .le off, 3)) (ht : (pc : Int) + off = (t : Int)) (hn : pc + 3 = n) (kt : x ≤ y → WP Γ M rm t lo st h Q) (kf : ¬ x ≤ y → WP Γ M rm n lo st h Q) : WP Γ M rm pc lo (.int y :: .int x :: st) h Q := by
  subst hn
  intro p e R s m args below meth c C hf hl H locs cells slots ls mc ms h1 h2 h3 h4 hlo hR hS
  exact lv_icmp_le C.1 C.2.1 hd ht (fun q => kt q p e R s m args below meth c C hf hl H locs cells slots ls mc ms h1 h2 h3 h4 hlo hR hS) (fun q => kf q p e R s m args below meth c C hf hl H locs cells slots ls mc ms h1 h2 h3 h4 hlo hR hS)
theorem wp_ifnonnull {x : Nat} {off : Int} (hd : decode M.2.1 pc = .ok (.ifnonnull off, 3)) (ht : (pc : Int) + off = (t : Int)) (k : WP Γ M rm t lo st h Q) : WP Γ M rm pc lo (.ref x :: st) h Q :=
  wp_go (fun p e R s m args below meth c H locs cells slots Z ls hx hb hg w => lv_ifnonnull hx hb hd ht w) k
theorem wp_ifnonnullN {off : Int} (hd : decode M.2.1 pc = .ok (.ifnonnull off, 3)) (hn : pc + 3 = n) (k : WP Γ M rm n lo st h Q) : WP Γ M rm pc lo (.null :: st) h Q := by
  subst hn
  exact wp_go (fun p e R s m args below meth c H locs cells slots Z ls hx hb hg w => lv_ifnonnullN hx hb hd w) k
theorem wp_aload_nN {i : Fin 4} (hd : decode M.2.1 pc = .ok (.aload_n i, 1)) (hn : pc + 1 = n) (hl : ax_gl lo (i : Nat) = some .null) (k : WP Γ M rm n lo (.null :: st) h Q) : WP Γ M rm pc lo st h Q := by
  subst hn
  exact wp_go (fun p e R s m args below meth c H locs cells slots Z ls hx hb hg w => lv_aload_nN hx hb hd rfl (hg _ _ hl) w) k
theorem wp_astore_nN {i : Fin 4} (hd : decode M.2.1 pc = .ok (.astore_n i, 1)) (hn : pc + 1 = n) (hs : ax_sl lo (i : Nat) .null = some lo') (hp : ax_pv lo (i : Nat) = true) (hL : decide ((i : Nat) < M.2.2.1) = true) (k : WP Γ M rm n lo' st h Q) : WP Γ M rm pc lo (.null :: st) h Q := by
  subst hn
  exact wp_goL (fun p e R s m args below meth c H locs cells slots Z ls hx hb hlo w => lv_astore_nN hx hb hd rfl hlo (of_decide_eq_true hL) rfl (fun ls' hl' => w ls' (ax_lput hs hp hl'))) k
theorem wp_tableIn {dflt lo9 hi9 : Int} {offs : Array Int} {len : Nat} {x : Int32} {off : Int} (hd : decode M.2.1 pc = .ok (.tableswitch dflt lo9 hi9 offs, len)) (q1 : ¬ x.toInt < lo9) (q2 : ¬ hi9 < x.toInt) (ho : offs[(x.toInt - lo9).toNat]? = some off) (ht : (pc : Int) + off = (t : Int)) (k : WP Γ M rm t lo st h Q) : WP Γ M rm pc lo (.int x :: st) h Q :=
  wp_go (fun p e R s m args below meth c H locs cells slots Z ls hx hb hg w => lv_tableIn hx hb hd q1 q2 ho ht w) k
theorem wp_tableOut {dflt lo9 hi9 : Int} {offs : Array Int} {len : Nat} {x : Int32} (hd : decode M.2.1 pc = .ok (.tableswitch dflt lo9 hi9 offs, len)) (q : x.toInt < lo9 ∨ hi9 < x.toInt) (ht : (pc : Int) + dflt = (t : Int)) (k : WP Γ M rm t lo st h Q) : WP Γ M rm pc lo (.int x :: st) h Q :=
  wp_go (fun p e R s m args below meth c H locs cells slots Z ls hx hb hg w => lv_tableOut hx hb hd q ht w) k
theorem wp_lookup {dflt : Int} {ps : Array (Int × Int)} {len : Nat} {x : Int32} {off : Int} (hd : decode M.2.1 pc = .ok (.lookupswitch dflt ps, len)) (hp : (ps.toList.zip (ps.toList.drop 1)).all (fun (a, next) => a.1 < next.1) = true) (ho : Op.lookupswitch.offset ps.toList dflt x.toInt = off) (ht : (pc : Int) + off = (t : Int)) (k : WP Γ M rm t lo st h Q) : WP Γ M rm pc lo (.int x :: st) h Q :=
  wp_go (fun p e R s m args below meth c H locs cells slots Z ls hx hb hg w => lv_lookup hx hb hd hp ho ht w) k
/-! ends -/
theorem wp_ireturn {v : Int32} {ty : FieldType} (hd : decode M.2.1 pc = .ok (.ireturn, 1)) (hr : M.2.2.2.1 = some ty) (hv : narrow ty (.int v) = .int v) (kq : Q (.inl (some (.int v))) h) : WP Γ M rm pc lo [.int v] h Q := by
  intro p e R s m args below meth c C hf hl H locs cells slots ls mc ms h1 h2 h3 h4 hlo hR hS
  exact vx_ret (W.widen (k := mc) (n := ms) (by omega) (by omega) (W.zret (ty := ty) C.1 C.2.1 (C.2.2.2.2.2.1.trans hr) hv (fun t ht hW => ⟨_, h, rfl, kq, by rw [ht]; exact hR.moved hW.alike, by rw [ht]; exact hS.1⟩) hS.2.2 hd C.2.2.2.2.2.2.1))
theorem wp_return (hd : decode M.2.1 pc = .ok (.return_, 1)) (hr : M.2.2.2.1 = none) (kq : Q (.inl none) h) : WP Γ M rm pc lo [] h Q := by
  intro p e R s m args below meth c C hf hl H locs cells slots ls mc ms h1 h2 h3 h4 hlo hR hS
  exact vx_ret (W.widen (k := mc) (n := ms) (by omega) (by omega) (W.vret C.1 C.2.1 (C.2.2.2.2.2.1.trans hr) (fun t ht hW => ⟨_, h, rfl, kq, by rw [ht]; exact hR.moved hW.alike, by rw [ht]; exact hS.1⟩) hS.2.2 hd C.2.2.2.2.2.2.1))
theorem wp_freturn {v : UInt32} (hd : decode M.2.1 pc = .ok (.freturn, 1)) (hr : M.2.2.2.1 = some .float) (kq : Q (.inl (some (.float v))) h) : WP Γ M rm pc lo [.float v] h Q := by
  intro p e R s m args below meth c C hf hl H locs cells slots ls mc ms h1 h2 h3 h4 hlo hR hS
  exact vx_ret (W.widen (k := mc) (n := ms) (by omega) (by omega) (W.fret C.1 C.2.1 (C.2.2.2.2.2.1.trans hr) (fun t ht hW => ⟨_, h, rfl, kq, by rw [ht]; exact hR.moved hW.alike, by rw [ht]; exact hS.1⟩) hS.2.2 hd C.2.2.2.2.2.2.1))
/-- fewer known locals -/
theorem wp_lo (hl9 : ∀ (k : Nat) (v : Value), ax_gl lo' k = some v → ax_gl lo k = some v) (k : WP Γ M rm pc lo' st h Q) : WP Γ M rm pc lo st h Q := by
  intro p e R s m args below meth c C hf hl H locs cells slots ls mc ms h1 h2 h3 h4 hlo hR hS
  refine k p e R s m args below meth c C hf hl H locs cells slots ls mc ms h1 h2 h3 h4 ⟨hlo.1, hlo.2.1, fun q hq => ?_⟩ hR hS
  obtain ⟨-, g2⟩ := (ax_lo_mem lo' 0 q).mp hq
  exact ax_lget hlo (hl9 _ _ g2)
/-- more room -/
theorem wp_rm {rm' : RM} (q1 : rm'.1 ≤ rm.1) (q2 : rm'.2.1 ≤ rm.2.1) (q3 : rm'.2.2.1 ≤ rm.2.2.1) (q4 : rm'.2.2.2 ≤ rm.2.2.2) (k : WP Γ M rm' pc lo st h Q) : WP Γ M rm pc lo st h Q := by
  intro p e R s m args below meth c C hf hl H locs cells slots ls mc ms h1 h2 h3 h4 hlo hR hS
  exact k p e R s m args below meth c C (by omega) (by omega) H locs cells slots ls mc ms (by omega) (by omega) (by omega) (by omega) hlo hR hS
/-- a weaker end -/
theorem wp_mono {Q' : PO} (hq : ∀ (o : OU) (h' : AH), Q' o h' → Q o h') (k : WP Γ M rm pc lo st h Q') : WP Γ M rm pc lo st h Q := by
  intro p e R s m args below meth c C hf hl H locs cells slots ls mc ms h1 h2 h3 h4 hlo hR hS T hT X
  obtain ⟨t, a1, o, b1, b2, b3⟩ := k p e R s m args below meth c C hf hl H locs cells slots ls mc ms h1 h2 h3 h4 hlo hR hS T hT X
  refine ⟨t, a1, o, b1, b2, ?_⟩
  rcases b3 with ⟨⟨v, h', e1, e2, e3⟩, e4⟩ | ⟨q, e1, E, ce, L, ⟨h', e2, e3⟩, e4⟩
  · exact Or.inl ⟨⟨v, h', e1, hq _ _ e2, e3⟩, e4⟩
  · exact Or.inr ⟨q, e1, E, ce, L, ⟨h', hq _ _ e2, e3⟩, e4⟩
end
