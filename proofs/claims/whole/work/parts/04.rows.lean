section ZR
variable {X : zX} {R : Room} {M : zM} {Q : zQT} {fr : Bool} {k j : Nat} {h : zH} {n pc : Nat} {lv : List (Nat × Value)} {st : List Value}
theorem z_iconst {i : Int} {v : Int32} (hd : decode M.2.1 pc = .ok ((.iconst i), 1)) (hv : Int32.ofInt i = v) (kk : zJ X R M Q fr k j h n (pc + 1) lv (.int v :: st)) : zJ X R M Q fr k j h n pc lv (st) := by
  intro p e s m args below meth c A H locs ls hB hDD hL
  exact lv_iconst hB.1 hB.2.1 hd hv (kk p e s m args below meth c A H locs ls hB hDD hL)
theorem z_bipush {i : Int} {v : Int32} (hd : decode M.2.1 pc = .ok ((.bipush i), 2)) (hv : (Int8.ofInt i).toInt32 = v) (kk : zJ X R M Q fr k j h n (pc + 2) lv (.int v :: st)) : zJ X R M Q fr k j h n pc lv (st) := by
  intro p e s m args below meth c A H locs ls hB hDD hL
  exact lv_bipush hB.1 hB.2.1 hd hv (kk p e s m args below meth c A H locs ls hB hDD hL)
theorem z_sipush {i : Int} {v : Int32} (hd : decode M.2.1 pc = .ok ((.sipush i), 3)) (hv : (Int16.ofInt i).toInt32 = v) (kk : zJ X R M Q fr k j h n (pc + 3) lv (.int v :: st)) : zJ X R M Q fr k j h n pc lv (st) := by
  intro p e s m args below meth c A H locs ls hB hDD hL
  exact lv_sipush hB.1 hB.2.1 hd hv (kk p e s m args below meth c A H locs ls hB hDD hL)
theorem z_lconst {i : Fin 2} {v : Int64} (hd : decode M.2.1 pc = .ok ((.lconst i), 1)) (hv : Int64.ofNat (i : Nat) = v) (kk : zJ X R M Q fr k j h n (pc + 1) lv (.long v :: st)) : zJ X R M Q fr k j h n pc lv (st) := by
  intro p e s m args below meth c A H locs ls hB hDD hL
  exact lv_lconst hB.1 hB.2.1 hd hv (kk p e s m args below meth c A H locs ls hB hDD hL)
theorem z_iload_n {i : Fin 4} {x : Int32} (hd : decode M.2.1 pc = .ok (.iload_n i, 1)) (hl : lv.lookup (i : Nat) = some (.int x)) (kk : zJ X R M Q fr k j h n (pc + 1) lv (.int x :: st)) : zJ X R M Q fr k j h n pc lv st := by
  intro p e s m args below meth c A H locs ls hB hDD hL
  exact lv_iload_n hB.1 hB.2.1 hd rfl (zl_at hL hl) (kk p e s m args below meth c A H locs ls hB hDD hL)
theorem z_iload {i : Nat} {x : Int32} (hd : decode M.2.1 pc = .ok (.iload i, 2)) (hl : lv.lookup i = some (.int x)) (kk : zJ X R M Q fr k j h n (pc + 2) lv (.int x :: st)) : zJ X R M Q fr k j h n pc lv st := by
  intro p e s m args below meth c A H locs ls hB hDD hL
  exact lv_iload hB.1 hB.2.1 hd (zl_at hL hl) (kk p e s m args below meth c A H locs ls hB hDD hL)
theorem z_istore_n {i : Fin 4} {x : Int32} {lv' : List (Nat × Value)} (hd : decode M.2.1 pc = .ok (.istore_n i, 1)) (hi : (i : Nat) < M.2.2.1) (hl : zst i (.int x) lv = lv') (kk : zJ X R M Q fr k j h n (pc + 1) lv' st) : zJ X R M Q fr k j h n pc lv (.int x :: st) := by
  intro p e s m args below meth c A H locs ls hB hDD hL
  subst hl
  exact lv_istore_n hB.1 hB.2.1 hd rfl hL hi rfl (fun ls' hL' => kk p e s m args below meth c A H locs ls' hB hDD (zl_st1 (v := .int x) hL'))
theorem z_istore {i : Nat} {x : Int32} {lv' : List (Nat × Value)} (hd : decode M.2.1 pc = .ok (.istore i, 2)) (hi : (i : Nat) < M.2.2.1) (hl : zst i (.int x) lv = lv') (kk : zJ X R M Q fr k j h n (pc + 2) lv' st) : zJ X R M Q fr k j h n pc lv (.int x :: st) := by
  intro p e s m args below meth c A H locs ls hB hDD hL
  subst hl
  exact lv_istore hB.1 hB.2.1 hd hL hi rfl (fun ls' hL' => kk p e s m args below meth c A H locs ls' hB hDD (zl_st1 (v := .int x) hL'))
theorem z_lload_n {i : Fin 4} {x : Int64} (hd : decode M.2.1 pc = .ok (.lload_n i, 1)) (hl : lv.lookup (i : Nat) = some (.long x)) (kk : zJ X R M Q fr k j h n (pc + 1) lv (.long x :: st)) : zJ X R M Q fr k j h n pc lv st := by
  intro p e s m args below meth c A H locs ls hB hDD hL
  exact lv_lload_n hB.1 hB.2.1 hd rfl (zl_at hL hl) (kk p e s m args below meth c A H locs ls hB hDD hL)
theorem z_lload {i : Nat} {x : Int64} (hd : decode M.2.1 pc = .ok (.lload i, 2)) (hl : lv.lookup i = some (.long x)) (kk : zJ X R M Q fr k j h n (pc + 2) lv (.long x :: st)) : zJ X R M Q fr k j h n pc lv st := by
  intro p e s m args below meth c A H locs ls hB hDD hL
  exact lv_lload hB.1 hB.2.1 hd (zl_at hL hl) (kk p e s m args below meth c A H locs ls hB hDD hL)
theorem z_lstore_n {i : Fin 4} {x : Int64} {lv' : List (Nat × Value)} (hd : decode M.2.1 pc = .ok (.lstore_n i, 1)) (hi : (i : Nat) + 1 < M.2.2.1) (hl : zst i (.long x) lv = lv') (kk : zJ X R M Q fr k j h n (pc + 1) lv' st) : zJ X R M Q fr k j h n pc lv (.long x :: st) := by
  intro p e s m args below meth c A H locs ls hB hDD hL
  subst hl
  exact lv_lstore_n hB.1 hB.2.1 hd rfl hL hi rfl (fun ls' hL' => kk p e s m args below meth c A H locs ls' hB hDD (zl_st2 (v := .long x) rfl hL'))
theorem z_lstore {i : Nat} {x : Int64} {lv' : List (Nat × Value)} (hd : decode M.2.1 pc = .ok (.lstore i, 2)) (hi : (i : Nat) + 1 < M.2.2.1) (hl : zst i (.long x) lv = lv') (kk : zJ X R M Q fr k j h n (pc + 2) lv' st) : zJ X R M Q fr k j h n pc lv (.long x :: st) := by
  intro p e s m args below meth c A H locs ls hB hDD hL
  subst hl
  exact lv_lstore hB.1 hB.2.1 hd hL hi rfl (fun ls' hL' => kk p e s m args below meth c A H locs ls' hB hDD (zl_st2 (v := .long x) rfl hL'))
theorem z_aload_n {i : Fin 4} {x : Nat} (hd : decode M.2.1 pc = .ok (.aload_n i, 1)) (hl : lv.lookup (i : Nat) = some (.ref x)) (kk : zJ X R M Q fr k j h n (pc + 1) lv (.ref x :: st)) : zJ X R M Q fr k j h n pc lv st := by
  intro p e s m args below meth c A H locs ls hB hDD hL
  exact lv_aload_n hB.1 hB.2.1 hd rfl (zl_at hL hl) (kk p e s m args below meth c A H locs ls hB hDD hL)
theorem z_aload {i : Nat} {x : Nat} (hd : decode M.2.1 pc = .ok (.aload i, 2)) (hl : lv.lookup i = some (.ref x)) (kk : zJ X R M Q fr k j h n (pc + 2) lv (.ref x :: st)) : zJ X R M Q fr k j h n pc lv st := by
  intro p e s m args below meth c A H locs ls hB hDD hL
  exact lv_aload hB.1 hB.2.1 hd (zl_at hL hl) (kk p e s m args below meth c A H locs ls hB hDD hL)
theorem z_astore_n {i : Fin 4} {x : Nat} {lv' : List (Nat × Value)} (hd : decode M.2.1 pc = .ok (.astore_n i, 1)) (hi : (i : Nat) < M.2.2.1) (hl : zst i (.ref x) lv = lv') (kk : zJ X R M Q fr k j h n (pc + 1) lv' st) : zJ X R M Q fr k j h n pc lv (.ref x :: st) := by
  intro p e s m args below meth c A H locs ls hB hDD hL
  subst hl
  exact lv_astore_n hB.1 hB.2.1 hd rfl hL hi rfl (fun ls' hL' => kk p e s m args below meth c A H locs ls' hB hDD (zl_st1 (v := .ref x) hL'))
theorem z_astore {i : Nat} {x : Nat} {lv' : List (Nat × Value)} (hd : decode M.2.1 pc = .ok (.astore i, 2)) (hi : (i : Nat) < M.2.2.1) (hl : zst i (.ref x) lv = lv') (kk : zJ X R M Q fr k j h n (pc + 2) lv' st) : zJ X R M Q fr k j h n pc lv (.ref x :: st) := by
  intro p e s m args below meth c A H locs ls hB hDD hL
  subst hl
  exact lv_astore hB.1 hB.2.1 hd hL hi rfl (fun ls' hL' => kk p e s m args below meth c A H locs ls' hB hDD (zl_st1 (v := .ref x) hL'))
theorem z_iinc {i : Nat} {z : Int} {x v : Int32} {lv' : List (Nat × Value)} (hd : decode M.2.1 pc = .ok (.iinc i z, 3)) (hi : i < M.2.2.1) (hx : lv.lookup i = some (.int x)) (hv : x + Int32.ofInt z = v) (hl : zst i (.int v) lv = lv') (kk : zJ X R M Q fr k j h n (pc + 3) lv' st) : zJ X R M Q fr k j h n pc lv st := by
  intro p e s m args below meth c A H locs ls hB hDD hL
  subst hl
  obtain ⟨k0, hk0⟩ := zl_ix hx
  exact lv_iinc hB.1 hB.2.1 hd hL (k := k0) hk0 hv hi rfl (fun ls' hL' => kk p e s m args below meth c A H locs ls' hB hDD (zl_st1 (v := .int v) hL'))
theorem z_iadd {x y : Int32} (hd : decode M.2.1 pc = .ok (.iadd, 1)) (kk : zJ X R M Q fr k j h n (pc + 1) lv (.int (x + y) :: st)) : zJ X R M Q fr k j h n pc lv (.int y :: .int x :: st) := by
  intro p e s m args below meth c A H locs ls hB hDD hL
  exact lv_iadd hB.1 hB.2.1 hd  (kk p e s m args below meth c A H locs ls hB hDD hL)
theorem z_isub {x y : Int32} (hd : decode M.2.1 pc = .ok (.isub, 1)) (kk : zJ X R M Q fr k j h n (pc + 1) lv (.int (x - y) :: st)) : zJ X R M Q fr k j h n pc lv (.int y :: .int x :: st) := by
  intro p e s m args below meth c A H locs ls hB hDD hL
  exact lv_isub hB.1 hB.2.1 hd  (kk p e s m args below meth c A H locs ls hB hDD hL)
theorem z_imul {x y : Int32} (hd : decode M.2.1 pc = .ok (.imul, 1)) (kk : zJ X R M Q fr k j h n (pc + 1) lv (.int (x * y) :: st)) : zJ X R M Q fr k j h n pc lv (.int y :: .int x :: st) := by
  intro p e s m args below meth c A H locs ls hB hDD hL
  exact lv_imul hB.1 hB.2.1 hd  (kk p e s m args below meth c A H locs ls hB hDD hL)
theorem z_iand {x y : Int32} (hd : decode M.2.1 pc = .ok (.iand, 1)) (kk : zJ X R M Q fr k j h n (pc + 1) lv (.int (x &&& y) :: st)) : zJ X R M Q fr k j h n pc lv (.int y :: .int x :: st) := by
  intro p e s m args below meth c A H locs ls hB hDD hL
  exact lv_iand hB.1 hB.2.1 hd  (kk p e s m args below meth c A H locs ls hB hDD hL)
theorem z_ladd {x y : Int64} (hd : decode M.2.1 pc = .ok (.ladd, 1)) (kk : zJ X R M Q fr k j h n (pc + 1) lv (.long (x + y) :: st)) : zJ X R M Q fr k j h n pc lv (.long y :: .long x :: st) := by
  intro p e s m args below meth c A H locs ls hB hDD hL
  exact lv_ladd hB.1 hB.2.1 hd  (kk p e s m args below meth c A H locs ls hB hDD hL)
theorem z_land {x y : Int64} (hd : decode M.2.1 pc = .ok (.land, 1)) (kk : zJ X R M Q fr k j h n (pc + 1) lv (.long (x &&& y) :: st)) : zJ X R M Q fr k j h n pc lv (.long y :: .long x :: st) := by
  intro p e s m args below meth c A H locs ls hB hDD hL
  exact lv_land hB.1 hB.2.1 hd  (kk p e s m args below meth c A H locs ls hB hDD hL)
theorem z_lor {x y : Int64} (hd : decode M.2.1 pc = .ok (.lor, 1)) (kk : zJ X R M Q fr k j h n (pc + 1) lv (.long (x ||| y) :: st)) : zJ X R M Q fr k j h n pc lv (.long y :: .long x :: st) := by
  intro p e s m args below meth c A H locs ls hB hDD hL
  exact lv_lor hB.1 hB.2.1 hd  (kk p e s m args below meth c A H locs ls hB hDD hL)
theorem z_idiv {x y : Int32} (hd : decode M.2.1 pc = .ok (.idiv, 1)) (hne : ¬ y = 0) (kk : zJ X R M Q fr k j h n (pc + 1) lv (.int (x / y) :: st)) : zJ X R M Q fr k j h n pc lv (.int y :: .int x :: st) := by
  intro p e s m args below meth c A H locs ls hB hDD hL
  exact lv_idiv hB.1 hB.2.1 hd hne (kk p e s m args below meth c A H locs ls hB hDD hL)
theorem z_i2l {x : Int32} (hd : decode M.2.1 pc = .ok (.i2l, 1)) (kk : zJ X R M Q fr k j h n (pc + 1) lv (.long x.toInt64 :: st)) : zJ X R M Q fr k j h n pc lv (.int x :: st) := by
  intro p e s m args below meth c A H locs ls hB hDD hL
  exact lv_i2l hB.1 hB.2.1 hd rfl (kk p e s m args below meth c A H locs ls hB hDD hL)
theorem z_lshl {x : Int64} {y : Int32} (hd : decode M.2.1 pc = .ok (.lshl, 1)) (kk : zJ X R M Q fr k j h n (pc + 1) lv (.long (x <<< (y.toInt64 &&& 63)) :: st)) : zJ X R M Q fr k j h n pc lv (.int y :: .long x :: st) := by
  intro p e s m args below meth c A H locs ls hB hDD hL
  exact lv_lshl hB.1 hB.2.1 hd rfl (kk p e s m args below meth c A H locs ls hB hDD hL)
theorem z_lcmp {x y : Int64} (hd : decode M.2.1 pc = .ok (.lcmp, 1)) (kk : zJ X R M Q fr k j h n (pc + 1) lv (.int (lg_cmp x y) :: st)) : zJ X R M Q fr k j h n pc lv (.long y :: .long x :: st) := by
  intro p e s m args below meth c A H locs ls hB hDD hL
  exact W.lcmp hB.1 hB.2.1 hd  (kk p e s m args below meth c A H locs ls hB hDD hL)
theorem z_dup {v : Value} (hd : decode M.2.1 pc = .ok (.dup, 1)) (hc : v.category = 1) (kk : zJ X R M Q fr k j h n (pc + 1) lv (v :: v :: st)) : zJ X R M Q fr k j h n pc lv (v :: st) := by
  intro p e s m args below meth c A H locs ls hB hDD hL
  exact lv_dup hB.1 hB.2.1 hd ((zV_cat _ _).trans hc) (kk p e s m args below meth c A H locs ls hB hDD hL)
theorem z_pop {v : Value} (hd : decode M.2.1 pc = .ok (.pop, 1)) (hc : v.category = 1) (kk : zJ X R M Q fr k j h n (pc + 1) lv (st)) : zJ X R M Q fr k j h n pc lv (v :: st) := by
  intro p e s m args below meth c A H locs ls hB hDD hL
  exact lv_pop hB.1 hB.2.1 hd ((zV_cat _ _).trans hc) (kk p e s m args below meth c A H locs ls hB hDD hL)
theorem z_dup_x1 {v w : Value} (hd : decode M.2.1 pc = .ok (.dup_x1, 1)) (hc : v.category = 1) (hc2 : w.category = 1) (kk : zJ X R M Q fr k j h n (pc + 1) lv (v :: w :: v :: st)) : zJ X R M Q fr k j h n pc lv (v :: w :: st) := by
  intro p e s m args below meth c A H locs ls hB hDD hL
  exact lv_dup_x1 hB.1 hB.2.1 hd ((zV_cat _ _).trans hc) ((zV_cat _ _).trans hc2) (kk p e s m args below meth c A H locs ls hB hDD hL)
theorem z_dup2 {v w : Value} (hd : decode M.2.1 pc = .ok (.dup2, 1)) (hc : v.category = 1) (hc2 : w.category = 1) (kk : zJ X R M Q fr k j h n (pc + 1) lv (v :: w :: v :: w :: st)) : zJ X R M Q fr k j h n pc lv (v :: w :: st) := by
  intro p e s m args below meth c A H locs ls hB hDD hL
  exact lv_dup2_11 hB.1 hB.2.1 hd ((zV_cat _ _).trans hc) ((zV_cat _ _).trans hc2) (kk p e s m args below meth c A H locs ls hB hDD hL)
theorem z_if_eq {x : Int32} {off : Int} (hd : decode M.2.1 pc = .ok (.ifCond .eq off, 3)) (tgt : Nat) (ht : (pc : Int) + off = (tgt : Int)) (kt : x = 0 → zJ X R M Q fr k j h n tgt lv st) (kf : ¬ x = 0 → zJ X R M Q fr k j h n (pc + 3) lv st) : zJ X R M Q fr k j h n pc lv (.int x :: st) := by
  intro p e s m args below meth c A H locs ls hB hDD hL
  exact lv_if_eq hB.1 hB.2.1 hd ht (fun hh => kt hh p e s m args below meth c A H locs ls hB hDD hL) (fun hh => kf hh p e s m args below meth c A H locs ls hB hDD hL)
theorem z_icmp_eq {x y : Int32} {off : Int} (hd : decode M.2.1 pc = .ok (.if_icmp .eq off, 3)) (tgt : Nat) (ht : (pc : Int) + off = (tgt : Int)) (kt : x = y → zJ X R M Q fr k j h n tgt lv st) (kf : ¬ x = y → zJ X R M Q fr k j h n (pc + 3) lv st) : zJ X R M Q fr k j h n pc lv (.int y :: .int x :: st) := by
  intro p e s m args below meth c A H locs ls hB hDD hL
  exact lv_icmp_eq hB.1 hB.2.1 hd ht (fun hh => kt hh p e s m args below meth c A H locs ls hB hDD hL) (fun hh => kf hh p e s m args below meth c A H locs ls hB hDD hL)
theorem z_if_ne {x : Int32} {off : Int} (hd : decode M.2.1 pc = .ok (.ifCond .ne off, 3)) (tgt : Nat) (ht : (pc : Int) + off = (tgt : Int)) (kt : ¬ x = 0 → zJ X R M Q fr k j h n tgt lv st) (kf : x = 0 → zJ X R M Q fr k j h n (pc + 3) lv st) : zJ X R M Q fr k j h n pc lv (.int x :: st) := by
  intro p e s m args below meth c A H locs ls hB hDD hL
  exact lv_if_ne hB.1 hB.2.1 hd ht (fun hh => kt hh p e s m args below meth c A H locs ls hB hDD hL) (fun hh => kf hh p e s m args below meth c A H locs ls hB hDD hL)
theorem z_icmp_ne {x y : Int32} {off : Int} (hd : decode M.2.1 pc = .ok (.if_icmp .ne off, 3)) (tgt : Nat) (ht : (pc : Int) + off = (tgt : Int)) (kt : ¬ x = y → zJ X R M Q fr k j h n tgt lv st) (kf : x = y → zJ X R M Q fr k j h n (pc + 3) lv st) : zJ X R M Q fr k j h n pc lv (.int y :: .int x :: st) := by
  intro p e s m args below meth c A H locs ls hB hDD hL
  exact lv_icmp_ne hB.1 hB.2.1 hd ht (fun hh => kt hh p e s m args below meth c A H locs ls hB hDD hL) (fun hh => kf hh p e s m args below meth c A H locs ls hB hDD hL)
theorem z_if_lt {x : Int32} {off : Int} (hd : decode M.2.1 pc = .ok (.ifCond .lt off, 3)) (tgt : Nat) (ht : (pc : Int) + off = (tgt : Int)) (kt : x < 0 → zJ X R M Q fr k j h n tgt lv st) (kf : ¬ x < 0 → zJ X R M Q fr k j h n (pc + 3) lv st) : zJ X R M Q fr k j h n pc lv (.int x :: st) := by
  intro p e s m args below meth c A H locs ls hB hDD hL
  exact lv_if_lt hB.1 hB.2.1 hd ht (fun hh => kt hh p e s m args below meth c A H locs ls hB hDD hL) (fun hh => kf hh p e s m args below meth c A H locs ls hB hDD hL)
theorem z_icmp_lt {x y : Int32} {off : Int} (hd : decode M.2.1 pc = .ok (.if_icmp .lt off, 3)) (tgt : Nat) (ht : (pc : Int) + off = (tgt : Int)) (kt : x < y → zJ X R M Q fr k j h n tgt lv st) (kf : ¬ x < y → zJ X R M Q fr k j h n (pc + 3) lv st) : zJ X R M Q fr k j h n pc lv (.int y :: .int x :: st) := by
  intro p e s m args below meth c A H locs ls hB hDD hL
  exact lv_icmp_lt hB.1 hB.2.1 hd ht (fun hh => kt hh p e s m args below meth c A H locs ls hB hDD hL) (fun hh => kf hh p e s m args below meth c A H locs ls hB hDD hL)
theorem z_if_ge {x : Int32} {off : Int} (hd : decode M.2.1 pc = .ok (.ifCond .ge off, 3)) (tgt : Nat) (ht : (pc : Int) + off = (tgt : Int)) (kt : 0 ≤ x → zJ X R M Q fr k j h n tgt lv st) (kf : ¬ 0 ≤ x → zJ X R M Q fr k j h n (pc + 3) lv st) : zJ X R M Q fr k j h n pc lv (.int x :: st) := by
  intro p e s m args below meth c A H locs ls hB hDD hL
  exact lv_if_ge hB.1 hB.2.1 hd ht (fun hh => kt hh p e s m args below meth c A H locs ls hB hDD hL) (fun hh => kf hh p e s m args below meth c A H locs ls hB hDD hL)
theorem z_icmp_ge {x y : Int32} {off : Int} (hd : decode M.2.1 pc = .ok (.if_icmp .ge off, 3)) (tgt : Nat) (ht : (pc : Int) + off = (tgt : Int)) (kt : y ≤ x → zJ X R M Q fr k j h n tgt lv st) (kf : ¬ y ≤ x → zJ X R M Q fr k j h n (pc + 3) lv st) : zJ X R M Q fr k j h n pc lv (.int y :: .int x :: st) := by
  intro p e s m args below meth c A H locs ls hB hDD hL
  exact lv_icmp_ge hB.1 hB.2.1 hd ht (fun hh => kt hh p e s m args below meth c A H locs ls hB hDD hL) (fun hh => kf hh p e s m args below meth c A H locs ls hB hDD hL)
theorem z_if_gt {x : Int32} {off : Int} (hd : decode M.2.1 pc = .ok (.ifCond .gt off, 3)) (tgt : Nat) (ht : (pc : Int) + off = (tgt : Int)) (kt : 0 < x → zJ X R M Q fr k j h n tgt lv st) (kf : ¬ 0 < x → zJ X R M Q fr k j h n (pc + 3) lv st) : zJ X R M Q fr k j h n pc lv (.int x :: st) := by
  intro p e s m args below meth c A H locs ls hB hDD hL
  exact lv_if_gt hB.1 hB.2.1 hd ht (fun hh => kt hh p e s m args below meth c A H locs ls hB hDD hL) (fun hh => kf hh p e s m args below meth c A H locs ls hB hDD hL)
theorem z_icmp_gt {x y : Int32} {off : Int} (hd : decode M.2.1 pc = .ok (.if_icmp .gt off, 3)) (tgt : Nat) (ht : (pc : Int) + off = (tgt : Int)) (kt : y < x → zJ X R M Q fr k j h n tgt lv st) (kf : ¬ y < x → zJ X R M Q fr k j h n (pc + 3) lv st) : zJ X R M Q fr k j h n pc lv (.int y :: .int x :: st) := by
  intro p e s m args below meth c A H locs ls hB hDD hL
  exact lv_icmp_gt hB.1 hB.2.1 hd ht (fun hh => kt hh p e s m args below meth c A H locs ls hB hDD hL) (fun hh => kf hh p e s m args below meth c A H locs ls hB hDD hL)
theorem z_if_le {x : Int32} {off : Int} (hd : decode M.2.1 pc = .ok (.ifCond .le off, 3)) (tgt : Nat) (ht : (pc : Int) + off = (tgt : Int)) (kt : x ≤ 0 → zJ X R M Q fr k j h n tgt lv st) (kf : ¬ x ≤ 0 → zJ X R M Q fr k j h n (pc + 3) lv st) : zJ X R M Q fr k j h n pc lv (.int x :: st) := by
  intro p e s m args below meth c A H locs ls hB hDD hL
  exact lv_if_le hB.1 hB.2.1 hd ht (fun hh => kt hh p e s m args below meth c A H locs ls hB hDD hL) (fun hh => kf hh p e s m args below meth c A H locs ls hB hDD hL)
theorem z_icmp_le {x y : Int32} {off : Int} (hd : decode M.2.1 pc = .ok (.if_icmp .le off, 3)) (tgt : Nat) (ht : (pc : Int) + off = (tgt : Int)) (kt : x ≤ y → zJ X R M Q fr k j h n tgt lv st) (kf : ¬ x ≤ y → zJ X R M Q fr k j h n (pc + 3) lv st) : zJ X R M Q fr k j h n pc lv (.int y :: .int x :: st) := by
  intro p e s m args below meth c A H locs ls hB hDD hL
  exact lv_icmp_le hB.1 hB.2.1 hd ht (fun hh => kt hh p e s m args below meth c A H locs ls hB hDD hL) (fun hh => kf hh p e s m args below meth c A H locs ls hB hDD hL)
theorem z_goto {off : Int} (hd : decode M.2.1 pc = .ok (.goto off, 3)) (tgt : Nat) (ht : (pc : Int) + off = (tgt : Int)) (kk : zJ X R M Q fr k j h n tgt lv st) : zJ X R M Q fr k j h n pc lv st := by
  intro p e s m args below meth c A H locs ls hB hDD hL
  exact lv_goto hB.1 hB.2.1 hd ht (kk p e s m args below meth c A H locs ls hB hDD hL)
theorem z_tableIn {dflt lo hi : Int} {offs : Array Int} {len : Nat} {x : Int32} {off : Int} (hd : decode M.2.1 pc = .ok (.tableswitch dflt lo hi offs, len)) (tgt : Nat) (h1 : ¬ x.toInt < lo) (h2 : ¬ hi < x.toInt) (ho : offs[(x.toInt - lo).toNat]? = some off) (ht : (pc : Int) + off = (tgt : Int)) (kk : zJ X R M Q fr k j h n tgt lv st) : zJ X R M Q fr k j h n pc lv (.int x :: st) := by
  intro p e s m args below meth c A H locs ls hB hDD hL
  exact lv_tableIn hB.1 hB.2.1 hd h1 h2 ho ht (kk p e s m args below meth c A H locs ls hB hDD hL)
theorem z_tableOut {dflt lo hi : Int} {offs : Array Int} {len : Nat} {x : Int32} (hd : decode M.2.1 pc = .ok (.tableswitch dflt lo hi offs, len)) (tgt : Nat) (h1 : x.toInt < lo ∨ hi < x.toInt) (ht : (pc : Int) + dflt = (tgt : Int)) (kk : zJ X R M Q fr k j h n tgt lv st) : zJ X R M Q fr k j h n pc lv (.int x :: st) := by
  intro p e s m args below meth c A H locs ls hB hDD hL
  exact lv_tableOut hB.1 hB.2.1 hd h1 ht (kk p e s m args below meth c A H locs ls hB hDD hL)
theorem z_lookup {dflt : Int} {ps : Array (Int × Int)} {len : Nat} {x : Int32} {off : Int} (hd : decode M.2.1 pc = .ok (.lookupswitch dflt ps, len)) (tgt : Nat) (hp : (ps.toList.zip (ps.toList.drop 1)).all (fun (a, next) => a.1 < next.1) = true) (ho : Op.lookupswitch.offset ps.toList dflt x.toInt = off) (ht : (pc : Int) + off = (tgt : Int)) (kk : zJ X R M Q fr k j h n tgt lv st) : zJ X R M Q fr k j h n pc lv (.int x :: st) := by
  intro p e s m args below meth c A H locs ls hB hDD hL
  exact lv_lookup hB.1 hB.2.1 hd hp ho ht (kk p e s m args below meth c A H locs ls hB hDD hL)
theorem z_ldc {ix : Nat} {v : Int32} (hd : decode M.2.1 pc = .ok (.ldc ix, 2)) (hw : Cond.constant M.1.cls ix v ∈ zWA) (kk : zJ X R M Q fr k j h n (pc + 2) lv (.int v :: st)) : zJ X R M Q fr k j h n pc lv st := by
  intro p e s m args below meth c A H locs ls hB hDD hL
  exact lv_ldc hB.1 hB.2.1 hB.own (hB.word hw) hd (kk p e s m args below meth c A H locs ls hB hDD hL)
theorem z_ldc2 {ix : Nat} {v : Int64} (hd : decode M.2.1 pc = .ok (.ldc2_w ix, 3)) (hw : Cond.constantLong M.1.cls ix v ∈ zWA) (kk : zJ X R M Q fr k j h n (pc + 3) lv (.long v :: st)) : zJ X R M Q fr k j h n pc lv st := by
  intro p e s m args below meth c A H locs ls hB hDD hL
  exact lv_ldc2 hB.1 hB.2.1 hB.own (hB.word hw) hd (kk p e s m args below meth c A H locs ls hB hDD hL)
theorem z_get {ix ci kf a : Nat} {fs : List Value} {v : Value} (hd : decode M.2.1 pc = .ok (.getfield ix, 3)) (f : zFd M.1.cls ix ci kf) (ha : a < n) (hc : h a = .inr (ci, fs)) (hv : fs[kf]? = some v) (kk : zJ X R M Q fr k j h n (pc + 3) lv (v :: st)) : zJ X R M Q fr k j h n pc lv (.ref a :: st) := by
  intro p e s m args below meth c A H locs ls hB hDD hL
  obtain ⟨C, T, N, f1, f2, f3, f4⟩ := f
  exact va_get (ci := ci) (v := zV X.2.2.2.1 v) hB.1 hB.2.1 hB.words f3 hB.own hB.kinds hDD.1 a (fs := fs.map (zV X.2.2.2.1)) (by rw [zW_get ha, hc]; rfl) f1 kf f2 (hB.word f4) (fun _ h9 => h9) (by rw [List.getElem?_map, hv]; rfl) hd (kk p e s m args below meth c A H locs ls hB hDD hL)
theorem z_put {ix ci kf a : Nat} {fs : List Value} {v : Value} {ty : FieldType} {h' : zH} (hd : decode M.2.1 pc = .ok (.putfield ix, 3)) (f : zFd M.1.cls ix ci kf) (fp : zFp ci kf ty false) (ha : a < n) (hc : h a = .inr (ci, fs)) (hl : kf < fs.length) (hw : narrow ty (zV X.2.2.2.1 v) = zV X.2.2.2.1 v) (hft : fits ty (zV X.2.2.2.1 v) = true) (hh : va_up h a (.inr (ci, fs.set kf v)) = h')
    (kk : zJ X R M Q fr k j h' n (pc + 3) lv st) : zJ X R M Q fr k j h n pc lv (v :: .ref a :: st) := by
  intro p e s m args below meth c A H locs ls hB hDD hL
  subst hh
  obtain ⟨C, T, N, f1, f2, f3, f4⟩ := f
  obtain ⟨ty0, g1, g2, g3, g4⟩ := fp C T N f1
  refine va_put (ci := ci) (v := zV X.2.2.2.1 v) (ty := ty) hB.1 hB.2.1 hB.words f3 ty0 g1 g2 hB.own hB.kinds hDD.1 hDD.2.1 (zS_self hDD.2.2.1) a (fs := fs.map (zV X.2.2.2.1)) (by rw [zW_get ha, hc]; rfl) f1 kf f2 (hB.word f4) (fun _ h9 => h9) g3 g4 hw hft (by simpa using hl) hd (fun H1 locs1 hP hD hS => ?_)
  rw [← List.map_set] at hP hD
  exact kk p e s m args below meth c A H1 locs1 ls hB (zD_put ha hDD hP hD hS) hL
theorem z_putF {ix ci kf a : Nat} {fs : List Value} {v : Value} {ty : FieldType} {h' : zH} (hd : decode M.2.1 pc = .ok (.putfield ix, 3)) (f : zFd M.1.cls ix ci kf) (fp : zFp ci kf ty true) (hi : M.1.name = "<init>") (ho : ∀ q, zCl[ci]? = some q → (q.2.1 kf).1 = M.1.cls) (ha : a < n) (hc : h a = .inr (ci, fs)) (hl : kf < fs.length) (hw : narrow ty (zV X.2.2.2.1 v) = zV X.2.2.2.1 v) (hft : fits ty (zV X.2.2.2.1 v) = true) (hh : va_up h a (.inr (ci, fs.set kf v)) = h')
    (kk : zJ X R M Q fr k j h' n (pc + 3) lv st) : zJ X R M Q fr k j h n pc lv (v :: .ref a :: st) := by
  intro p e s m args below meth c A H locs ls hB hDD hL
  subst hh
  obtain ⟨C, T, N, f1, f2, f3, f4⟩ := f
  obtain ⟨ty0, g1, g2, g3, g4⟩ := fp C T N f1
  refine va_putF (ci := ci) (v := zV X.2.2.2.1 v) (ty := ty) hB.1 hB.2.1 hB.words f3 ty0 g1 g2 hB.own hB.kinds hDD.1 hDD.2.1 (zS_self hDD.2.2.1) a (fs := fs.map (zV X.2.2.2.1)) (by rw [zW_get ha, hc]; rfl) f1 kf f2 (hB.word f4) (fun _ h9 => h9) g3 (hB.mname.trans hi) (ho _ f1) g4 hw hft (by simpa using hl) hd (fun H1 locs1 hP hD hS => ?_)
  rw [← List.map_set] at hP hD
  exact kk p e s m args below meth c A H1 locs1 ls hB (zD_put ha hDD hP hD hS) hL
theorem z_iald {a len t : Nat} {f : Nat → Int32} {i : Int32} (hd : decode M.2.1 pc = .ok (.iaload, 1)) (ha : a < n) (hc : h a = .inl (0, len, .inl f)) (hi : zin i t len) (kk : zJ X R M Q fr k j h n (pc + 1) lv (.int (f t) :: st)) : zJ X R M Q fr k j h n pc lv (.int i :: .ref a :: st) := by
  intro p e s m args below meth c A H locs ls hB hDD hL
  have h9 := kk p e s m args below meth c A H locs ls hB hDD hL
  rw [← hi.cl] at h9
  exact va_iald hB.1 hB.2.1 hB.kinds hDD.1 a 0 (by rw [zW_get ha, hc]; rfl) rfl hi.vp hd h9
theorem z_lald {a len t : Nat} {f : Nat → Int64} {i : Int32} (hd : decode M.2.1 pc = .ok (.laload, 1)) (ha : a < n) (hc : h a = .inl (1, len, .inr (.inl f))) (hi : zin i t len) (kk : zJ X R M Q fr k j h n (pc + 1) lv (.long (f t) :: st)) : zJ X R M Q fr k j h n pc lv (.int i :: .ref a :: st) := by
  intro p e s m args below meth c A H locs ls hB hDD hL
  have h9 := kk p e s m args below meth c A H locs ls hB hDD hL
  rw [← hi.cl] at h9
  exact va_lald hB.1 hB.2.1 hB.kinds hDD.1 a 1 (by rw [zW_get ha, hc]; rfl) rfl hi.vp hd h9
theorem z_zald {a len t : Nat} {f : Nat → Int32} {i : Int32} (hd : decode M.2.1 pc = .ok (.baload, 1)) (ha : a < n) (hc : h a = .inl (2, len, .inl f)) (hi : zin i t len) (kk : zJ X R M Q fr k j h n (pc + 1) lv (.int (f t) :: st)) : zJ X R M Q fr k j h n pc lv (.int i :: .ref a :: st) := by
  intro p e s m args below meth c A H locs ls hB hDD hL
  have h9 := kk p e s m args below meth c A H locs ls hB hDD hL
  rw [← hi.cl] at h9
  exact va_zald hB.1 hB.2.1 hB.kinds hDD.1 a 2 (by rw [zW_get ha, hc]; rfl) rfl hi.vp hd h9
theorem z_iast {a len t : Nat} {f : Nat → Int32} {i : Int32} {x : Int32} {h' : zH} (hd : decode M.2.1 pc = .ok (.iastore, 1)) (ha : a < n) (hc : h a = .inl (0, len, .inl f)) (hi : zin i t len) (hh : va_up h a (.inl (0, len, .inl (upd f t x))) = h') (kk : zJ X R M Q fr k j h' n (pc + 1) lv st) : zJ X R M Q fr k j h n pc lv (.int x :: .int i :: .ref a :: st) := by
  intro p e s m args below meth c A H locs ls hB hDD hL
  subst hh
  refine va_iast hB.1 hB.2.1 hB.kinds hDD.1 hDD.2.1 (zS_self hDD.2.2.1) a 0 (by rw [zW_get ha, hc]; rfl) rfl hi.vp hd (fun H1 locs1 hP hD hS => ?_)
  rw [hi.cl] at hP hD
  exact kk p e s m args below meth c A H1 locs1 ls hB (zD_put ha hDD hP hD hS) hL
theorem z_last {a len t : Nat} {f : Nat → Int64} {i : Int32} {x : Int64} {h' : zH} (hd : decode M.2.1 pc = .ok (.lastore, 1)) (ha : a < n) (hc : h a = .inl (1, len, .inr (.inl f))) (hi : zin i t len) (hh : va_up h a (.inl (1, len, .inr (.inl (vp_updL f t x)))) = h') (kk : zJ X R M Q fr k j h' n (pc + 1) lv st) : zJ X R M Q fr k j h n pc lv (.long x :: .int i :: .ref a :: st) := by
  intro p e s m args below meth c A H locs ls hB hDD hL
  subst hh
  refine va_last hB.1 hB.2.1 hB.kinds hDD.1 hDD.2.1 (zS_self hDD.2.2.1) a 1 (by rw [zW_get ha, hc]; rfl) rfl hi.vp hd (fun H1 locs1 hP hD hS => ?_)
  rw [hi.cl] at hP hD
  exact kk p e s m args below meth c A H1 locs1 ls hB (zD_put ha hDD hP hD hS) hL
theorem z_zast {a len t : Nat} {f : Nat → Int32} {i : Int32} {x : Int32} {h' : zH} (hd : decode M.2.1 pc = .ok (.bastore, 1)) (ha : a < n) (hc : h a = .inl (2, len, .inl f)) (hi : zin i t len) (hx : vp_nar .boolean x = x) (hh : va_up h a (.inl (2, len, .inl (upd f t x))) = h') (kk : zJ X R M Q fr k j h' n (pc + 1) lv st) : zJ X R M Q fr k j h n pc lv (.int x :: .int i :: .ref a :: st) := by
  intro p e s m args below meth c A H locs ls hB hDD hL
  subst hh
  refine va_zast hB.1 hB.2.1 hB.kinds hDD.1 hDD.2.1 (zS_self hDD.2.2.1) a 2 (by rw [zW_get ha, hc]; rfl) rfl hi.vp hd (fun H1 locs1 hP hD hS => ?_)
  rw [hi.cl, hx] at hP hD
  exact kk p e s m args below meth c A H1 locs1 ls hB (zD_put ha hDD hP hD hS) hL
theorem z_aald {a len t r tc : Nat} {g : Nat → Option Nat} {C : String} {i : Int32} (hd : decode M.2.1 pc = .ok (.aaload, 1)) (ha : a < n) (hc : h a = .inl (tc, len, .inr (.inr (.inr (.inr g))))) (ht : (zT X.2.2.2.2)[tc]? = some (X.2.2.2.2 tc, .object C)) (hi : zin i t len) (hg : g t = some r) (kk : zJ X R M Q fr k j h n (pc + 1) lv (.ref r :: st)) : zJ X R M Q fr k j h n pc lv (.int i :: .ref a :: st) := by
  intro p e s m args below meth c A H locs ls hB hDD hL
  have h9 := kk p e s m args below meth c A H locs ls hB hDD hL
  refine va_aldq (f := fun i => (g i).map X.2.2.2.1) hB.1 hB.2.1 hB.kinds hDD.1 a tc (by rw [zW_get ha, hc]; rfl) ht hi.vp hd ?_
  rw [hi.cl, hg]
  exact h9
theorem z_alen {a tc : Nat} {x : vp_A} {ty : FieldType} {v : Int32} (hd : decode M.2.1 pc = .ok (.arraylength, 1)) (ha : a < n) (hc : h a = .inl (tc, x)) (ht : (zT X.2.2.2.2)[tc]? = some (X.2.2.2.2 tc, ty)) (hv : Int32.ofNat x.1 = v) (kk : zJ X R M Q fr k j h n (pc + 1) lv (.int v :: st)) : zJ X R M Q fr k j h n pc lv (.ref a :: st) := by
  intro p e s m args below meth c A H locs ls hB hDD hL
  exact va_alen (x := zA X.2.2.2.1 x) hB.1 hB.2.1 hB.kinds hDD.1 a tc (by rw [zW_get ha, hc]; rfl) ht (by rw [zA_len]; exact hv) hd (kk p e s m args below meth c A H locs ls hB hDD hL)
end ZR
