section TKR
variable {p : Program} {l : Launch} {e : Env} {R : Room} {s : State} {m : MethodId} {args : Array Value} {below : List Frame} {meth : Method} {c : Code} {Q : State → Prop} {E : tk_E} {nL n n0 : Nat} {C : Nat → va_E} {cells slots pc pc' : Nat} {lo lo' : List (Option Value)} {st : List Value} {cc : ByteArray} {own : String}

theorem v_iadd (cx : tk_X p s m args c cc nL own E n0) {x y : Int32} (d : tk_D cc pc (.iadd) 1 pc') (k : tk_V p l e R s m args below meth c Q E nL n C cells slots pc' lo (.int (x + y) :: st)) : tk_V p l e R s m args below meth c Q E nL n C cells slots pc lo (.int y :: .int x :: st) := by
  obtain ⟨d1, rfl⟩ := d
  exact fun H locs ls h2 h3 h4 => lv_iadd cx.1 cx.2.1 d1 (k H locs ls h2 h3 h4)
theorem v_isub (cx : tk_X p s m args c cc nL own E n0) {x y : Int32} (d : tk_D cc pc (.isub) 1 pc') (k : tk_V p l e R s m args below meth c Q E nL n C cells slots pc' lo (.int (x - y) :: st)) : tk_V p l e R s m args below meth c Q E nL n C cells slots pc lo (.int y :: .int x :: st) := by
  obtain ⟨d1, rfl⟩ := d
  exact fun H locs ls h2 h3 h4 => lv_isub cx.1 cx.2.1 d1 (k H locs ls h2 h3 h4)
theorem v_imul (cx : tk_X p s m args c cc nL own E n0) {x y : Int32} (d : tk_D cc pc (.imul) 1 pc') (k : tk_V p l e R s m args below meth c Q E nL n C cells slots pc' lo (.int (x * y) :: st)) : tk_V p l e R s m args below meth c Q E nL n C cells slots pc lo (.int y :: .int x :: st) := by
  obtain ⟨d1, rfl⟩ := d
  exact fun H locs ls h2 h3 h4 => lv_imul cx.1 cx.2.1 d1 (k H locs ls h2 h3 h4)
theorem v_iand (cx : tk_X p s m args c cc nL own E n0) {x y : Int32} (d : tk_D cc pc (.iand) 1 pc') (k : tk_V p l e R s m args below meth c Q E nL n C cells slots pc' lo (.int (x &&& y) :: st)) : tk_V p l e R s m args below meth c Q E nL n C cells slots pc lo (.int y :: .int x :: st) := by
  obtain ⟨d1, rfl⟩ := d
  exact fun H locs ls h2 h3 h4 => lv_iand cx.1 cx.2.1 d1 (k H locs ls h2 h3 h4)
theorem v_ior (cx : tk_X p s m args c cc nL own E n0) {x y : Int32} (d : tk_D cc pc (.ior) 1 pc') (k : tk_V p l e R s m args below meth c Q E nL n C cells slots pc' lo (.int (x ||| y) :: st)) : tk_V p l e R s m args below meth c Q E nL n C cells slots pc lo (.int y :: .int x :: st) := by
  obtain ⟨d1, rfl⟩ := d
  exact fun H locs ls h2 h3 h4 => lv_ior cx.1 cx.2.1 d1 (k H locs ls h2 h3 h4)
theorem v_ixor (cx : tk_X p s m args c cc nL own E n0) {x y : Int32} (d : tk_D cc pc (.ixor) 1 pc') (k : tk_V p l e R s m args below meth c Q E nL n C cells slots pc' lo (.int (x ^^^ y) :: st)) : tk_V p l e R s m args below meth c Q E nL n C cells slots pc lo (.int y :: .int x :: st) := by
  obtain ⟨d1, rfl⟩ := d
  exact fun H locs ls h2 h3 h4 => lv_ixor cx.1 cx.2.1 d1 (k H locs ls h2 h3 h4)
theorem v_ishl (cx : tk_X p s m args c cc nL own E n0) {x y : Int32} (d : tk_D cc pc (.ishl) 1 pc') (k : tk_V p l e R s m args below meth c Q E nL n C cells slots pc' lo (.int (x <<< (y &&& 31)) :: st)) : tk_V p l e R s m args below meth c Q E nL n C cells slots pc lo (.int y :: .int x :: st) := by
  obtain ⟨d1, rfl⟩ := d
  exact fun H locs ls h2 h3 h4 => lv_ishl cx.1 cx.2.1 d1 (k H locs ls h2 h3 h4)
theorem v_ishr (cx : tk_X p s m args c cc nL own E n0) {x y : Int32} (d : tk_D cc pc (.ishr) 1 pc') (k : tk_V p l e R s m args below meth c Q E nL n C cells slots pc' lo (.int (x >>> (y &&& 31)) :: st)) : tk_V p l e R s m args below meth c Q E nL n C cells slots pc lo (.int y :: .int x :: st) := by
  obtain ⟨d1, rfl⟩ := d
  exact fun H locs ls h2 h3 h4 => lv_ishr cx.1 cx.2.1 d1 (k H locs ls h2 h3 h4)
theorem v_idiv (cx : tk_X p s m args c cc nL own E n0) {x y : Int32} (d : tk_D cc pc (.idiv) 1 pc') (hy : ¬ y = 0) (k : tk_V p l e R s m args below meth c Q E nL n C cells slots pc' lo (.int (x / y) :: st)) : tk_V p l e R s m args below meth c Q E nL n C cells slots pc lo (.int y :: .int x :: st) := by
  obtain ⟨d1, rfl⟩ := d
  exact fun H locs ls h2 h3 h4 => lv_idiv cx.1 cx.2.1 d1 hy (k H locs ls h2 h3 h4)
theorem v_irem (cx : tk_X p s m args c cc nL own E n0) {x y : Int32} (d : tk_D cc pc (.irem) 1 pc') (hy : ¬ y = 0) (k : tk_V p l e R s m args below meth c Q E nL n C cells slots pc' lo (.int (x - x / y * y) :: st)) : tk_V p l e R s m args below meth c Q E nL n C cells slots pc lo (.int y :: .int x :: st) := by
  obtain ⟨d1, rfl⟩ := d
  exact fun H locs ls h2 h3 h4 => lv_irem cx.1 cx.2.1 d1 hy (k H locs ls h2 h3 h4)
theorem v_ladd (cx : tk_X p s m args c cc nL own E n0) {x y : Int64} (d : tk_D cc pc (.ladd) 1 pc') (k : tk_V p l e R s m args below meth c Q E nL n C cells slots pc' lo (.long (x + y) :: st)) : tk_V p l e R s m args below meth c Q E nL n C cells slots pc lo (.long y :: .long x :: st) := by
  obtain ⟨d1, rfl⟩ := d
  exact fun H locs ls h2 h3 h4 => lv_ladd cx.1 cx.2.1 d1 (k H locs ls h2 h3 h4)
theorem v_lsub (cx : tk_X p s m args c cc nL own E n0) {x y : Int64} (d : tk_D cc pc (.lsub) 1 pc') (k : tk_V p l e R s m args below meth c Q E nL n C cells slots pc' lo (.long (x - y) :: st)) : tk_V p l e R s m args below meth c Q E nL n C cells slots pc lo (.long y :: .long x :: st) := by
  obtain ⟨d1, rfl⟩ := d
  exact fun H locs ls h2 h3 h4 => lv_lsub cx.1 cx.2.1 d1 (k H locs ls h2 h3 h4)
theorem v_lmul (cx : tk_X p s m args c cc nL own E n0) {x y : Int64} (d : tk_D cc pc (.lmul) 1 pc') (k : tk_V p l e R s m args below meth c Q E nL n C cells slots pc' lo (.long (x * y) :: st)) : tk_V p l e R s m args below meth c Q E nL n C cells slots pc lo (.long y :: .long x :: st) := by
  obtain ⟨d1, rfl⟩ := d
  exact fun H locs ls h2 h3 h4 => lv_lmul cx.1 cx.2.1 d1 (k H locs ls h2 h3 h4)
theorem v_land (cx : tk_X p s m args c cc nL own E n0) {x y : Int64} (d : tk_D cc pc (.land) 1 pc') (k : tk_V p l e R s m args below meth c Q E nL n C cells slots pc' lo (.long (x &&& y) :: st)) : tk_V p l e R s m args below meth c Q E nL n C cells slots pc lo (.long y :: .long x :: st) := by
  obtain ⟨d1, rfl⟩ := d
  exact fun H locs ls h2 h3 h4 => lv_land cx.1 cx.2.1 d1 (k H locs ls h2 h3 h4)
theorem v_lor (cx : tk_X p s m args c cc nL own E n0) {x y : Int64} (d : tk_D cc pc (.lor) 1 pc') (k : tk_V p l e R s m args below meth c Q E nL n C cells slots pc' lo (.long (x ||| y) :: st)) : tk_V p l e R s m args below meth c Q E nL n C cells slots pc lo (.long y :: .long x :: st) := by
  obtain ⟨d1, rfl⟩ := d
  exact fun H locs ls h2 h3 h4 => lv_lor cx.1 cx.2.1 d1 (k H locs ls h2 h3 h4)
theorem v_lneg (cx : tk_X p s m args c cc nL own E n0) {x : Int64} (d : tk_D cc pc (.lneg) 1 pc') (k : tk_V p l e R s m args below meth c Q E nL n C cells slots pc' lo (.long (-x) :: st)) : tk_V p l e R s m args below meth c Q E nL n C cells slots pc lo (.long x :: st) := by
  obtain ⟨d1, rfl⟩ := d
  exact fun H locs ls h2 h3 h4 => lv_lneg cx.1 cx.2.1 d1 (k H locs ls h2 h3 h4)
theorem v_lshl (cx : tk_X p s m args c cc nL own E n0) {x : Int64} {y : Int32} (d : tk_D cc pc (.lshl) 1 pc') (k : tk_V p l e R s m args below meth c Q E nL n C cells slots pc' lo (.long (x <<< (y.toInt64 &&& 63)) :: st)) : tk_V p l e R s m args below meth c Q E nL n C cells slots pc lo (.int y :: .long x :: st) := by
  obtain ⟨d1, rfl⟩ := d
  exact fun H locs ls h2 h3 h4 => lv_lshl cx.1 cx.2.1 d1 rfl (k H locs ls h2 h3 h4)
theorem v_lshr (cx : tk_X p s m args c cc nL own E n0) {x : Int64} {y : Int32} (d : tk_D cc pc (.lshr) 1 pc') (k : tk_V p l e R s m args below meth c Q E nL n C cells slots pc' lo (.long (x >>> (y.toInt64 &&& 63)) :: st)) : tk_V p l e R s m args below meth c Q E nL n C cells slots pc lo (.int y :: .long x :: st) := by
  obtain ⟨d1, rfl⟩ := d
  exact fun H locs ls h2 h3 h4 => lv_lshr cx.1 cx.2.1 d1 rfl (k H locs ls h2 h3 h4)
theorem v_lushr (cx : tk_X p s m args c cc nL own E n0) {x : Int64} {y : Int32} (d : tk_D cc pc (.lushr) 1 pc') (k : tk_V p l e R s m args below meth c Q E nL n C cells slots pc' lo (.long ((x.toUInt64 >>> (y.toInt64.toUInt64 &&& Int64.toUInt64 63)).toInt64) :: st)) : tk_V p l e R s m args below meth c Q E nL n C cells slots pc lo (.int y :: .long x :: st) := by
  obtain ⟨d1, rfl⟩ := d
  exact fun H locs ls h2 h3 h4 => lv_lushr cx.1 cx.2.1 d1 rfl (k H locs ls h2 h3 h4)
theorem v_lcmp (cx : tk_X p s m args c cc nL own E n0) {x y : Int64} (d : tk_D cc pc (.lcmp) 1 pc') (k : tk_V p l e R s m args below meth c Q E nL n C cells slots pc' lo (.int (lg_cmp x y) :: st)) : tk_V p l e R s m args below meth c Q E nL n C cells slots pc lo (.long y :: .long x :: st) := by
  obtain ⟨d1, rfl⟩ := d
  exact fun H locs ls h2 h3 h4 => W.lcmp cx.1 cx.2.1 d1 (k H locs ls h2 h3 h4)
theorem v_i2l (cx : tk_X p s m args c cc nL own E n0) {x : Int32} (d : tk_D cc pc (.i2l) 1 pc') (k : tk_V p l e R s m args below meth c Q E nL n C cells slots pc' lo (.long x.toInt64 :: st)) : tk_V p l e R s m args below meth c Q E nL n C cells slots pc lo (.int x :: st) := by
  obtain ⟨d1, rfl⟩ := d
  exact fun H locs ls h2 h3 h4 => lv_i2l cx.1 cx.2.1 d1 rfl (k H locs ls h2 h3 h4)
theorem v_l2i (cx : tk_X p s m args c cc nL own E n0) {x : Int64} (d : tk_D cc pc (.l2i) 1 pc') (k : tk_V p l e R s m args below meth c Q E nL n C cells slots pc' lo (.int x.toInt32 :: st)) : tk_V p l e R s m args below meth c Q E nL n C cells slots pc lo (.long x :: st) := by
  obtain ⟨d1, rfl⟩ := d
  exact fun H locs ls h2 h3 h4 => lv_l2i cx.1 cx.2.1 d1 rfl (k H locs ls h2 h3 h4)
theorem v_iconst (cx : tk_X p s m args c cc nL own E n0) {k0 : Int} (d : tk_D cc pc (.iconst k0) 1 pc') (v : Int32) (hv : Int32.ofInt k0 = v) (k : tk_V p l e R s m args below meth c Q E nL n C cells slots pc' lo (.int v :: st)) : tk_V p l e R s m args below meth c Q E nL n C cells slots pc lo (st) := by
  obtain ⟨d1, rfl⟩ := d
  exact fun H locs ls h2 h3 h4 => lv_iconst cx.1 cx.2.1 d1 hv (k H locs ls h2 h3 h4)
theorem v_bipush (cx : tk_X p s m args c cc nL own E n0) {k0 : Int} (d : tk_D cc pc (.bipush k0) 2 pc') (v : Int32) (hv : (Int8.ofInt k0).toInt32 = v) (k : tk_V p l e R s m args below meth c Q E nL n C cells slots pc' lo (.int v :: st)) : tk_V p l e R s m args below meth c Q E nL n C cells slots pc lo (st) := by
  obtain ⟨d1, rfl⟩ := d
  exact fun H locs ls h2 h3 h4 => lv_bipush cx.1 cx.2.1 d1 hv (k H locs ls h2 h3 h4)
theorem v_sipush (cx : tk_X p s m args c cc nL own E n0) {k0 : Int} (d : tk_D cc pc (.sipush k0) 3 pc') (v : Int32) (hv : (Int16.ofInt k0).toInt32 = v) (k : tk_V p l e R s m args below meth c Q E nL n C cells slots pc' lo (.int v :: st)) : tk_V p l e R s m args below meth c Q E nL n C cells slots pc lo (st) := by
  obtain ⟨d1, rfl⟩ := d
  exact fun H locs ls h2 h3 h4 => lv_sipush cx.1 cx.2.1 d1 hv (k H locs ls h2 h3 h4)
theorem v_lconst (cx : tk_X p s m args c cc nL own E n0) {k0 : Fin 2} (d : tk_D cc pc (.lconst k0) 1 pc') (v : Int64) (hv : Int64.ofNat (k0 : Nat) = v) (k : tk_V p l e R s m args below meth c Q E nL n C cells slots pc' lo (.long v :: st)) : tk_V p l e R s m args below meth c Q E nL n C cells slots pc lo (st) := by
  obtain ⟨d1, rfl⟩ := d
  exact fun H locs ls h2 h3 h4 => lv_lconst cx.1 cx.2.1 d1 hv (k H locs ls h2 h3 h4)
theorem v_ldc (cx : tk_X p s m args c cc nL own E n0) {k0 : Nat} {v : Int32} (d : tk_D cc pc (.ldc k0) 2 pc') (hv : Cond.constant own k0 v ∈ lw_tbl) (k : tk_V p l e R s m args below meth c Q E nL n C cells slots pc' lo (.int v :: st)) : tk_V p l e R s m args below meth c Q E nL n C cells slots pc lo (st) := by
  obtain ⟨d1, rfl⟩ := d
  exact fun H locs ls h2 h3 h4 => lv_ldc cx.1 cx.2.1 cx.2.2.2.1 (cx.2.2.2.2.1 _ (tk_g hv rfl)) d1 (k H locs ls h2 h3 h4)
theorem v_ldc2 (cx : tk_X p s m args c cc nL own E n0) {k0 : Nat} {v : Int64} (d : tk_D cc pc (.ldc2_w k0) 3 pc') (hv : Cond.constantLong own k0 v ∈ lw_tbl) (k : tk_V p l e R s m args below meth c Q E nL n C cells slots pc' lo (.long v :: st)) : tk_V p l e R s m args below meth c Q E nL n C cells slots pc lo (st) := by
  obtain ⟨d1, rfl⟩ := d
  exact fun H locs ls h2 h3 h4 => lv_ldc2 cx.1 cx.2.1 cx.2.2.2.1 (cx.2.2.2.2.1 _ (tk_g hv rfl)) d1 (k H locs ls h2 h3 h4)
theorem v_dup (cx : tk_X p s m args c cc nL own E n0) {va : Value} (d : tk_D cc pc (.dup) 1 pc') (hc : va.category = 1) (k : tk_V p l e R s m args below meth c Q E nL n C cells slots pc' lo (va :: va :: st)) : tk_V p l e R s m args below meth c Q E nL n C cells slots pc lo (va :: st) := by
  obtain ⟨d1, rfl⟩ := d
  exact fun H locs ls h2 h3 h4 => lv_dup cx.1 cx.2.1 d1 hc (k H locs ls h2 h3 h4)
theorem v_pop (cx : tk_X p s m args c cc nL own E n0) {va : Value} (d : tk_D cc pc (.pop) 1 pc') (hc : va.category = 1) (k : tk_V p l e R s m args below meth c Q E nL n C cells slots pc' lo (st)) : tk_V p l e R s m args below meth c Q E nL n C cells slots pc lo (va :: st) := by
  obtain ⟨d1, rfl⟩ := d
  exact fun H locs ls h2 h3 h4 => lv_pop cx.1 cx.2.1 d1 hc (k H locs ls h2 h3 h4)
theorem v_dup2 (cx : tk_X p s m args c cc nL own E n0) {va vb : Value} (d : tk_D cc pc (.dup2) 1 pc') (hc : va.category = 1) (hc2 : vb.category = 1) (k : tk_V p l e R s m args below meth c Q E nL n C cells slots pc' lo (va :: vb :: va :: vb :: st)) : tk_V p l e R s m args below meth c Q E nL n C cells slots pc lo (va :: vb :: st) := by
  obtain ⟨d1, rfl⟩ := d
  exact fun H locs ls h2 h3 h4 => lv_dup2_11 cx.1 cx.2.1 d1 hc hc2 (k H locs ls h2 h3 h4)
theorem v_iload_n (cx : tk_X p s m args c cc nL own E n0) {k0 : Fin 4} {x : Int32} (d : tk_D cc pc (.iload_n k0) 1 pc') (hl : lo[(k0 : Nat)]? = some (some (.int x))) (k : tk_V p l e R s m args below meth c Q E nL n C cells slots pc' lo (.int x :: st)) : tk_V p l e R s m args below meth c Q E nL n C cells slots pc lo (st) := by
  obtain ⟨d1, rfl⟩ := d
  exact fun H locs ls h2 h3 h4 => lv_iload_n cx.1 cx.2.1 d1 rfl (h4.at hl) (k H locs ls h2 h3 h4)
theorem v_iload (cx : tk_X p s m args c cc nL own E n0) {k0 : Nat} {x : Int32} (d : tk_D cc pc (.iload k0) 2 pc') (hl : lo[k0]? = some (some (.int x))) (k : tk_V p l e R s m args below meth c Q E nL n C cells slots pc' lo (.int x :: st)) : tk_V p l e R s m args below meth c Q E nL n C cells slots pc lo (st) := by
  obtain ⟨d1, rfl⟩ := d
  exact fun H locs ls h2 h3 h4 => lv_iload cx.1 cx.2.1 d1 (h4.at hl) (k H locs ls h2 h3 h4)
theorem v_istore_n (cx : tk_X p s m args c cc nL own E n0) {k0 : Fin 4} {x : Int32} (d : tk_D cc pc (.istore_n k0) 1 pc') (hn : (k0 : Nat) < nL) (hl : tk_s1 lo (k0 : Nat) (.int x) = lo') (k : tk_V p l e R s m args below meth c Q E nL n C cells slots pc' lo' st) : tk_V p l e R s m args below meth c Q E nL n C cells slots pc lo (.int x :: st) := by
  obtain ⟨d1, rfl⟩ := d
  subst hl
  exact fun H locs ls h2 h3 h4 => lv_istore_n cx.1 cx.2.1 d1 rfl h4 hn rfl (fun ls' h5 => k H locs ls' h2 h3 (tk_has.s1 h5))
theorem v_istore (cx : tk_X p s m args c cc nL own E n0) {k0 : Nat} {x : Int32} (d : tk_D cc pc (.istore k0) 2 pc') (hn : (k0 : Nat) < nL) (hl : tk_s1 lo (k0 : Nat) (.int x) = lo') (k : tk_V p l e R s m args below meth c Q E nL n C cells slots pc' lo' st) : tk_V p l e R s m args below meth c Q E nL n C cells slots pc lo (.int x :: st) := by
  obtain ⟨d1, rfl⟩ := d
  subst hl
  exact fun H locs ls h2 h3 h4 => lv_istore cx.1 cx.2.1 d1 h4 hn rfl (fun ls' h5 => k H locs ls' h2 h3 (tk_has.s1 h5))
theorem v_lload_n (cx : tk_X p s m args c cc nL own E n0) {k0 : Fin 4} {x : Int64} (d : tk_D cc pc (.lload_n k0) 1 pc') (hl : lo[(k0 : Nat)]? = some (some (.long x))) (k : tk_V p l e R s m args below meth c Q E nL n C cells slots pc' lo (.long x :: st)) : tk_V p l e R s m args below meth c Q E nL n C cells slots pc lo (st) := by
  obtain ⟨d1, rfl⟩ := d
  exact fun H locs ls h2 h3 h4 => lv_lload_n cx.1 cx.2.1 d1 rfl (h4.at hl) (k H locs ls h2 h3 h4)
theorem v_lload (cx : tk_X p s m args c cc nL own E n0) {k0 : Nat} {x : Int64} (d : tk_D cc pc (.lload k0) 2 pc') (hl : lo[k0]? = some (some (.long x))) (k : tk_V p l e R s m args below meth c Q E nL n C cells slots pc' lo (.long x :: st)) : tk_V p l e R s m args below meth c Q E nL n C cells slots pc lo (st) := by
  obtain ⟨d1, rfl⟩ := d
  exact fun H locs ls h2 h3 h4 => lv_lload cx.1 cx.2.1 d1 (h4.at hl) (k H locs ls h2 h3 h4)
theorem v_lstore_n (cx : tk_X p s m args c cc nL own E n0) {k0 : Fin 4} {x : Int64} (d : tk_D cc pc (.lstore_n k0) 1 pc') (hn : (k0 : Nat) + 1 < nL) (hl : tk_s2 lo (k0 : Nat) (.long x) = lo') (k : tk_V p l e R s m args below meth c Q E nL n C cells slots pc' lo' st) : tk_V p l e R s m args below meth c Q E nL n C cells slots pc lo (.long x :: st) := by
  obtain ⟨d1, rfl⟩ := d
  subst hl
  exact fun H locs ls h2 h3 h4 => lv_lstore_n cx.1 cx.2.1 d1 rfl h4 hn rfl (fun ls' h5 => k H locs ls' h2 h3 (tk_has.s2 h5))
theorem v_lstore (cx : tk_X p s m args c cc nL own E n0) {k0 : Nat} {x : Int64} (d : tk_D cc pc (.lstore k0) 2 pc') (hn : (k0 : Nat) + 1 < nL) (hl : tk_s2 lo (k0 : Nat) (.long x) = lo') (k : tk_V p l e R s m args below meth c Q E nL n C cells slots pc' lo' st) : tk_V p l e R s m args below meth c Q E nL n C cells slots pc lo (.long x :: st) := by
  obtain ⟨d1, rfl⟩ := d
  subst hl
  exact fun H locs ls h2 h3 h4 => lv_lstore cx.1 cx.2.1 d1 h4 hn rfl (fun ls' h5 => k H locs ls' h2 h3 (tk_has.s2 h5))
theorem v_aload_n (cx : tk_X p s m args c cc nL own E n0) {k0 : Fin 4} {x : Nat} (d : tk_D cc pc (.aload_n k0) 1 pc') (hl : lo[(k0 : Nat)]? = some (some (.ref x))) (k : tk_V p l e R s m args below meth c Q E nL n C cells slots pc' lo (.ref x :: st)) : tk_V p l e R s m args below meth c Q E nL n C cells slots pc lo (st) := by
  obtain ⟨d1, rfl⟩ := d
  exact fun H locs ls h2 h3 h4 => lv_aload_n cx.1 cx.2.1 d1 rfl (h4.at hl) (k H locs ls h2 h3 h4)
theorem v_aload (cx : tk_X p s m args c cc nL own E n0) {k0 : Nat} {x : Nat} (d : tk_D cc pc (.aload k0) 2 pc') (hl : lo[k0]? = some (some (.ref x))) (k : tk_V p l e R s m args below meth c Q E nL n C cells slots pc' lo (.ref x :: st)) : tk_V p l e R s m args below meth c Q E nL n C cells slots pc lo (st) := by
  obtain ⟨d1, rfl⟩ := d
  exact fun H locs ls h2 h3 h4 => lv_aload cx.1 cx.2.1 d1 (h4.at hl) (k H locs ls h2 h3 h4)
theorem v_astore_n (cx : tk_X p s m args c cc nL own E n0) {k0 : Fin 4} {x : Nat} (d : tk_D cc pc (.astore_n k0) 1 pc') (hn : (k0 : Nat) < nL) (hl : tk_s1 lo (k0 : Nat) (.ref x) = lo') (k : tk_V p l e R s m args below meth c Q E nL n C cells slots pc' lo' st) : tk_V p l e R s m args below meth c Q E nL n C cells slots pc lo (.ref x :: st) := by
  obtain ⟨d1, rfl⟩ := d
  subst hl
  exact fun H locs ls h2 h3 h4 => lv_astore_n cx.1 cx.2.1 d1 rfl h4 hn rfl (fun ls' h5 => k H locs ls' h2 h3 (tk_has.s1 h5))
theorem v_astore (cx : tk_X p s m args c cc nL own E n0) {k0 : Nat} {x : Nat} (d : tk_D cc pc (.astore k0) 2 pc') (hn : (k0 : Nat) < nL) (hl : tk_s1 lo (k0 : Nat) (.ref x) = lo') (k : tk_V p l e R s m args below meth c Q E nL n C cells slots pc' lo' st) : tk_V p l e R s m args below meth c Q E nL n C cells slots pc lo (.ref x :: st) := by
  obtain ⟨d1, rfl⟩ := d
  subst hl
  exact fun H locs ls h2 h3 h4 => lv_astore cx.1 cx.2.1 d1 h4 hn rfl (fun ls' h5 => k H locs ls' h2 h3 (tk_has.s1 h5))
theorem v_iinc (cx : tk_X p s m args c cc nL own E n0) {k0 : Nat} {k1 : Int} {x : Int32} (d : tk_D cc pc (.iinc k0 k1) 3 pc') (hk : lo[k0]? = some (some (.int x))) (v : Int32) (hv : x + Int32.ofInt k1 = v) (hn : k0 < nL) (hl : tk_s1 lo k0 (.int v) = lo') (k : tk_V p l e R s m args below meth c Q E nL n C cells slots pc' lo' st) : tk_V p l e R s m args below meth c Q E nL n C cells slots pc lo st := by
  obtain ⟨d1, rfl⟩ := d
  subst hl
  intro H locs ls h2 h3 h4
  obtain ⟨i, hi⟩ := List.getElem?_of_mem ((tk_as_mem lo 0 k0 (.int x)).mpr ⟨k0, by omega, hk⟩)
  exact lv_iinc cx.1 cx.2.1 d1 h4 hi hv hn rfl (fun ls' h5 => k H locs ls' h2 h3 (tk_has.s1 h5))
theorem v_if_eq (cx : tk_X p s m args c cc nL own E n0) {x : Int32} {off : Int} (d : tk_D cc pc (.ifCond .eq off) 3 pc') (tgt : Nat) (ht : (pc : Int) + off = (tgt : Int)) (kt : x = 0 → tk_V p l e R s m args below meth c Q E nL n C cells slots tgt lo st) (kf : ¬ (x = 0) → tk_V p l e R s m args below meth c Q E nL n C cells slots pc' lo st) : tk_V p l e R s m args below meth c Q E nL n C cells slots pc lo (.int x :: st) := by
  obtain ⟨d1, rfl⟩ := d
  exact fun H locs ls h2 h3 h4 => lv_if_eq cx.1 cx.2.1 d1 ht (fun h => kt h H locs ls h2 h3 h4) (fun h => kf h H locs ls h2 h3 h4)
theorem v_if_ne (cx : tk_X p s m args c cc nL own E n0) {x : Int32} {off : Int} (d : tk_D cc pc (.ifCond .ne off) 3 pc') (tgt : Nat) (ht : (pc : Int) + off = (tgt : Int)) (kt : ¬ x = 0 → tk_V p l e R s m args below meth c Q E nL n C cells slots tgt lo st) (kf : x = 0 → tk_V p l e R s m args below meth c Q E nL n C cells slots pc' lo st) : tk_V p l e R s m args below meth c Q E nL n C cells slots pc lo (.int x :: st) := by
  obtain ⟨d1, rfl⟩ := d
  exact fun H locs ls h2 h3 h4 => lv_if_ne cx.1 cx.2.1 d1 ht (fun h => kt h H locs ls h2 h3 h4) (fun h => kf h H locs ls h2 h3 h4)
theorem v_if_lt (cx : tk_X p s m args c cc nL own E n0) {x : Int32} {off : Int} (d : tk_D cc pc (.ifCond .lt off) 3 pc') (tgt : Nat) (ht : (pc : Int) + off = (tgt : Int)) (kt : x < 0 → tk_V p l e R s m args below meth c Q E nL n C cells slots tgt lo st) (kf : ¬ (x < 0) → tk_V p l e R s m args below meth c Q E nL n C cells slots pc' lo st) : tk_V p l e R s m args below meth c Q E nL n C cells slots pc lo (.int x :: st) := by
  obtain ⟨d1, rfl⟩ := d
  exact fun H locs ls h2 h3 h4 => lv_if_lt cx.1 cx.2.1 d1 ht (fun h => kt h H locs ls h2 h3 h4) (fun h => kf h H locs ls h2 h3 h4)
theorem v_if_ge (cx : tk_X p s m args c cc nL own E n0) {x : Int32} {off : Int} (d : tk_D cc pc (.ifCond .ge off) 3 pc') (tgt : Nat) (ht : (pc : Int) + off = (tgt : Int)) (kt : 0 ≤ x → tk_V p l e R s m args below meth c Q E nL n C cells slots tgt lo st) (kf : ¬ (0 ≤ x) → tk_V p l e R s m args below meth c Q E nL n C cells slots pc' lo st) : tk_V p l e R s m args below meth c Q E nL n C cells slots pc lo (.int x :: st) := by
  obtain ⟨d1, rfl⟩ := d
  exact fun H locs ls h2 h3 h4 => lv_if_ge cx.1 cx.2.1 d1 ht (fun h => kt h H locs ls h2 h3 h4) (fun h => kf h H locs ls h2 h3 h4)
theorem v_if_gt (cx : tk_X p s m args c cc nL own E n0) {x : Int32} {off : Int} (d : tk_D cc pc (.ifCond .gt off) 3 pc') (tgt : Nat) (ht : (pc : Int) + off = (tgt : Int)) (kt : 0 < x → tk_V p l e R s m args below meth c Q E nL n C cells slots tgt lo st) (kf : ¬ (0 < x) → tk_V p l e R s m args below meth c Q E nL n C cells slots pc' lo st) : tk_V p l e R s m args below meth c Q E nL n C cells slots pc lo (.int x :: st) := by
  obtain ⟨d1, rfl⟩ := d
  exact fun H locs ls h2 h3 h4 => lv_if_gt cx.1 cx.2.1 d1 ht (fun h => kt h H locs ls h2 h3 h4) (fun h => kf h H locs ls h2 h3 h4)
theorem v_if_le (cx : tk_X p s m args c cc nL own E n0) {x : Int32} {off : Int} (d : tk_D cc pc (.ifCond .le off) 3 pc') (tgt : Nat) (ht : (pc : Int) + off = (tgt : Int)) (kt : x ≤ 0 → tk_V p l e R s m args below meth c Q E nL n C cells slots tgt lo st) (kf : ¬ (x ≤ 0) → tk_V p l e R s m args below meth c Q E nL n C cells slots pc' lo st) : tk_V p l e R s m args below meth c Q E nL n C cells slots pc lo (.int x :: st) := by
  obtain ⟨d1, rfl⟩ := d
  exact fun H locs ls h2 h3 h4 => lv_if_le cx.1 cx.2.1 d1 ht (fun h => kt h H locs ls h2 h3 h4) (fun h => kf h H locs ls h2 h3 h4)
theorem v_icmp_eq (cx : tk_X p s m args c cc nL own E n0) {x y : Int32} {off : Int} (d : tk_D cc pc (.if_icmp .eq off) 3 pc') (tgt : Nat) (ht : (pc : Int) + off = (tgt : Int)) (kt : x = y → tk_V p l e R s m args below meth c Q E nL n C cells slots tgt lo st) (kf : ¬ (x = y) → tk_V p l e R s m args below meth c Q E nL n C cells slots pc' lo st) : tk_V p l e R s m args below meth c Q E nL n C cells slots pc lo (.int y :: .int x :: st) := by
  obtain ⟨d1, rfl⟩ := d
  exact fun H locs ls h2 h3 h4 => lv_icmp_eq cx.1 cx.2.1 d1 ht (fun h => kt h H locs ls h2 h3 h4) (fun h => kf h H locs ls h2 h3 h4)
theorem v_icmp_ne (cx : tk_X p s m args c cc nL own E n0) {x y : Int32} {off : Int} (d : tk_D cc pc (.if_icmp .ne off) 3 pc') (tgt : Nat) (ht : (pc : Int) + off = (tgt : Int)) (kt : ¬ x = y → tk_V p l e R s m args below meth c Q E nL n C cells slots tgt lo st) (kf : x = y → tk_V p l e R s m args below meth c Q E nL n C cells slots pc' lo st) : tk_V p l e R s m args below meth c Q E nL n C cells slots pc lo (.int y :: .int x :: st) := by
  obtain ⟨d1, rfl⟩ := d
  exact fun H locs ls h2 h3 h4 => lv_icmp_ne cx.1 cx.2.1 d1 ht (fun h => kt h H locs ls h2 h3 h4) (fun h => kf h H locs ls h2 h3 h4)
theorem v_icmp_lt (cx : tk_X p s m args c cc nL own E n0) {x y : Int32} {off : Int} (d : tk_D cc pc (.if_icmp .lt off) 3 pc') (tgt : Nat) (ht : (pc : Int) + off = (tgt : Int)) (kt : x < y → tk_V p l e R s m args below meth c Q E nL n C cells slots tgt lo st) (kf : ¬ (x < y) → tk_V p l e R s m args below meth c Q E nL n C cells slots pc' lo st) : tk_V p l e R s m args below meth c Q E nL n C cells slots pc lo (.int y :: .int x :: st) := by
  obtain ⟨d1, rfl⟩ := d
  exact fun H locs ls h2 h3 h4 => lv_icmp_lt cx.1 cx.2.1 d1 ht (fun h => kt h H locs ls h2 h3 h4) (fun h => kf h H locs ls h2 h3 h4)
theorem v_icmp_ge (cx : tk_X p s m args c cc nL own E n0) {x y : Int32} {off : Int} (d : tk_D cc pc (.if_icmp .ge off) 3 pc') (tgt : Nat) (ht : (pc : Int) + off = (tgt : Int)) (kt : y ≤ x → tk_V p l e R s m args below meth c Q E nL n C cells slots tgt lo st) (kf : ¬ (y ≤ x) → tk_V p l e R s m args below meth c Q E nL n C cells slots pc' lo st) : tk_V p l e R s m args below meth c Q E nL n C cells slots pc lo (.int y :: .int x :: st) := by
  obtain ⟨d1, rfl⟩ := d
  exact fun H locs ls h2 h3 h4 => lv_icmp_ge cx.1 cx.2.1 d1 ht (fun h => kt h H locs ls h2 h3 h4) (fun h => kf h H locs ls h2 h3 h4)
theorem v_icmp_gt (cx : tk_X p s m args c cc nL own E n0) {x y : Int32} {off : Int} (d : tk_D cc pc (.if_icmp .gt off) 3 pc') (tgt : Nat) (ht : (pc : Int) + off = (tgt : Int)) (kt : y < x → tk_V p l e R s m args below meth c Q E nL n C cells slots tgt lo st) (kf : ¬ (y < x) → tk_V p l e R s m args below meth c Q E nL n C cells slots pc' lo st) : tk_V p l e R s m args below meth c Q E nL n C cells slots pc lo (.int y :: .int x :: st) := by
  obtain ⟨d1, rfl⟩ := d
  exact fun H locs ls h2 h3 h4 => lv_icmp_gt cx.1 cx.2.1 d1 ht (fun h => kt h H locs ls h2 h3 h4) (fun h => kf h H locs ls h2 h3 h4)
theorem v_icmp_le (cx : tk_X p s m args c cc nL own E n0) {x y : Int32} {off : Int} (d : tk_D cc pc (.if_icmp .le off) 3 pc') (tgt : Nat) (ht : (pc : Int) + off = (tgt : Int)) (kt : x ≤ y → tk_V p l e R s m args below meth c Q E nL n C cells slots tgt lo st) (kf : ¬ (x ≤ y) → tk_V p l e R s m args below meth c Q E nL n C cells slots pc' lo st) : tk_V p l e R s m args below meth c Q E nL n C cells slots pc lo (.int y :: .int x :: st) := by
  obtain ⟨d1, rfl⟩ := d
  exact fun H locs ls h2 h3 h4 => lv_icmp_le cx.1 cx.2.1 d1 ht (fun h => kt h H locs ls h2 h3 h4) (fun h => kf h H locs ls h2 h3 h4)
theorem v_goto (cx : tk_X p s m args c cc nL own E n0) {off : Int} (d : tk_D cc pc (.goto off) 3 pc') (tgt : Nat) (ht : (pc : Int) + off = (tgt : Int)) (k : tk_V p l e R s m args below meth c Q E nL n C cells slots tgt lo st) : tk_V p l e R s m args below meth c Q E nL n C cells slots pc lo st := by
  obtain ⟨d1, rfl⟩ := d
  exact fun H locs ls h2 h3 h4 => lv_goto cx.1 cx.2.1 d1 ht (k H locs ls h2 h3 h4)
theorem v_tout (cx : tk_X p s m args c cc nL own E n0) {dflt lw hi : Int} {offs : Array Int} {len : Nat} {x : Int32} (d : tk_D cc pc (.tableswitch dflt lw hi offs) len pc') (tgt : Nat) (h : x.toInt < lw ∨ hi < x.toInt) (ht : (pc : Int) + dflt = (tgt : Int)) (k : tk_V p l e R s m args below meth c Q E nL n C cells slots tgt lo st) : tk_V p l e R s m args below meth c Q E nL n C cells slots pc lo (.int x :: st) := by
  obtain ⟨d1, rfl⟩ := d
  exact fun H locs ls h2 h3 h4 => lv_tableOut cx.1 cx.2.1 d1 h ht (k H locs ls h2 h3 h4)
theorem v_tin (cx : tk_X p s m args c cc nL own E n0) {dflt lw hi : Int} {offs : Array Int} {len : Nat} {x : Int32} {off : Int} (d : tk_D cc pc (.tableswitch dflt lw hi offs) len pc') (tgt : Nat) (g1 : ¬ x.toInt < lw) (g2 : ¬ hi < x.toInt) (ho : offs[(x.toInt - lw).toNat]? = some off) (ht : (pc : Int) + off = (tgt : Int)) (k : tk_V p l e R s m args below meth c Q E nL n C cells slots tgt lo st) : tk_V p l e R s m args below meth c Q E nL n C cells slots pc lo (.int x :: st) := by
  obtain ⟨d1, rfl⟩ := d
  exact fun H locs ls h2 h3 h4 => lv_tableIn cx.1 cx.2.1 d1 g1 g2 ho ht (k H locs ls h2 h3 h4)
theorem v_look (cx : tk_X p s m args c cc nL own E n0) {dflt : Int} {ps : Array (Int × Int)} {len : Nat} {x : Int32} {off : Int} (d : tk_D cc pc (.lookupswitch dflt ps) len pc') (tgt : Nat) (hp : (ps.toList.zip (ps.toList.drop 1)).all (fun (a, next) => a.1 < next.1) = true) (ho : Op.lookupswitch.offset ps.toList dflt x.toInt = off) (ht : (pc : Int) + off = (tgt : Int)) (k : tk_V p l e R s m args below meth c Q E nL n C cells slots tgt lo st) : tk_V p l e R s m args below meth c Q E nL n C cells slots pc lo (.int x :: st) := by
  obtain ⟨d1, rfl⟩ := d
  exact fun H locs ls h2 h3 h4 => lv_lookup cx.1 cx.2.1 d1 hp ho ht (k H locs ls h2 h3 h4)
theorem v_eqi {x : Int32} (y : Int32) (h : x = y) (k : tk_V p l e R s m args below meth c Q E nL n C cells slots pc lo (.int y :: st)) : tk_V p l e R s m args below meth c Q E nL n C cells slots pc lo (.int x :: st) := h ▸ k
theorem v_eql {x : Int64} (y : Int64) (h : x = y) (k : tk_V p l e R s m args below meth c Q E nL n C cells slots pc lo (.long y :: st)) : tk_V p l e R s m args below meth c Q E nL n C cells slots pc lo (.long x :: st) := h ▸ k
theorem v_eqi2 {x : Int32} {v : Value} (y : Int32) (h : x = y) (k : tk_V p l e R s m args below meth c Q E nL n C cells slots pc lo (v :: .int y :: st)) : tk_V p l e R s m args below meth c Q E nL n C cells slots pc lo (v :: .int x :: st) := h ▸ k
theorem v_topi {x : Int32} (k : ∀ y : Int32, y = x → tk_V p l e R s m args below meth c Q E nL n C cells slots pc lo (.int y :: st)) : tk_V p l e R s m args below meth c Q E nL n C cells slots pc lo (.int x :: st) := k x rfl
theorem v_topl {x : Int64} (k : ∀ y : Int64, y = x → tk_V p l e R s m args below meth c Q E nL n C cells slots pc lo (.long y :: st)) : tk_V p l e R s m args below meth c Q E nL n C cells slots pc lo (.long x :: st) := k x rfl
end TKR
