/-! rows that read and write the cells; calls; answers -/
section TKM
variable {p : Program} {l : Launch} {e : Env} {R : Room} {s : State} {m : MethodId} {args : Array Value} {below : List Frame} {meth : Method} {c : Code} {Q : State → Prop} {E : tk_E} {nL n n0 : Nat} {C C' : Nat → va_E} {cells slots pc pc' : Nat} {lo lo' : List (Option Value)} {st : List Value} {cc : ByteArray} {own : String} {M M' : tk_M}
theorem tk_same {own : String} {idx ci k : Nat} (fl : tk_Fl own idx ci k) : ∀ x, s.fieldFound? (tk_T ci k).1 (tk_T ci k).2.1 (tk_T ci k).2.2.1 = some x → s.fieldFound? (tk_R ci) (tk_T ci k).2.1 (tk_T ci k).2.2.1 = some x := by
  intro x h
  rw [fl.2.2.1] at h
  exact h
theorem tk_inT {ci : Nat} (h : ci < 10) : ∀ w ∈ u_ws (tk_R ci) (tk_T ci) (tk_N ci), w ∈ tk_tbl := by
  intro w hw
  refine tk_g (tk_in h w hw) ?_
  obtain ⟨j, -, rfl⟩ := List.mem_map.mp hw
  unfold u_lay
  split <;> rfl
/-- a field's value -/
theorem v_get1 (cx : tk_X p s m args c cc nL own E n0) {idx ci k i : Nat} {fs : List Value} {v : Value} (d : tk_D cc pc (.getfield idx) 3 pc') (fl : tk_Fl own idx ci k) (hi : i < n) (hC : C i = .inr (ci, fs)) (hv : fs[k]? = some v) (kk : tk_V p l e R s m args below meth c Q E nL n C cells slots pc' lo (v :: st)) : tk_V p l e R s m args below meth c Q E nL n C cells slots pc lo (.ref (E.1 + i) :: st) := by
  obtain ⟨d1, rfl⟩ := d
  intro H locs ls h2 h3 h4
  have he : (tk_wl E.1 n C)[i]? = some (E.1 + i, .inr (ci, fs)) := by rw [tk_wl_at hi, hC]
  rcases fl.2.2.2 with hl | hl
  · exact va_get cx.1 cx.2.1 cx.2.2.2.2.1 (tk_inT fl.1) cx.2.2.2.1 cx.2.2.2.2.2.2.1 h2 i he (tk_cl_at fl.1) k fl.2.1 (cx.2.2.2.2.1 _ (tk_g hl rfl)) (tk_same fl) hv d1 (kk H locs ls h2 h3 h4)
  · exact va_getN cx.1 cx.2.1 cx.2.2.2.2.1 (tk_inT fl.1) cx.2.2.2.1 cx.2.2.2.2.2.2.1 h2 i he (tk_cl_at fl.1) k fl.2.1 (va_Nw.use rfl (cx.2.2.2.2.2.1 _ hl rfl)) (tk_same fl) hv d1 (kk H locs ls h2 h3 h4)
/-- a field that is no constant takes a value -/
theorem v_put1 (cx : tk_X p s m args c cc nL own E n0) {idx ci k i : Nat} {fs : List Value} {v : Value} (d : tk_D cc pc (.putfield idx) 3 pc') (fl : tk_Fl own idx ci k) (hi : i < n) (hC : C i = .inr (ci, fs)) (hl0 : k < fs.length) (hfin : (tk_T ci k).2.2.2 = false) (hn : narrow (tk_ty ci k) v = v) (hfit : fits (tk_ty ci k) v = true) (kk : tk_V p l e R s m args below meth c Q E nL n (va_up C i (.inr (ci, fs.set k v))) cells slots pc' lo st) : tk_V p l e R s m args below meth c Q E nL n C cells slots pc lo (v :: .ref (E.1 + i) :: st) := by
  obtain ⟨d1, rfl⟩ := d
  intro H locs ls h2 h3 h4
  have he : (tk_wl E.1 n C)[i]? = some (E.1 + i, .inr (ci, fs)) := by rw [tk_wl_at hi, hC]
  have hD : va_D (tk_A E) (tk_wl E.1 n C) := tk_wl_D (fun q h => h)
  rcases fl.2.2.2 with hl | hl
  · exact va_put cx.1 cx.2.1 cx.2.2.2.2.1 (tk_inT fl.1) (tk_ty ci) (tk_tyok fl.1) (tk_nm fl.1) cx.2.2.2.1 cx.2.2.2.2.2.2.1 h2 hD h3 i he (tk_cl_at fl.1) k fl.2.1 (cx.2.2.2.2.1 _ (tk_g hl rfl)) (tk_same fl) hfin (tk_tyok fl.1 k fl.2.1) hn hfit hl0 d1 (fun H1 locs1 hP1 _ hS1 => kk H1 locs1 ls (by rw [tk_wl_set hi] at hP1; exact hP1) hS1 h4)
  · exact va_putN cx.1 cx.2.1 cx.2.2.2.2.1 (tk_inT fl.1) (tk_ty ci) (tk_tyok fl.1) (tk_nm fl.1) cx.2.2.2.1 cx.2.2.2.2.2.2.1 h2 hD h3 i he (tk_cl_at fl.1) k fl.2.1 (va_Nw.use rfl (cx.2.2.2.2.2.1 _ hl rfl)) (tk_same fl) hfin (tk_tyok fl.1 k fl.2.1) hn hfit hl0 d1 (fun H1 locs1 hP1 _ hS1 => kk H1 locs1 ls (by rw [tk_wl_set hi] at hP1; exact hP1) hS1 h4)
theorem tk_v_of {b i ci N k : Nat} {kd : Nat → Nat ⊕ Nat} (ho : tk_O i ci N kd) : tk_v b M i k = tk_val b (kd k) (M.1 i k) (M.2.1 i k) (M.2.2 i k) := by
  unfold tk_v
  rw [ho.1]
-- fields of the memory
theorem v_getI (cx : tk_X p s m args c cc nL own E n0) {idx ci k i N : Nat} {kd : Nat → Nat ⊕ Nat} (d : tk_D cc pc (.getfield idx) 3 pc') (fl : tk_Fl own idx ci k) (ho : tk_O i ci N kd) (hk : k < N) (hd : kd k = .inl 0) (kk : tk_V p l e R s m args below meth c Q E nL 209 (tk_ct E M) cells slots pc' lo (.int (M.1 i k) :: st)) : tk_V p l e R s m args below meth c Q E nL 209 (tk_ct E M) cells slots pc lo (.ref (E.1 + i) :: st) :=
  v_get1 cx d fl ho.2 (tk_ct_o ho fl.1) ((tk_fs_at hk).trans (congrArg some (by rw [tk_v_of ho, hd]; rfl))) kk
theorem v_getL (cx : tk_X p s m args c cc nL own E n0) {idx ci k i N : Nat} {kd : Nat → Nat ⊕ Nat} (d : tk_D cc pc (.getfield idx) 3 pc') (fl : tk_Fl own idx ci k) (ho : tk_O i ci N kd) (hk : k < N) (hd : kd k = .inl 1) (kk : tk_V p l e R s m args below meth c Q E nL 209 (tk_ct E M) cells slots pc' lo (.long (M.2.1 i k) :: st)) : tk_V p l e R s m args below meth c Q E nL 209 (tk_ct E M) cells slots pc lo (.ref (E.1 + i) :: st) :=
  v_get1 cx d fl ho.2 (tk_ct_o ho fl.1) ((tk_fs_at hk).trans (congrArg some (by rw [tk_v_of ho, hd]; rfl))) kk
/-- a constant field that names a cell -/
theorem v_getC (cx : tk_X p s m args c cc nL own E n0) {idx ci k i N : Nat} {kd : Nat → Nat ⊕ Nat} (q : Nat) (d : tk_D cc pc (.getfield idx) 3 pc') (fl : tk_Fl own idx ci k) (ho : tk_O i ci N kd) (hk : k < N) (hd : kd k = .inr q) (kk : tk_V p l e R s m args below meth c Q E nL 209 (tk_ct E M) cells slots pc' lo (.ref (E.1 + q) :: st)) : tk_V p l e R s m args below meth c Q E nL 209 (tk_ct E M) cells slots pc lo (.ref (E.1 + i) :: st) :=
  v_get1 cx d fl ho.2 (tk_ct_o ho fl.1) ((tk_fs_at hk).trans (congrArg some (by rw [tk_v_of ho, hd]; rfl))) kk
/-- a field that names a cell, which may change -/
theorem v_getR (cx : tk_X p s m args c cc nL own E n0) {idx ci k i N : Nat} {kd : Nat → Nat ⊕ Nat} {q : Nat} (d : tk_D cc pc (.getfield idx) 3 pc') (fl : tk_Fl own idx ci k) (ho : tk_O i ci N kd) (hk : k < N) (hd : kd k = .inl 2) (hq : M.2.2 i k = q) (kk : tk_V p l e R s m args below meth c Q E nL 209 (tk_ct E M) cells slots pc' lo (.ref (E.1 + q) :: st)) : tk_V p l e R s m args below meth c Q E nL 209 (tk_ct E M) cells slots pc lo (.ref (E.1 + i) :: st) :=
  v_get1 cx d fl ho.2 (tk_ct_o ho fl.1) ((tk_fs_at hk).trans (congrArg some (by rw [tk_v_of ho, hd, hq]; rfl))) kk
theorem v_putI (cx : tk_X p s m args c cc nL own E n0) {idx ci k i N : Nat} {kd : Nat → Nat ⊕ Nat} {x : Int32} (d : tk_D cc pc (.putfield idx) 3 pc') (fl : tk_Fl own idx ci k) (ho : tk_O i ci N kd) (hk : k < N) (hd : kd k = .inl 0) (hty : tk_ty ci k = .int ∧ (tk_T ci k).2.2.2 = false) (kk : tk_V p l e R s m args below meth c Q E nL 209 (tk_ct E (wI M i k x)) cells slots pc' lo st) : tk_V p l e R s m args below meth c Q E nL 209 (tk_ct E M) cells slots pc lo (.int x :: .ref (E.1 + i) :: st) := by
  refine v_put1 cx d fl ho.2 (tk_ct_o ho fl.1) (by simpa using hk) hty.2 (by rw [hty.1]; rfl) (by rw [hty.1]; rfl) ?_
  rw [tk_ct_set (M' := wI M i k x) ho fl.1 hk (by rw [tk_v_of ho, hd]; simp [tk_val, wI]) (fun a b h => by simp [wI, h])]
  exact kk
theorem v_putZ (cx : tk_X p s m args c cc nL own E n0) {idx ci k i N : Nat} {kd : Nat → Nat ⊕ Nat} {x : Int32} (d : tk_D cc pc (.putfield idx) 3 pc') (fl : tk_Fl own idx ci k) (ho : tk_O i ci N kd) (hk : k < N) (hd : kd k = .inl 0) (hty : tk_ty ci k = .boolean ∧ (tk_T ci k).2.2.2 = false) (hx : x = 0 ∨ x = 1) (kk : tk_V p l e R s m args below meth c Q E nL 209 (tk_ct E (wI M i k x)) cells slots pc' lo st) : tk_V p l e R s m args below meth c Q E nL 209 (tk_ct E M) cells slots pc lo (.int x :: .ref (E.1 + i) :: st) := by
  refine v_put1 cx d fl ho.2 (tk_ct_o ho fl.1) (by simpa using hk) hty.2 (by rw [hty.1]; rcases hx with rfl | rfl <;> decide +kernel) (by rw [hty.1]; rcases hx with rfl | rfl <;> decide +kernel) ?_
  rw [tk_ct_set (M' := wI M i k x) ho fl.1 hk (by rw [tk_v_of ho, hd]; simp [tk_val, wI]) (fun a b h => by simp [wI, h])]
  exact kk
theorem v_putL (cx : tk_X p s m args c cc nL own E n0) {idx ci k i N : Nat} {kd : Nat → Nat ⊕ Nat} {x : Int64} (d : tk_D cc pc (.putfield idx) 3 pc') (fl : tk_Fl own idx ci k) (ho : tk_O i ci N kd) (hk : k < N) (hd : kd k = .inl 1) (hty : tk_ty ci k = .long ∧ (tk_T ci k).2.2.2 = false) (kk : tk_V p l e R s m args below meth c Q E nL 209 (tk_ct E (wL M i k x)) cells slots pc' lo st) : tk_V p l e R s m args below meth c Q E nL 209 (tk_ct E M) cells slots pc lo (.long x :: .ref (E.1 + i) :: st) := by
  refine v_put1 cx d fl ho.2 (tk_ct_o ho fl.1) (by simpa using hk) hty.2 (by rw [hty.1]; rfl) (by rw [hty.1]; rfl) ?_
  rw [tk_ct_set (M' := wL M i k x) ho fl.1 hk (by rw [tk_v_of ho, hd]; simp [tk_val, wL]) (fun a b h => by simp [wL, h])]
  exact kk
theorem v_putR (cx : tk_X p s m args c cc nL own E n0) {idx ci k i N : Nat} {kd : Nat → Nat ⊕ Nat} {q : Nat} {on : String} (d : tk_D cc pc (.putfield idx) 3 pc') (fl : tk_Fl own idx ci k) (ho : tk_O i ci N kd) (hk : k < N) (hd : kd k = .inl 2) (hty : tk_ty ci k = .object on ∧ (tk_T ci k).2.2.2 = false) (kk : tk_V p l e R s m args below meth c Q E nL 209 (tk_ct E (wR M i k q)) cells slots pc' lo st) : tk_V p l e R s m args below meth c Q E nL 209 (tk_ct E M) cells slots pc lo (.ref (E.1 + q) :: .ref (E.1 + i) :: st) := by
  refine v_put1 cx d fl ho.2 (tk_ct_o ho fl.1) (by simpa using hk) hty.2 (by rw [hty.1]; rfl) (by rw [hty.1]; rfl) ?_
  rw [tk_ct_set (M' := wR M i k q) ho fl.1 hk (by rw [tk_v_of ho, hd]; simp [tk_val, wR]) (fun a b h => by simp [wR, h])]
  exact kk
-- arrays
theorem tk_ct_at {i : Nat} (hi : i < 209) {x : va_E} (h : tk_ct E M i = x) : (tk_wl E.1 209 (tk_ct E M))[i]? = some (E.1 + i, x) := by rw [tk_wl_at hi, h]
theorem v_iald (cx : tk_X p s m args c cc nL own E n0) {i N : Nat} {kd : Nat → Nat ⊕ Nat} {x : Int32} (d : tk_D cc pc .iaload 1 pc') (ho : tk_O i 10 N kd) (hin : vp_in x N) (kk : tk_V p l e R s m args below meth c Q E nL 209 (tk_ct E M) cells slots pc' lo (.int (M.1 i x.toNatClampNeg) :: st)) : tk_V p l e R s m args below meth c Q E nL 209 (tk_ct E M) cells slots pc lo (.int x :: .ref (E.1 + i) :: st) := by
  obtain ⟨d1, rfl⟩ := d
  exact fun H locs ls h2 h3 h4 => va_iald cx.1 cx.2.1 cx.2.2.2.2.2.2.1 h2 i 0 (tk_ct_at ho.2 (tk_ct_a ho (by decide) (by decide))) rfl hin d1 (kk H locs ls h2 h3 h4)
theorem v_zald (cx : tk_X p s m args c cc nL own E n0) {i N : Nat} {kd : Nat → Nat ⊕ Nat} {x : Int32} (d : tk_D cc pc .baload 1 pc') (ho : tk_O i 11 N kd) (hin : vp_in x N) (kk : tk_V p l e R s m args below meth c Q E nL 209 (tk_ct E M) cells slots pc' lo (.int (M.1 i x.toNatClampNeg) :: st)) : tk_V p l e R s m args below meth c Q E nL 209 (tk_ct E M) cells slots pc lo (.int x :: .ref (E.1 + i) :: st) := by
  obtain ⟨d1, rfl⟩ := d
  exact fun H locs ls h2 h3 h4 => va_zald cx.1 cx.2.1 cx.2.2.2.2.2.2.1 h2 i 1 (tk_ct_at ho.2 (tk_ct_a ho (by decide) (by decide))) rfl hin d1 (kk H locs ls h2 h3 h4)
theorem v_lald (cx : tk_X p s m args c cc nL own E n0) {i N : Nat} {kd : Nat → Nat ⊕ Nat} {x : Int32} (d : tk_D cc pc .laload 1 pc') (ho : tk_O i 12 N kd) (hin : vp_in x N) (kk : tk_V p l e R s m args below meth c Q E nL 209 (tk_ct E M) cells slots pc' lo (.long (M.2.1 i x.toNatClampNeg) :: st)) : tk_V p l e R s m args below meth c Q E nL 209 (tk_ct E M) cells slots pc lo (.int x :: .ref (E.1 + i) :: st) := by
  obtain ⟨d1, rfl⟩ := d
  exact fun H locs ls h2 h3 h4 => va_lald cx.1 cx.2.1 cx.2.2.2.2.2.2.1 h2 i 2 (tk_ct_at ho.2 (tk_ct_l ho)) rfl hin d1 (kk H locs ls h2 h3 h4)
theorem tk_tys_at {t : Nat} (h3 : 3 ≤ t) (h9 : t < 9) : ∃ nm, (tk_tys E)[t]? = some (E.2.2.1 t, .object nm) := by
  rcases (show t = 3 ∨ t = 4 ∨ t = 5 ∨ t = 6 ∨ t = 7 ∨ t = 8 by omega) with rfl | rfl | rfl | rfl | rfl | rfl <;> exact ⟨_, rfl⟩
theorem v_aald (cx : tk_X p s m args c cc nL own E n0) {i ca N : Nat} {kd : Nat → Nat ⊕ Nat} {x : Int32} (q : Nat) (d : tk_D cc pc .aaload 1 pc') (ho : tk_O i ca N kd) (hca : 13 ≤ ca ∧ ca < 19) (hin : vp_in x N) (hq : tk_rn (kd x.toNatClampNeg) (M.2.2 i x.toNatClampNeg) = q) (kk : tk_V p l e R s m args below meth c Q E nL 209 (tk_ct E M) cells slots pc' lo (.ref (E.1 + q) :: st)) : tk_V p l e R s m args below meth c Q E nL 209 (tk_ct E M) cells slots pc lo (.int x :: .ref (E.1 + i) :: st) := by
  obtain ⟨d1, rfl⟩ := d
  obtain ⟨nm, hn⟩ := tk_tys_at (E := E) (t := ca - 10) (by omega) (by omega)
  refine fun H locs ls h2 h3 h4 => va_aldq cx.1 cx.2.1 cx.2.2.2.2.2.2.1 h2 i (ca - 10) (tk_ct_at ho.2 (tk_ct_r ho (by omega))) hn hin d1 ?_
  have h := kk H locs ls h2 h3 h4
  rw [← hq] at h
  exact h
theorem v_iast (cx : tk_X p s m args c cc nL own E n0) {i N : Nat} {kd : Nat → Nat ⊕ Nat} {x y : Int32} (d : tk_D cc pc .iastore 1 pc') (ho : tk_O i 10 N kd) (hin : vp_in x N) (kk : tk_V p l e R s m args below meth c Q E nL 209 (tk_ct E (wI M i x.toNatClampNeg y)) cells slots pc' lo st) : tk_V p l e R s m args below meth c Q E nL 209 (tk_ct E M) cells slots pc lo (.int y :: .int x :: .ref (E.1 + i) :: st) := by
  obtain ⟨d1, rfl⟩ := d
  refine fun H locs ls h2 h3 h4 => va_iast cx.1 cx.2.1 cx.2.2.2.2.2.2.1 h2 (tk_wl_D (fun q h => h)) h3 i 0 (tk_ct_at ho.2 (tk_ct_a ho (by decide) (by decide))) rfl hin d1 (fun H1 locs1 hP1 _ hS1 => kk H1 locs1 ls ?_ hS1 h4)
  rw [tk_wl_set ho.2, tk_ct_upd (M' := wI M i x.toNatClampNeg y) (by rw [tk_ct_a ho (by decide) (by decide), wI_self]) (fun a ha b => by simp [wI, ha])] at hP1
  exact hP1
theorem v_zast (cx : tk_X p s m args c cc nL own E n0) {i N : Nat} {kd : Nat → Nat ⊕ Nat} {x y : Int32} (d : tk_D cc pc .bastore 1 pc') (ho : tk_O i 11 N kd) (hin : vp_in x N) (hy : y = 0 ∨ y = 1) (kk : tk_V p l e R s m args below meth c Q E nL 209 (tk_ct E (wI M i x.toNatClampNeg y)) cells slots pc' lo st) : tk_V p l e R s m args below meth c Q E nL 209 (tk_ct E M) cells slots pc lo (.int y :: .int x :: .ref (E.1 + i) :: st) := by
  obtain ⟨d1, rfl⟩ := d
  refine fun H locs ls h2 h3 h4 => va_zast cx.1 cx.2.1 cx.2.2.2.2.2.2.1 h2 (tk_wl_D (fun q h => h)) h3 i 1 (tk_ct_at ho.2 (tk_ct_a ho (by decide) (by decide))) rfl hin d1 (fun H1 locs1 hP1 _ hS1 => kk H1 locs1 ls ?_ hS1 h4)
  rw [show vp_nar .boolean y = y by rcases hy with rfl | rfl <;> decide +kernel, tk_wl_set ho.2, tk_ct_upd (M' := wI M i x.toNatClampNeg y) (by rw [tk_ct_a ho (by decide) (by decide), wI_self]) (fun a ha b => by simp [wI, ha])] at hP1
  exact hP1
theorem v_last (cx : tk_X p s m args c cc nL own E n0) {i N : Nat} {kd : Nat → Nat ⊕ Nat} {x : Int32} {y : Int64} (d : tk_D cc pc .lastore 1 pc') (ho : tk_O i 12 N kd) (hin : vp_in x N) (kk : tk_V p l e R s m args below meth c Q E nL 209 (tk_ct E (wL M i x.toNatClampNeg y)) cells slots pc' lo st) : tk_V p l e R s m args below meth c Q E nL 209 (tk_ct E M) cells slots pc lo (.long y :: .int x :: .ref (E.1 + i) :: st) := by
  obtain ⟨d1, rfl⟩ := d
  refine fun H locs ls h2 h3 h4 => va_last cx.1 cx.2.1 cx.2.2.2.2.2.2.1 h2 (tk_wl_D (fun q h => h)) h3 i 2 (tk_ct_at ho.2 (tk_ct_l ho)) rfl hin d1 (fun H1 locs1 hP1 _ hS1 => kk H1 locs1 ls ?_ hS1 h4)
  rw [tk_wl_set ho.2, tk_ct_upd (M' := wL M i x.toNatClampNeg y) (by rw [tk_ct_l ho, wL_self]) (fun a ha b => by simp [wL, ha])] at hP1
  exact hP1
/-- the row of letters takes a letter -/
theorem v_aast (cx : tk_X p s m args c cc nL own E n0) {x : Int32} {q : Nat} (d : tk_D cc pc .aastore 1 pc') (hin : vp_in x 60) (h8 : 8 ≤ q) (h70 : q < 70) (kk : tk_V p l e R s m args below meth c Q E nL 209 (tk_ct E (wR M 7 x.toNatClampNeg q)) cells slots pc' lo st) : tk_V p l e R s m args below meth c Q E nL 209 (tk_ct E M) cells slots pc lo (.ref (E.1 + q) :: .int x :: .ref (E.1 + 7) :: st) := by
  obtain ⟨d1, rfl⟩ := d
  have ho := o_row
  have hL := o_L h8 h70
  refine fun H locs ls h2 h3 h4 => va_astq (r := (tk_R 2, tk_T 2, tk_N 2)) cx.1 cx.2.1 cx.2.2.2.2.2.2.1 h2 (tk_wl_D (fun q h => h)) h3 7 7 q 2 (tk_ct_at ho.2 (tk_ct_r ho (by decide))) rfl (tk_ct_at hL.2 (tk_ct_o hL (by decide))) (tk_cl_at (by decide)) hin d1 (fun H1 locs1 hP1 _ hS1 => kk H1 locs1 ls ?_ hS1 h4)
  rw [tk_wl_set ho.2, tk_ct_upd (M' := wR M 7 x.toNatClampNeg q) (by
    rw [tk_ct_r ho (by decide)]
    congr 7
    funext k
    by_cases hk : k = x.toNatClampNeg
    · subst hk
      simp [va_up, tk_rn, wR]
    · simp [va_up, tk_rn, wR, hk]) (fun a ha b => by simp [wR, ha])] at hP1
  exact hP1
end TKM
