/-! rows that make cells -/
theorem in_0 : Cond.instanceMethod objectInit ∈ lw_tbl := tk_tb 20 (by decide +kernel)
theorem in_1 : Cond.code objectInit ⟨#[0xb1]⟩ 1 none ∈ lw_tbl := tk_tb 21 (by decide +kernel)
theorem ac_I : Cond.arrayClass .int ∈ lw_tbl := tk_tb 124 (by decide +kernel)
theorem ac_Z : Cond.arrayClass .boolean ∈ lw_tbl := tk_tb 84 (by decide +kernel)
theorem ac_L : Cond.arrayClass .long ∈ lw_tbl := tk_tb 787 (by decide +kernel)
theorem it_K : Cond.instantiable (tk_R 0) (tk_N 0) ∈ lw_tbl ∧ Cond.initialized (tk_R 0) ∈ lw_tbl := ⟨tk_tb 15 (by decide +kernel), tk_tb 1 (by decide +kernel)⟩
theorem it_P : Cond.instantiable (tk_R 1) (tk_N 1) ∈ lw_tbl ∧ Cond.initialized (tk_R 1) ∈ lw_tbl := ⟨tk_tb 31 (by decide +kernel), tk_tb 2 (by decide +kernel)⟩
theorem it_L : Cond.instantiable (tk_R 2) (tk_N 2) ∈ lw_tbl ∧ Cond.initialized (tk_R 2) ∈ lw_tbl := ⟨tk_tb 38 (by decide +kernel), tk_tb 3 (by decide +kernel)⟩
theorem it_Z : Cond.instantiable (tk_R 3) (tk_N 3) ∈ lw_tbl ∧ Cond.initialized (tk_R 3) ∈ lw_tbl := ⟨tk_tb 100 (by decide +kernel), tk_tb 4 (by decide +kernel)⟩
theorem it_J : Cond.instantiable (tk_R 4) (tk_N 4) ∈ lw_tbl ∧ Cond.initialized (tk_R 4) ∈ lw_tbl := ⟨tk_tb 125 (by decide +kernel), tk_tb 5 (by decide +kernel)⟩
theorem it_U : Cond.instantiable (tk_R 5) (tk_N 5) ∈ lw_tbl ∧ Cond.initialized (tk_R 5) ∈ lw_tbl := ⟨tk_tb 131 (by decide +kernel), tk_tb 6 (by decide +kernel)⟩
theorem it_N : Cond.instantiable (tk_R 6) (tk_N 6) ∈ lw_tbl ∧ Cond.initialized (tk_R 6) ∈ lw_tbl := ⟨tk_tb 194 (by decide +kernel), tk_tb 7 (by decide +kernel)⟩
theorem it_S : Cond.instantiable (tk_R 7) (tk_N 7) ∈ lw_tbl ∧ Cond.initialized (tk_R 7) ∈ lw_tbl := ⟨tk_tb 215 (by decide +kernel), tk_tb 8 (by decide +kernel)⟩
theorem it_E : Cond.instantiable (tk_R 8) (tk_N 8) ∈ lw_tbl ∧ Cond.initialized (tk_R 8) ∈ lw_tbl := ⟨tk_tb 222 (by decide +kernel), tk_tb 9 (by decide +kernel)⟩
theorem it_M : Cond.instantiable (tk_R 9) (tk_N 9) ∈ lw_tbl ∧ Cond.initialized (tk_R 9) ∈ lw_tbl := ⟨tk_tb 652 (by decide +kernel), tk_tb 10 (by decide +kernel)⟩
theorem ao_Z : Cond.arrayOver (.object R_Z) ∈ lw_tbl := tk_tb 23 (by decide +kernel)
theorem ao_J : Cond.arrayOver (.object R_J) ∈ lw_tbl := tk_tb 25 (by decide +kernel)
theorem ao_S : Cond.arrayOver (.object R_S) ∈ lw_tbl := tk_tb 27 (by decide +kernel)
theorem ao_N : Cond.arrayOver (.object R_N) ∈ lw_tbl := tk_tb 29 (by decide +kernel)
theorem ao_L : Cond.arrayOver (.object R_L) ∈ lw_tbl := tk_tb 37 (by decide +kernel)
theorem ao_E : Cond.arrayOver (.object R_E) ∈ lw_tbl := tk_tb 221 (by decide +kernel)
section TKN
variable {p : Program} {l : Launch} {e : Env} {R : Room} {s : State} {m : MethodId} {args : Array Value} {below : List Frame} {meth : Method} {c : Code} {Q : State → Prop} {E : tk_E} {nL n n0 n' : Nat} {C C' : Nat → va_E} {cells slots pc pc' : Nat} {lo lo' : List (Option Value)} {st : List Value} {cc : ByteArray} {own : String} {y : MethodName}
theorem v_eqC (h : ∀ i, i < n → C i = C' i) (kk : tk_V p l e R s m args below meth c Q E nL n C' cells slots pc lo st) : tk_V p l e R s m args below meth c Q E nL n C cells slots pc lo st := fun H locs ls h2 h3 h4 => kk H locs ls (by rw [← tk_wl_congr h]; exact h2) h3 h4
theorem tk_zy (cx : tk_X p s m args c cc nL own E n0) {H : Heap} {locs : List Loc} (h2 : va_P E.2.1 tk_cl (tk_wl E.1 n C) H) (h3 : va_S (tk_A E) s.heap H locs) (hz : H.size ≤ s.heap.size + cells) (hn0 : n0 + cells = n) : H.size = E.1 + n := by
  have h6 := cx.2.2.2.2.2.2.2.2
  rcases Nat.eq_zero_or_pos n with h | h
  · have := h3.1
    omega
  · have h5 := tk_low h2 h
    omega
/-- one cell more -/
theorem tk_more {H H1 : Heap} {x : va_E} (h2 : va_P E.2.1 tk_cl (tk_wl E.1 n C) H) (hz : H.size = E.1 + n) (o1 : ∀ q, q < H.size → H1[q]? = H[q]?) (hx : va_at E.2.1 tk_cl (E.1 + n, x) H1) : va_P E.2.1 tk_cl (tk_wl E.1 (n + 1) (va_up C n x)) H1 := by
  intro k q hq
  obtain ⟨hk, rfl⟩ := tk_wl_get hq
  by_cases h : k = n
  · subst h
    simp only [va_up, if_true]
    exact hx
  · have e : va_up C n x k = C k := by simp [va_up, h]
    rw [e]
    exact (h2 k _ (tk_wl_at (by omega))).kept (o1 _ (by rw [hz]; omega))
theorem tk_moreS {H H1 : Heap} {locs : List Loc} (h3 : va_S (tk_A E) s.heap H locs) (z1 : H1.size = H.size + 1) (o1 : ∀ q, q < H.size → H1[q]? = H[q]?) : va_S (tk_A E) s.heap H1 locs := ⟨Nat.le_trans h3.1 (by omega), fun x h1 h2 => (o1 x (Nat.lt_of_lt_of_le h1 h3.1)).trans (h3.2.1 x h1 h2), h3.2.2⟩
theorem v_new1 (cx : tk_X p s m args c cc nL own E n0) {idx ci : Nat} (fs : List Value) (d : tk_D cc pc (.new idx) 3 pc') (hcl : Cond.classLink own idx (tk_R ci) ∈ lw_tbl) (hci : ci < 10) (hit : Cond.instantiable (tk_R ci) (tk_N ci) ∈ lw_tbl ∧ Cond.initialized (tk_R ci) ∈ lw_tbl) (hfs : ∀ j, j < tk_N ci → defaultValue (tk_ty ci j) = vp_V fs j) (hroom : cells + 1 ≤ R.cells ∧ slots + tk_N ci ≤ R.slots) (hn0 : n0 + cells = n)
    (kk : tk_V p l e R s m args below meth c Q E nL (n + 1) (va_up C n (.inr (ci, fs))) (cells + 1) (slots + tk_N ci) pc' lo (.ref (E.1 + n) :: st)) : tk_V p l e R s m args below meth c Q E nL n C cells slots pc lo st := by
  obtain ⟨d1, rfl⟩ := d
  intro H locs ls h2 h3 h4
  refine tk_size fun hz => ?_
  have hzz := tk_zy cx h2 h3 hz hn0
  have hKn := cx.2.2.2.2.2.2.1.1 ci _ (tk_cl_at hci)
  refine W.newcK cx.1 cx.2.1 cx.2.2.2.1 (cx.2.2.2.2.1 _ (tk_g hcl rfl)) (cx.2.2.2.2.1 _ (tk_g hit.1 rfl)) (cx.2.2.2.2.1 _ (tk_g hit.2 rfl)) rfl d1 hroom.1 hroom.2 hKn.2.1 rfl fun H1 kC hkC e1 z1 o1 => ?_
  have hb := u_born (tk_ty ci) cx.2.2.2.2.1 (tk_inT hci) hKn hkC e1 (tk_tyok hci)
  rw [hzz] at hb
  have := kk H1 locs ls (tk_more h2 hzz o1 ⟨_, tk_cl_at hci, hb.to hfs⟩) (tk_moreS h3 z1 o1) h4
  rw [← hzz] at this
  exact this
theorem v_newa1 (cx : tk_X p s m args c cc nL own E n0) {atype : ArrayType} {ty : FieldType} (a0 : vp_A) (t0 : Nat) {x : Int32} (N : Nat) (d : tk_D cc pc (.newarray atype) 2 pc') (harr : Cond.arrayClass ty ∈ lw_tbl) (hty : newarray.typeOf atype = ty) (ht0 : (tk_tys E)[t0]? = some (E.2.2.1 t0, ty)) (hra : va_RA s (E.2.2.1 t0) ty = (s.vm.findClass ("[" ++ ty.toString) = some (E.2.2.1 t0))) (ha : ∀ cA : ClassId, vp_cell cA a0 = arrV cA N (fun _ => defaultValue ty)) (hx : x = nI N) (hN : N < 1000) (hby : componentBytes ty ≤ 8) (hroom : cells + 1 ≤ R.cells ∧ slots + N ≤ R.slots) (hn0 : n0 + cells = n)
    (kk : tk_V p l e R s m args below meth c Q E nL (n + 1) (va_up C n (.inl (E.2.2.1 t0, a0))) (cells + 1) (slots + N) pc' lo (.ref (E.1 + n) :: st)) : tk_V p l e R s m args below meth c Q E nL n C cells slots pc lo (.int x :: st) := by
  obtain ⟨d1, rfl⟩ := d
  subst hty
  intro H locs ls h2 h3 h4
  refine tk_size fun hz => ?_
  have hzz := tk_zy cx h2 h3 hz hn0
  refine va_newaK cx.1 cx.2.1 (cx.2.2.2.2.1 _ (tk_g harr rfl)) rfl d1 rfl (by rw [hx]; exact nI_pos (by omega)) (by rw [hx]; exact nI_clamp (by omega)) (Nat.le_trans (Nat.mul_le_mul (Nat.le_of_lt hN) hby) (by decide)) hroom.1 hroom.2 hzz fun H1 cA e1 z1 o1 hAr hNm => ?_
  have hc : cA = E.2.2.1 t0 := by
    have h := (cx.2.2.2.2.2.2.1.2 t0 _ ht0).2
    rw [hra] at h
    exact Option.some.inj (hNm.symm.trans h)
  subst hc
  exact kk H1 locs ls (tk_more h2 hzz (fun q hq => o1 q (by omega)) (by show H1[E.1 + n]? = some (vp_cell _ _); rw [ha]; exact e1)) (tk_moreS h3 (by omega) (fun q hq => o1 q (by omega))) h4
theorem v_anew1 (cx : tk_X p s m args c cc nL own E n0) {idx : Nat} {nm : String} (f : Nat → Option Nat) (t0 : Nat) {x : Int32} (N : Nat) (d : tk_D cc pc (.anewarray idx) 3 pc') (hcl : Cond.classLink own idx nm ∈ lw_tbl) (hao : Cond.arrayOver (.object nm) ∈ lw_tbl) (ht0 : (tk_tys E)[t0]? = some (E.2.2.1 t0, .object nm)) (hf : ∀ j, j < N → f j = none) (hx : x = nI N) (hN : N < 1000) (hroom : cells + 1 ≤ R.cells ∧ slots + N ≤ R.slots) (hn0 : n0 + cells = n)
    (kk : tk_V p l e R s m args below meth c Q E nL (n + 1) (va_up C n (.inl (E.2.2.1 t0, N, .inr (.inr (.inr (.inr f)))))) (cells + 1) (slots + N) pc' lo (.ref (E.1 + n) :: st)) : tk_V p l e R s m args below meth c Q E nL n C cells slots pc lo (.int x :: st) := by
  obtain ⟨d1, rfl⟩ := d
  subst hx
  intro H locs ls h2 h3 h4
  refine tk_size fun hz => ?_
  have hzz := tk_zy cx h2 h3 hz hn0
  have hcl1 := nI_clamp (n := N) (by omega)
  refine W.anew cx.1 cx.2.1 cx.2.2.2.1 (cx.2.2.2.2.1 _ (tk_g hcl rfl)) (va_AO.use (cx.2.2.2.2.2.1 _ hao rfl)) rfl d1 rfl (nI_pos (by omega)) (by rw [hcl1]; omega) hroom.1 (by rw [hcl1]; exact hroom.2) fun cA kA comp f1 f2 f3 f4 => ?_
  generalize hH1 : H.push ({ cls := cA, slots := Array.replicate (nI N).toNatClampNeg .null, vm := .none } : Cell) = H1
  have z1 : H1.size = H.size + 1 := by rw [← hH1, Array.size_push]
  have e1 : H1[H.size]? = some (arrV cA N (fun _ => .null)) := by rw [← hH1, Array.getElem?_push_size, hcl1, ← arrV_new]
  have o1 : ∀ q : Nat, q < H.size → H1[q]? = H[q]? := fun q hq => by rw [← hH1, Array.getElem?_push, if_neg (Nat.ne_of_lt hq)]
  have hc : cA = E.2.2.1 t0 := by
    obtain ⟨kA', comp', g1, g2, g3, g4⟩ := (cx.2.2.2.2.2.2.1.2 t0 _ ht0).2
    exact Option.some.inj (f1.symm.trans g4)
  subst hc
  have ef : arrV (E.2.2.1 t0) N (fun _ => Value.null) = vp_cell (E.2.2.1 t0) (N, .inr (.inr (.inr (.inr f)))) := by
    rw [vp_cell_q]
    unfold arrV
    congr 1
    apply Array.ext_getElem?
    intro j
    by_cases hj : j < N
    · simp [hj, hf j hj, va_rf]
    · simp [hj]
  have := kk H1 locs ls (tk_more h2 hzz o1 (by show H1[E.1 + n]? = some (vp_cell _ _); rw [← ef, ← hzz]; exact e1)) (tk_moreS h3 z1 o1) h4
  rw [← hzz] at this
  simp only [hcl1]
  exact this
theorem v_putF1 (cx : tk_X p s m args c cc nL own E n0) (hB : tk_B meth none y) (hy : y.name = "<init>") {idx ci k i : Nat} {fs : List Value} {v : Value} (d : tk_D cc pc (.putfield idx) 3 pc') (fl : tk_Fl own idx ci k) (hl : Cond.fieldLink own idx (tk_R ci) (tk_T ci k).2.1 (tk_T ci k).2.2.1 ∈ lw_tbl) (hi : i < n) (hC : C i = .inr (ci, fs)) (hl0 : k < fs.length) (hfin : (tk_T ci k).2.2.2 = true) (hdecl : (tk_T ci k).1 = own) (hn : narrow (tk_ty ci k) v = v) (hfit : fits (tk_ty ci k) v = true) (kk : tk_V p l e R s m args below meth c Q E nL n (va_up C i (.inr (ci, fs.set k v))) cells slots pc' lo st) : tk_V p l e R s m args below meth c Q E nL n C cells slots pc lo (v :: .ref (E.1 + i) :: st) := by
  obtain ⟨d1, rfl⟩ := d
  intro H locs ls h2 h3 h4
  have he : (tk_wl E.1 n C)[i]? = some (E.1 + i, .inr (ci, fs)) := by rw [tk_wl_at hi, hC]
  have hD : va_D (tk_A E) (tk_wl E.1 n C) := tk_wl_D (fun q h => h)
  exact va_putF cx.1 cx.2.1 cx.2.2.2.2.1 (tk_inT fl.1) (tk_ty ci) (tk_tyok fl.1) (tk_nm fl.1) cx.2.2.2.1 cx.2.2.2.2.2.2.1 h2 hD h3 i he (tk_cl_at fl.1) k fl.2.1 (cx.2.2.2.2.1 _ (tk_g hl rfl)) (tk_same fl) hfin (hB.2.2.trans hy) hdecl (tk_tyok fl.1 k fl.2.1) hn hfit hl0 d1 (fun H1 locs1 hP1 _ hS1 => kk H1 locs1 ls (by rw [tk_wl_set hi] at hP1; exact hP1) hS1 h4)
theorem v_objI {d0 mc ms : Nat} (cx : tk_X p s m args c cc nL own E n0) {idx x : Nat} (d : tk_D cc pc (.invokespecial idx) 3 pc') (hm : Cond.methodLink own idx objectInit ∈ lw_tbl) (hcat : (st.map fun v => v.category).sum ≤ 8) (kk : tk_V p l e (tk_rm (d0 + 1) mc ms) s m args below meth c Q E nL n C cells slots pc' lo st) : tk_V p l e (tk_rm (d0 + 1) mc ms) s m args below meth c Q E nL n C cells slots pc lo (.ref x :: st) := by
  obtain ⟨d1, rfl⟩ := d
  intro H locs ls h2 h3 h4
  refine W.objInit cx.1 cx.2.1 cx.2.2.2.1 (cx.2.2.2.2.1 _ (tk_g hm rfl)) (cx.2.2.2.2.1 _ (tk_g in_0 rfl)) (cx.2.2.2.2.1 _ (tk_g in_1 rfl)) rfl (by rw [cx.2.2.1]; exact h4.1) rfl d1 (by simp [tk_rm]) (by simp [tk_rm]; omega) ?_
  exact W.eq (g2 := F0 m (pc + 3) ls st) rfl (kk H locs ls h2 h3 h4)
theorem v_callI1 {b : ByteArray} {mL d' mc ms np idx : Nat} {as rest : List Value} (cx : tk_X p s m args c cc nL own E n0) {i : Nat} (d : tk_D cc pc (.invokespecial idx) 3 pc') (hm : Cond.methodLink own idx y ∈ lw_tbl ∨ Cond.methodLinkNest own idx y "TickKeeper" ∈ lw_tbl) (hn : Cond.instanceMethod y ∈ lw_tbl) (hy : y.name = "<init>") (hc : tk_Cs y b mL none np) (hM : tk_Met l y b mL none d' E (.ref (E.1 + i) :: as) n C n' C' none mc ms) (hst : st = as.reverse ++ .ref (E.1 + i) :: rest) (hlen : as.length = np) (hcat : (rest.map fun v => v.category).sum ≤ 8) (hd : d' < R.frames) (hR : 44 * R.frames ≤ R.locals) (hroom : cells + mc ≤ R.cells ∧ slots + ms ≤ R.slots) (hn0 : n0 + cells = n) (hpos : 0 < n) (hn' : n0 ≤ n')
    (kk : tk_V p l e R s m args below meth c Q E nL n' C' (cells + mc) (slots + ms) pc' lo rest) : tk_V p l e R s m args below meth c Q E nL n C cells slots pc lo st := by
  obtain ⟨d1, rfl⟩ := d
  intro H locs ls h2 h3 h4
  refine tk_size fun hz => ?_
  rcases hm with hm | hm
  · exact tk_after cx (va_runI (As := as) (rest := rest) (b := E.1 + i) (g := F0 m pc ls st) ⟨cx.1, cx.2.1, cx.2.2.1, cx.2.2.2.1, cx.2.2.2.2.1⟩ hM ⟨tk_cb cx hm hc hd hR, hy, cx.2.2.2.2.1 _ (tk_g hn rfl)⟩ ⟨tk_blind, fun U hU hW => ⟨rfl, tk_enter cx (tk_zz cx h2 hz hn0 hpos) h2 h3 hU hW⟩⟩ rfl hlen h4.1 hst (lv_room hcat) d1 hroom) h3 h4 hn' kk
  · have hcn : va_CN R s args own idx y "TickKeeper" b mL none (tk_W y b mL none) (tk_rm d' mc ms) mc ms np := va_cnB np cx.2.2.2.2.1 (tk_WG hc.1) rfl rfl rfl (cx.2.2.2.2.2.1 _ hm rfl) (cx.2.2.2.2.1 _ (tk_g hc.2.1 rfl)) ⟨hc.2.2.1, hc.2.2.2.1, hc.2.2.2.2.1⟩ ⟨hd, by
      have h1 := hc.2.2.2.2.2
      show 8 + (mL + 11) + 44 * d' ≤ R.locals
      omega⟩
    exact tk_after cx (va_runIN (As := as) (rest := rest) (b := E.1 + i) (g := F0 m pc ls st) ⟨cx.1, cx.2.1, cx.2.2.1, cx.2.2.2.1, cx.2.2.2.2.1⟩ hM ⟨hcn, hy, cx.2.2.2.2.1 _ (tk_g hn rfl)⟩ ⟨tk_blind, fun U hU hW => ⟨rfl, tk_enter cx (tk_zz cx h2 hz hn0 hpos) h2 h3 hU hW⟩⟩ rfl hlen h4.1 hst (lv_room hcat) d1 hroom) h3 h4 hn' kk
theorem v_aast1 (cx : tk_X p s m args c cc nL own E n0) {x : Int32} {i q ci N : Nat} {vs : List Value} {f : Nat → Option Nat} (t0 : Nat) (d : tk_D cc pc .aastore 1 pc') (hi : i < n) (hC : C i = .inl (E.2.2.1 t0, N, .inr (.inr (.inr (.inr f))))) (ht0 : (tk_tys E)[t0]? = some (E.2.2.1 t0, .object (tk_R ci))) (hci : ci < 10) (hq : q < n) (hCq : C q = .inr (ci, vs)) (j : Nat) (hx : x = nI j) (hj : j < N) (hN : N < 1000) (kk : tk_V p l e R s m args below meth c Q E nL n (va_up C i (.inl (E.2.2.1 t0, N, .inr (.inr (.inr (.inr (va_up f j (some (E.1 + q)))))))) ) cells slots pc' lo st) : tk_V p l e R s m args below meth c Q E nL n C cells slots pc lo (.ref (E.1 + q) :: .int x :: .ref (E.1 + i) :: st) := by
  obtain ⟨d1, rfl⟩ := d
  subst hx
  intro H locs ls h2 h3 h4
  refine va_astq (r := (tk_R ci, tk_T ci, tk_N ci)) cx.1 cx.2.1 cx.2.2.2.2.2.2.1 h2 (tk_wl_D (fun q h => h)) h3 i t0 q ci (by rw [tk_wl_at hi, hC]) ht0 (by rw [tk_wl_at hq, hCq]) (tk_cl_at hci) (nI_in hj (by omega)) d1 (fun H1 locs1 hP1 _ hS1 => kk H1 locs1 ls ?_ hS1 h4)
  rw [tk_wl_set hi, nI_clamp (by omega)] at hP1
  exact hP1
theorem v_zast1 (cx : tk_X p s m args c cc nL own E n0) {x z : Int32} {i N : Nat} {f : Nat → Int32} (d : tk_D cc pc .bastore 1 pc') (hi : i < n) (hC : C i = .inl (E.2.2.1 1, N, .inl f)) (j : Nat) (hx : x = nI j) (hj : j < N) (hN : N < 1000) (hz : z = 0 ∨ z = 1) (kk : tk_V p l e R s m args below meth c Q E nL n (va_up C i (.inl (E.2.2.1 1, N, .inl (upd f j z)))) cells slots pc' lo st) : tk_V p l e R s m args below meth c Q E nL n C cells slots pc lo (.int z :: .int x :: .ref (E.1 + i) :: st) := by
  obtain ⟨d1, rfl⟩ := d
  subst hx
  intro H locs ls h2 h3 h4
  refine va_zast cx.1 cx.2.1 cx.2.2.2.2.2.2.1 h2 (tk_wl_D (fun q h => h)) h3 i 1 (by rw [tk_wl_at hi, hC]) rfl (nI_in hj (by omega)) d1 (fun H1 locs1 hP1 _ hS1 => kk H1 locs1 ls ?_ hS1 h4)
  rw [tk_wl_set hi, nI_clamp (by omega), show vp_nar .boolean z = z by rcases hz with rfl | rfl <;> decide +kernel] at hP1
  exact hP1
end TKN