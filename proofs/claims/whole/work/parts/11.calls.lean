/-! answers and calls -/
abbrev tk_Mt (l : Launch) (y : MethodName) (b : ByteArray) (nL : Nat) (ret : Option FieldType) (d : Nat) (E : tk_E) (as : List Value) (M M' : tk_M) (r : Option Value) : Prop := tk_Met l y b nL ret d E as 209 (tk_ct E M) 209 (tk_ct E M') r 0 0
section TKC
variable {p : Program} {l : Launch} {e : Env} {R : Room} {s : State} {m : MethodId} {args : Array Value} {below : List Frame} {meth : Method} {c : Code} {Q : State → Prop} {E : tk_E} {nL n n0 n' : Nat} {C C' : Nat → va_E} {cells slots pc pc' : Nat} {lo lo' : List (Option Value)} {st : List Value} {cc : ByteArray} {own : String} {M M' : tk_M} {y : MethodName}
theorem tk_done (cx : tk_X p s m args c cc nL own E n0) {H : Heap} {locs : List Loc} (h2 : va_P E.2.1 tk_cl (tk_wl E.1 n C) H) (h3 : va_S (tk_A E) s.heap H locs) (hz : H.size ≤ s.heap.size + cells) (hn : n0 + cells = n) (hpos : 0 < n) (hC : ∀ i, i < n → C i = C' i) {r : Option Value} {t : State} (ht : t.heap = H) : tk_Q E n C' r args s (.returned r) t := by
  have h5 := tk_low h2 hpos
  have h6 := cx.2.2.2.2.2.2.2.2
  refine ⟨rfl, by rw [ht]; omega, by rw [ht, ← tk_wl_congr hC]; exact h2, fun q h7 h8 => by rw [ht]; exact h3.2.1 q h8 (Nat.not_le.mpr h7)⟩
theorem v_iret1 (cx : tk_X p s m args c cc nL own E n0) (hB : tk_B meth (some .int) y) {x x' : Int32} (d : tk_D cc pc .ireturn 1 pc') (hx : x = x') (hC : ∀ i, i < n → C i = C' i) (hn : n0 + cells = n) (hpos : 0 < n) : tk_V p l e R s m args below meth c (MQ below (tk_Q E n C' (some (.int x'))) args s cells slots (tk_A E)) E nL n C cells slots pc lo [.int x] := by
  subst hx
  exact fun H locs ls h2 h3 h4 => tk_size fun hz => W.iret cx.1 cx.2.1 hB.1 (fun t ht hW => tk_done cx h2 h3 hz hn hpos hC ht) h3.2.2 d.1 hB.2.1
theorem v_zret1 (cx : tk_X p s m args c cc nL own E n0) (hB : tk_B meth (some .boolean) y) {x x' : Int32} (d : tk_D cc pc .ireturn 1 pc') (hx : x = x') (h01 : x = 0 ∨ x = 1) (hC : ∀ i, i < n → C i = C' i) (hn : n0 + cells = n) (hpos : 0 < n) : tk_V p l e R s m args below meth c (MQ below (tk_Q E n C' (some (.int x'))) args s cells slots (tk_A E)) E nL n C cells slots pc lo [.int x] := by
  subst hx
  exact fun H locs ls h2 h3 h4 => tk_size fun hz => W.zret cx.1 cx.2.1 hB.1 (by rcases h01 with rfl | rfl <;> decide +kernel) (fun t ht hW => tk_done cx h2 h3 hz hn hpos hC ht) h3.2.2 d.1 hB.2.1
theorem v_lret1 (cx : tk_X p s m args c cc nL own E n0) (hB : tk_B meth (some .long) y) {x x' : Int64} (d : tk_D cc pc .lreturn 1 pc') (hx : x = x') (hC : ∀ i, i < n → C i = C' i) (hn : n0 + cells = n) (hpos : 0 < n) : tk_V p l e R s m args below meth c (MQ below (tk_Q E n C' (some (.long x'))) args s cells slots (tk_A E)) E nL n C cells slots pc lo [.long x] := by
  subst hx
  exact fun H locs ls h2 h3 h4 => tk_size fun hz => W.lret cx.1 cx.2.1 hB.1 (fun t ht hW => tk_done cx h2 h3 hz hn hpos hC ht) h3.2.2 d.1 hB.2.1
theorem v_aret1 (cx : tk_X p s m args c cc nL own E n0) {on : String} (hB : tk_B meth (some (.object on)) y) {x x' : Nat} (d : tk_D cc pc .areturn 1 pc') (hx : x = x') (hC : ∀ i, i < n → C i = C' i) (hn : n0 + cells = n) (hpos : 0 < n) : tk_V p l e R s m args below meth c (MQ below (tk_Q E n C' (some (.ref x'))) args s cells slots (tk_A E)) E nL n C cells slots pc lo [.ref x] := by
  subst hx
  exact fun H locs ls h2 h3 h4 => tk_size fun hz => W.aret cx.1 cx.2.1 hB.1 (Or.inl ⟨_, rfl⟩) (Or.inr ⟨_, rfl⟩) (fun t ht hW => tk_done cx h2 h3 hz hn hpos hC ht) h3.2.2 d.1 hB.2.1
theorem v_vret1 (cx : tk_X p s m args c cc nL own E n0) (hB : tk_B meth none y) (d : tk_D cc pc .return_ 1 pc') (hC : ∀ i, i < n → C i = C' i) (hn : n0 + cells = n) (hpos : 0 < n) : tk_V p l e R s m args below meth c (MQ below (tk_Q E n C' none) args s cells slots (tk_A E)) E nL n C cells slots pc lo [] := by
  exact fun H locs ls h2 h3 h4 => tk_size fun hz => W.vret cx.1 cx.2.1 hB.1 (fun t ht hW => tk_done cx h2 h3 hz hn hpos hC ht) h3.2.2 d.1 hB.2.1
-- over the memory
theorem v_iret (cx : tk_X p s m args c cc nL own E 209) (hB : tk_B meth (some .int) y) {x x' : Int32} (d : tk_D cc pc .ireturn 1 pc') (hx : x = x') (hM : M = M') : tk_V p l e R s m args below meth c (MQ below (tk_Q E 209 (tk_ct E M') (some (.int x'))) args s 0 0 (tk_A E)) E nL 209 (tk_ct E M) 0 0 pc lo [.int x] := v_iret1 cx hB d hx (fun i _ => by rw [hM]) rfl (by decide)
theorem v_zret (cx : tk_X p s m args c cc nL own E 209) (hB : tk_B meth (some .boolean) y) {x x' : Int32} (d : tk_D cc pc .ireturn 1 pc') (h01 : x = 0 ∨ x = 1) (hx : x = x') (hM : M = M') : tk_V p l e R s m args below meth c (MQ below (tk_Q E 209 (tk_ct E M') (some (.int x'))) args s 0 0 (tk_A E)) E nL 209 (tk_ct E M) 0 0 pc lo [.int x] := v_zret1 cx hB d hx h01 (fun i _ => by rw [hM]) rfl (by decide)
theorem v_lret (cx : tk_X p s m args c cc nL own E 209) (hB : tk_B meth (some .long) y) {x x' : Int64} (d : tk_D cc pc .lreturn 1 pc') (hx : x = x') (hM : M = M') : tk_V p l e R s m args below meth c (MQ below (tk_Q E 209 (tk_ct E M') (some (.long x'))) args s 0 0 (tk_A E)) E nL 209 (tk_ct E M) 0 0 pc lo [.long x] := v_lret1 cx hB d hx (fun i _ => by rw [hM]) rfl (by decide)
theorem v_aret (cx : tk_X p s m args c cc nL own E 209) {on : String} (hB : tk_B meth (some (.object on)) y) {x x' : Nat} (d : tk_D cc pc .areturn 1 pc') (hx : x = x') (hM : M = M') : tk_V p l e R s m args below meth c (MQ below (tk_Q E 209 (tk_ct E M') (some (.ref (E.1 + x')))) args s 0 0 (tk_A E)) E nL 209 (tk_ct E M) 0 0 pc lo [.ref (E.1 + x)] := v_aret1 cx hB d (by rw [hx]) (fun i _ => by rw [hM]) rfl (by decide)
theorem v_vret (cx : tk_X p s m args c cc nL own E 209) (hB : tk_B meth none y) (d : tk_D cc pc .return_ 1 pc') (hM : M = M') : tk_V p l e R s m args below meth c (MQ below (tk_Q E 209 (tk_ct E M') none) args s 0 0 (tk_A E)) E nL 209 (tk_ct E M) 0 0 pc lo [] := v_vret1 cx hB d (fun i _ => by rw [hM]) rfl (by decide)
-- calls
variable {b : ByteArray} {mL d' mc ms np idx : Nat} {ret : Option FieldType} {as rest : List Value} {r : Option Value}
theorem tk_after (cx : tk_X p s m args c cc nL own E n0) {H : Heap} {locs : List Loc} {ls : Array Slot} {a : Array Value} (hr : va_Run p l e R s m args below meth c H locs cells slots mc ms (F0 m pc ls st) rest (tk_Q E n' C' r a) (tk_A E)) (h3 : va_S (tk_A E) s.heap H locs) (h4 : tk_has ls nL lo) (hn : n0 ≤ n') (kk : tk_V p l e R s m args below meth c Q E nL n' C' (cells + mc) (slots + ms) (pc + 3) lo (r.toList ++ rest)) : W p l e R s m args below meth c H locs cells slots Q (F0 m pc ls st) := by
  intro T hT X
  obtain ⟨v, st₀, t, T', L, e0, X', hL, e1, e2, hq, hgo⟩ := hr T hT X
  obtain ⟨hv, hz, hP, hk⟩ := hq
  cases hv
  rw [e0] at hk
  have h6 := cx.2.2.2.2.2.2.2.2
  obtain ⟨t2, a1, b1⟩ := kk T'.heap (locs ++ L) ls (by rw [e1]; exact hP) ⟨by rw [e1]; omega, fun q h7 h8 => by
      rw [e1, hk q (Nat.not_le.mp h8) (Nat.lt_of_lt_of_le h7 h3.1)]
      exact h3.2.1 q h7 h8, fun q hq => by
      rcases List.mem_append.mp hq with h | h
      · exact h3.2.2 q h
      · exact hL q h⟩ h4 T' rfl X'
  exact ⟨t2, hgo t2 a1, b1⟩
theorem tk_cb (cx : tk_X p s m args c cc nL own E n0) (hm : Cond.methodLink own idx y ∈ lw_tbl) (hc : tk_Cs y b mL ret np) (hd : d' < R.frames) (hR : 44 * R.frames ≤ R.locals) : CallB R s args own idx y b mL ret (tk_W y b mL ret) (tk_rm d' mc ms) mc ms np :=
  callB_of np cx.2.2.2.2.1 (tk_WG hc.1) rfl rfl rfl (cx.2.2.2.2.1 _ (tk_g hc.2.1 rfl)) (cx.2.2.2.2.1 _ (tk_g hm rfl)) ⟨hc.2.2.1, hc.2.2.2.1, hc.2.2.2.2.1⟩ ⟨hd, by
    have h1 := hc.2.2.2.2.2
    show 8 + (mL + 11) + 44 * d' ≤ R.locals
    omega⟩
theorem tk_zz (cx : tk_X p s m args c cc nL own E n0) {H : Heap} (h2 : va_P E.2.1 tk_cl (tk_wl E.1 n C) H) (hz : H.size ≤ s.heap.size + cells) (hn0 : n0 + cells = n) (hpos : 0 < n) : H.size = E.1 + n := by
  have h5 := tk_low h2 hpos
  have h6 := cx.2.2.2.2.2.2.2.2
  omega
theorem v_callS1 (cx : tk_X p s m args c cc nL own E n0) (d : tk_D cc pc (.invokestatic idx) 3 pc') (hm : Cond.methodLink own idx y ∈ lw_tbl) (hs : Cond.static y ∈ lw_tbl) (hc : tk_Cs y b mL ret np) (hM : tk_Met l y b mL ret d' E as n C n' C' r mc ms) (hst : st = as.reverse ++ rest) (hlen : as.length = np) (hcat : (rest.map fun v => v.category).sum ≤ 8) (hd : d' < R.frames) (hR : 44 * R.frames ≤ R.locals) (hroom : cells + mc ≤ R.cells ∧ slots + ms ≤ R.slots) (hn0 : n0 + cells = n) (hpos : 0 < n) (hn' : n0 ≤ n')
    (kk : tk_V p l e R s m args below meth c Q E nL n' C' (cells + mc) (slots + ms) pc' lo (r.toList ++ rest)) : tk_V p l e R s m args below meth c Q E nL n C cells slots pc lo st := by
  obtain ⟨d1, rfl⟩ := d
  intro H locs ls h2 h3 h4
  refine tk_size fun hz => ?_
  exact tk_after cx (va_runS (As := as) (rest := rest) (g := F0 m pc ls st) ⟨cx.1, cx.2.1, cx.2.2.1, cx.2.2.2.1, cx.2.2.2.2.1⟩ hM ⟨tk_cb cx hm hc hd hR, cx.2.2.2.2.1 _ (tk_g hs rfl)⟩ ⟨tk_blind, fun U hU hW => ⟨rfl, tk_enter cx (tk_zz cx h2 hz hn0 hpos) h2 h3 hU hW⟩⟩ rfl hlen h4.1 hst (lv_room hcat) d1 hroom) h3 h4 hn' kk
theorem v_callV1 (cx : tk_X p s m args c cc nL own E n0) {i ci : Nat} {fs : List Value} (d : tk_D cc pc (.invokevirtual idx) 3 pc') (hm : Cond.methodLink own idx y ∈ lw_tbl) (hn : Cond.instanceMethod y ∈ lw_tbl) (hv : Cond.selects y.cls y y ∈ lw_tbl) (hc : tk_Cs y b mL ret np) (hi : i < n) (hci : ci < 10) (hC : C i = .inr (ci, fs)) (hcl : tk_R ci = y.cls) (hM : tk_Met l y b mL ret d' E (.ref (E.1 + i) :: as) n C n' C' r mc ms) (hst : st = as.reverse ++ .ref (E.1 + i) :: rest) (hlen : as.length = np) (hcat : (rest.map fun v => v.category).sum ≤ 8) (hd : d' < R.frames) (hR : 44 * R.frames ≤ R.locals) (hroom : cells + mc ≤ R.cells ∧ slots + ms ≤ R.slots) (hn0 : n0 + cells = n) (hpos : 0 < n) (hn' : n0 ≤ n')
    (kk : tk_V p l e R s m args below meth c Q E nL n' C' (cells + mc) (slots + ms) pc' lo (r.toList ++ rest)) : tk_V p l e R s m args below meth c Q E nL n C cells slots pc lo st := by
  obtain ⟨d1, rfl⟩ := d
  intro H locs ls h2 h3 h4
  refine tk_size fun hz => ?_
  have he : (tk_wl E.1 n C)[i]? = some (E.1 + i, .inr (ci, fs)) := by rw [tk_wl_at hi, hC]
  have hrecv := va_recv cx.2.2.2.2.2.2.1 h2 (tk_cl_at hci) he
  simp only [hcl] at hrecv
  exact tk_after cx (va_runV (As := as) (rest := rest) (b := E.1 + i) (C := y.cls) (g := F0 m pc ls st) ⟨cx.1, cx.2.1, cx.2.2.1, cx.2.2.2.1, cx.2.2.2.2.1⟩ hM ⟨tk_cb cx hm hc hd hR, cx.2.2.2.2.1 _ (tk_g hn rfl), cx.2.2.2.2.1 _ (tk_g hv rfl)⟩ ⟨tk_blind, hrecv, fun U hU hW => ⟨rfl, tk_enter cx (tk_zz cx h2 hz hn0 hpos) h2 h3 hU hW⟩⟩ rfl hlen h4.1 hst (lv_room hcat) d1 hroom) h3 h4 hn' kk
-- over the memory
theorem v_callS (cx : tk_X p s m args c cc nL own E n0) (d : tk_D cc pc (.invokestatic idx) 3 pc') (hm : Cond.methodLink own idx y ∈ lw_tbl) (hs : Cond.static y ∈ lw_tbl) (hc : tk_Cs y b mL ret np) (hM : tk_Mt l y b mL ret d' E as M M' r) (hst : st = as.reverse ++ rest) (hlen : as.length = np) (hcat : (rest.map fun v => v.category).sum ≤ 8) (hd : d' < R.frames ∧ 44 * R.frames ≤ R.locals ∧ cells ≤ R.cells ∧ slots ≤ R.slots ∧ n0 + cells = 209 ∧ n0 ≤ 209)
    (kk : tk_V p l e R s m args below meth c Q E nL 209 (tk_ct E M') cells slots pc' lo (r.toList ++ rest)) : tk_V p l e R s m args below meth c Q E nL 209 (tk_ct E M) cells slots pc lo st :=
  v_callS1 cx d hm hs hc hM hst hlen hcat hd.1 hd.2.1 ⟨hd.2.2.1, hd.2.2.2.1⟩ hd.2.2.2.2.1 (by decide) hd.2.2.2.2.2 kk
theorem v_callV (cx : tk_X p s m args c cc nL own E n0) {i ci N : Nat} {kd : Nat → Nat ⊕ Nat} (d : tk_D cc pc (.invokevirtual idx) 3 pc') (hm : Cond.methodLink own idx y ∈ lw_tbl) (hn : Cond.instanceMethod y ∈ lw_tbl) (hv : Cond.selects y.cls y y ∈ lw_tbl) (hc : tk_Cs y b mL ret np) (ho : tk_O i ci N kd) (hci : ci < 10) (hcl : tk_R ci = y.cls) (hM : tk_Mt l y b mL ret d' E (.ref (E.1 + i) :: as) M M' r) (hst : st = as.reverse ++ .ref (E.1 + i) :: rest) (hlen : as.length = np) (hcat : (rest.map fun v => v.category).sum ≤ 8) (hd : d' < R.frames ∧ 44 * R.frames ≤ R.locals ∧ cells ≤ R.cells ∧ slots ≤ R.slots ∧ n0 + cells = 209 ∧ n0 ≤ 209)
    (kk : tk_V p l e R s m args below meth c Q E nL 209 (tk_ct E M') cells slots pc' lo (r.toList ++ rest)) : tk_V p l e R s m args below meth c Q E nL 209 (tk_ct E M) cells slots pc lo st :=
  v_callV1 cx d hm hn hv hc ho.2 hci (tk_ct_o ho hci) hcl hM hst hlen hcat hd.1 hd.2.1 ⟨hd.2.2.1, hd.2.2.2.1⟩ hd.2.2.2.2.1 (by decide) hd.2.2.2.2.2 kk
/-- the months' table -/
theorem v_gets (cx : tk_X p s m args c cc nL own E n0) (d : tk_D cc pc (.getstatic idx) 3 pc') (hl : Cond.fieldLink own idx "TickKeeper$Months" "STARTS" "[I" ∈ lw_tbl) (kk : tk_V p l e R s m args below meth c Q E nL n C cells slots pc' lo (.ref E.2.2.2 :: st)) : tk_V p l e R s m args below meth c Q E nL n C cells slots pc lo st := by
  obtain ⟨d1, rfl⟩ := d
  exact fun H locs ls h2 h3 h4 => va_gets cx.1 cx.2.1 cx.2.2.2.2.2.2.2.1.1 h3 cx.2.2.2.1 (cx.2.2.2.2.1 _ (tk_g hl rfl)) (fun _ h => h) d1 (kk H locs ls h2 h3 h4)
theorem v_tald (cx : tk_X p s m args c cc nL own E n0) {x : Int32} (d : tk_D cc pc .iaload 1 pc') (hin : vp_in x 49) (kk : tk_V p l e R s m args below meth c Q E nL n C cells slots pc' lo (.int (tk_st x.toNatClampNeg) :: st)) : tk_V p l e R s m args below meth c Q E nL n C cells slots pc lo (.int x :: .ref E.2.2.2 :: st) := by
  obtain ⟨d1, rfl⟩ := d
  exact fun H locs ls h2 h3 h4 => va_ti cx.1 cx.2.1 cx.2.2.2.2.2.2.2.1.2 h3 hin rfl d1 (kk H locs ls h2 h3 h4)
end TKC
