/-! THE CLAIM OUT OF ONE WALK OF THE LAW'S BODY. Your part is whole_start (and what it stands on); all else here is the same for every law, but numbers. -/
def R_law : String := "TickKeeperLaw"
def lw_P (b : Addr) (xs : List Int32) (args : Array Value) (s : State) : Prop := args = #[.ref b] ∧ s.IntsAt b xs ∧ xs.length ≤ 2560 ∧ (Jvm.Cond.and given_1 narrow_1).before args s = true
def lw_Q (_ : Array Value) (s : State) (o : Outcome) (t : State) : Prop := o = .returned (some (.int 1)) ∧ Framed s o t [] 600000 7302250
def lw_Z (below : List Frame) (a : Array Value) (s : State) : State → Prop := fun t => ∃ o, t.status = .running ∧ Ended t below o ∧ lw_Q a s o t
/-- the law's own end, with 1 on the stack, nothing written that was there before, its room as the claim has it -/
theorem lw_ret {p : Program} {l : Launch} {e : Env} {s : State} {m : MethodId} {below : List Frame} {meth : Method} {c : Code} {b : Nat} (hx : p.tables.exec = Jvm.exec) (hb : c.code = code) (hr : meth.sig.returnType = ret) (hlocks : meth.locks = false) {pc : Nat} {H : Heap} {ls : Array Slot} (hdg : decode code pc = .ok (.ireturn, 1)) : W p l e room_1 s m #[Value.ref b] below meth c H [] 600000 7302250 (lw_Z below #[Value.ref b] s) (F0 m pc ls [.int 1]) := by
  intro T hT X
  obtain ⟨fs, hret, hrun, hended, hW, hframe⟩ := X.leave (v := some (.int 1)) (hlocks := hlocks) (fun h => by rw [hr] at h; cases h)
  have hmeth' : T.vm.method? m = some meth := X.method'
  refine ⟨T.setFrames fs, ?_, .returned (some (.int 1)), hrun, hended, rfl, ⟨_, rfl⟩, hW, hframe⟩
  jvm_step X.here [X.here.top, hx, hb, hdg, hmeth', hr, ret, narrow_b1]
  (try refine ⟨rfl, ?_⟩); (try refine ⟨rfl, ?_⟩)
  first | (intro acts; rw [hret _ acts rfl rfl rfl]) | rw [hret _ _ rfl rfl rfl]
  exact Steps.refl _
/-- what holds at the law's entry: the machine, the code, the tables' words (any of lw_tbl by 'hts w (by decide +kernel)'), the script of L ints xs at the cell b, what the Statement gives of the start (any of its parts by flat_of_before) -/
def lw_At (p : Program) (s : State) (m : MethodId) (meth : Method) (c : Code) (b L : Nat) (xs : Nat → Int32) : Prop :=
  p.tables.exec = Jvm.exec ∧ c.code = code ∧ meth.sig.returnType = ret ∧ c.maxLocals = 4 ∧ s.vm.findClass R_law = some m.cls ∧ (∀ w ∈ lw_tbl, w.before #[Value.ref b] s = true) ∧ va_X b L xs s s.heap ∧ b < s.heap.size ∧ meth.locks = false ∧ (Jvm.Cond.and given_1 narrow_1).before #[Value.ref b] s = true
/-! the law's entry -/
theorem it_all {ci : Nat} (h : ci < 10) : Cond.instantiable (tk_R ci) (tk_N ci) ∈ lw_tbl := tk_ten (P := fun ci => Cond.instantiable (tk_R ci) (tk_N ci) ∈ lw_tbl) it_K.1 it_P.1 it_L.1 it_Z.1 it_J.1 it_U.1 it_N.1 it_S.1 it_E.1 it_M.1 h
theorem tk_cl_out {c : Nat} {q : vw_C} (h : tk_cl[c]? = some q) : c < 10 ∧ q = (tk_R c, tk_T c, tk_N c) := by
  have hl : c < 10 := by
    have := (List.getElem?_eq_some_iff.mp h).1
    simpa [tk_cl] using this
  rw [tk_cl_at hl] at h
  exact ⟨hl, (Option.some.inj h).symm⟩
theorem law_prim {args : Array Value} {s : State} {ty : FieldType} (hp : ∀ cA : ClassId, va_RA s cA ty = (s.vm.findClass ("[" ++ ty.toString) = some cA)) (h : (Cond.arrayClass ty).before args s = true) : ∃ cA : ClassId, ArrOfT s cA ty ∧ va_RA s cA ty := by
  obtain ⟨cA, kA, comp, hfind, hk, hkind⟩ := Cond.arrayClass_spec h
  exact ⟨cA, fun n z => ⟨fun k h => (by cases h), kA, hk, comp, hkind⟩, by rw [hp]; exact hfind⟩
theorem law_obj {args : Array Value} {s : State} {C : String} (h : (Cond.arrayOver (.object C)).before args s = true) : ∃ cA : ClassId, ArrOfT s cA (.object C) ∧ va_RA s cA (.object C) := by
  obtain ⟨comp, cA, kA, hcomp, hidx, hkA, hkindA, hnameA⟩ := Cond.arrayOver_spec h
  exact ⟨cA, fun n z => ⟨fun k h => (by cases h), kA, hkA, comp, hkindA⟩, kA, comp, hkA, hkindA, hcomp, hnameA⟩
theorem law_NS {args : Array Value} {s : State} (hts : ∀ w ∈ lw_tbl, w.before args s = true) : tk_NS s := by
  intro w hw hn
  have h1 := hts w hw
  cases w with
  | fieldLinkNest a i b n d hh => exact h1
  | methodLinkNest a i x hh => exact h1
  | arrayOver ty =>
    cases ty with
    | object C => exact h1
    | _ => cases hn
  | _ => cases hn
theorem law_len : Cond.eq (.length (.static "TickKeeper$Months" "STARTS" "[I")) (.int (Int32.ofNat 49)) ∈ flatC (Jvm.Cond.and given_1 narrow_1) := by decide +kernel
theorem law_arr : Cond.arrayOf (.static "TickKeeper$Months" "STARTS" "[I") .int ∈ flatC (Jvm.Cond.and given_1 narrow_1) := by decide +kernel
theorem law_el : ∀ j : Nat, j < 49 → Cond.eq (.elem (.static "TickKeeper$Months" "STARTS" "[I") (.int (Int32.ofNat j))) (.int (tk_st j)) ∈ flatC (Jvm.Cond.and given_1 narrow_1) := by decide +kernel
theorem law_E {p : Program} {s : State} {m : MethodId} {meth : Method} {c : Code} {b L : Nat} {xs : Nat → Int32} (C0 : lw_At p s m meth c b L xs) : ∃ E : tk_E, E.1 = s.heap.size ∧ tk_X p s m #[Value.ref b] c code 4 R_W E 0 := by
  obtain ⟨hx, hb, hr, hml, hown, hts, hX, hbl, hlk, hgv⟩ := C0
  have hs := flat_of_before _ hgv
  have h0 : ∀ ci : Nat, ∃ q : ClassId × (Nat → Nat), ci < 10 → u_Kn s (tk_R ci) (tk_T ci) (tk_N ci) q.1 q.2 := by
    intro ci
    by_cases hc : ci < 10
    · obtain ⟨cC, iS, h⟩ := u_known (ws := lw_tbl) hts (tk_in hc) (hts _ (it_all hc))
      exact ⟨(cC, iS), fun _ => h⟩
    · exact ⟨(default, fun _ => 0), fun h => absurd h hc⟩
  obtain ⟨dd, hdd⟩ := Classical.axiomOfChoice h0
  obtain ⟨a0, e0⟩ := law_prim (ty := .int) (fun _ => rfl) (hts _ ac_I)
  obtain ⟨a1, e1⟩ := law_prim (ty := .boolean) (fun _ => rfl) (hts _ ac_Z)
  obtain ⟨a2, e2⟩ := law_prim (ty := .long) (fun _ => rfl) (hts _ ac_L)
  obtain ⟨a3, e3⟩ := law_obj (hts _ ao_Z)
  obtain ⟨a4, e4⟩ := law_obj (hts _ ao_J)
  obtain ⟨a5, e5⟩ := law_obj (hts _ ao_S)
  obtain ⟨a6, e6⟩ := law_obj (hts _ ao_N)
  obtain ⟨a7, e7⟩ := law_obj (hts _ ao_L)
  obtain ⟨a8, e8⟩ := law_obj (hts _ ao_E)
  obtain ⟨t, ht, hT⟩ := va_Tof (f := fun j => .int (tk_st j)) (A := fun q => s.heap.size ≤ q) (N := 49) (by decide) (hs _ law_arr) (va_eqt (hs _ law_len)) (fun j hj => va_eqt (hs _ (law_el j hj))) (fun a h => Nat.not_le.mpr h)
  have hZ := va_Zref (A := fun q => s.heap.size ≤ q) (hts (.laysStatic "TickKeeper$Months" "STARTS" "[I") (tk_tb 425 (by decide +kernel))) (hts (.initialized "TickKeeper$Months") (tk_tb 12 (by decide +kernel))) ht (fun a h => Nat.not_le.mpr h)
  refine ⟨(s.heap.size, (fun c => (dd c).1, fun c => (dd c).2), fun k => [a0, a1, a2, a3, a4, a5, a6, a7, a8].getD k a0, t), rfl, hx, hb, hml, hown, fun w hw => hts w (List.mem_filter.mp hw).1, law_NS hts, ⟨fun c q hq => ?_, fun k q hq => ?_⟩, ⟨hZ, hT⟩, rfl⟩
  · obtain ⟨hc, rfl⟩ := tk_cl_out hq
    exact hdd c hc
  · rcases (show k = 0 ∨ k = 1 ∨ k = 2 ∨ k = 3 ∨ k = 4 ∨ k = 5 ∨ k = 6 ∨ k = 7 ∨ k = 8 ∨ 9 ≤ k by omega) with rfl | rfl | rfl | rfl | rfl | rfl | rfl | rfl | rfl | h
    · cases hq; exact e0
    · cases hq; exact e1
    · cases hq; exact e2
    · cases hq; exact e3
    · cases hq; exact e4
    · cases hq; exact e5
    · cases hq; exact e6
    · cases hq; exact e7
    · cases hq; exact e8
    · rw [List.getElem?_eq_none (by simpa [tk_tys] using h)] at hq
      cases hq
section TKW
variable {p : Program} {l : Launch} {e : Env} {R : Room} {s : State} {m : MethodId} {args : Array Value} {below : List Frame} {meth : Method} {c : Code} {Q : State → Prop} {E : tk_E} {nL n n0 i : Nat} {C C' : Nat → va_E} {cells slots pc pc' : Nat} {lo lo' : List (Option Value)} {st : List Value} {cc : ByteArray} {own : String} {b L : Nat} {xs : Nat → Int32}
theorem v_slen (cx : tk_X p s m args c cc nL own E 0) (hX : va_X b L xs s s.heap) (hb : b < E.1) (d : tk_D cc pc .arraylength 1 pc') (kk : tk_V p l e R s m args below meth c Q E nL n C cells slots pc' lo (.int (nI L) :: st)) : tk_V p l e R s m args below meth c Q E nL n C cells slots pc lo (.ref b :: st) := by
  obtain ⟨d1, rfl⟩ := d
  have hz := cx.2.2.2.2.2.2.2.2
  exact fun H locs ls h2 h3 h4 => va_slen cx.1 cx.2.1 hX (by omega) (Nat.not_le.mpr hb) h3 d1 (kk H locs ls h2 h3 h4)
theorem v_sld (cx : tk_X p s m args c cc nL own E 0) (hX : va_X b L xs s s.heap) (hb : b < E.1) (hL : L ≤ 2560) {x : Int32} (d : tk_D cc pc .iaload 1 pc') (k : Nat) (hx : x = nI k) (hk : k < L) (kk : tk_V p l e R s m args below meth c Q E nL n C cells slots pc' lo (.int (xs k) :: st)) : tk_V p l e R s m args below meth c Q E nL n C cells slots pc lo (.int x :: .ref b :: st) := by
  obtain ⟨d1, rfl⟩ := d
  subst hx
  have hz := cx.2.2.2.2.2.2.2.2
  refine fun H locs ls h2 h3 h4 => va_sld cx.1 cx.2.1 hX (by omega) (Nat.not_le.mpr hb) h3 (nI_in hk (by omega)) d1 ?_
  rw [nI_clamp (by omega)]
  exact kk H locs ls h2 h3 h4
end TKW
