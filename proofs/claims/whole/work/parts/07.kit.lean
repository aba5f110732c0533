/-! the memory of both systems, by cell numbers; a walk over it -/
abbrev tk_M : Type := (Nat → Nat → Int32) × (Nat → Nat → Int64) × (Nat → Nat → Nat)
/-- where the cells begin; classes and slots; array classes; the table of months -/
abbrev tk_E : Type := Nat × va_G × (Nat → ClassId) × Nat
def tk_tys (E : tk_E) : List (ClassId × FieldType) := [(E.2.2.1 0, .int), (E.2.2.1 1, .boolean), (E.2.2.1 2, .long), (E.2.2.1 3, .object R_Z), (E.2.2.1 4, .object R_J), (E.2.2.1 5, .object R_S), (E.2.2.1 6, .object R_N), (E.2.2.1 7, .object R_L), (E.2.2.1 8, .object R_E)]
def tk_A (E : tk_E) : Nat → Prop := fun q => E.1 ≤ q
def tk_wl (b n : Nat) (C : Nat → va_E) : va_W := (List.range n).map (fun i => (b + i, C i))
theorem tk_wl_len (b n : Nat) (C : Nat → va_E) : (tk_wl b n C).length = n := by simp [tk_wl]
theorem tk_wl_at {b n i : Nat} {C : Nat → va_E} (h : i < n) : (tk_wl b n C)[i]? = some (b + i, C i) := by
  unfold tk_wl
  rw [List.getElem?_map, List.getElem?_range h]
  rfl
theorem tk_wl_get {b n i : Nat} {C : Nat → va_E} {q : Nat × va_E} (h : (tk_wl b n C)[i]? = some q) : i < n ∧ q = (b + i, C i) := by
  have hl : i < n := by have := (List.getElem?_eq_some_iff.mp h).1; rwa [tk_wl_len] at this
  rw [tk_wl_at hl] at h
  exact ⟨hl, (Option.some.inj h).symm⟩
theorem tk_wl_set {b n i : Nat} {C : Nat → va_E} {e : va_E} (h : i < n) : (tk_wl b n C).set i (b + i, e) = tk_wl b n (va_up C i e) := by
  apply List.ext_getElem?
  intro j
  by_cases hj : j < n
  · rw [tk_wl_at hj]
    by_cases e1 : i = j
    · subst e1
      rw [List.getElem?_set_self (by rw [tk_wl_len]; exact h)]
      simp [va_up]
    · rw [List.getElem?_set_ne e1, tk_wl_at hj]
      simp [va_up, Ne.symm e1]
  · rw [List.getElem?_eq_none (by rw [List.length_set, tk_wl_len]; omega), List.getElem?_eq_none (by rw [tk_wl_len]; omega)]
theorem tk_wl_congr {b n : Nat} {C C' : Nat → va_E} (h : ∀ i, i < n → C i = C' i) : tk_wl b n C = tk_wl b n C' := by
  unfold tk_wl
  apply List.map_congr_left
  intro i hi
  rw [h i (List.mem_range.mp hi)]
theorem tk_wl_push {b n : Nat} {C : Nat → va_E} {e : va_E} : tk_wl b n C ++ [(b + n, e)] = tk_wl b (n + 1) (va_up C n e) := by
  rw [show tk_wl b n C = tk_wl b n (va_up C n e) from tk_wl_congr (fun i hi => by simp [va_up, Nat.ne_of_lt hi])]
  unfold tk_wl
  rw [List.range_succ, List.map_append]
  simp [va_up]
theorem tk_wl_D {b n : Nat} {C : Nat → va_E} {A : Nat → Prop} (hA : ∀ q, b ≤ q → A q) : va_D A (tk_wl b n C) := by
  refine ⟨fun i j p q hi hj h => ?_, fun k q hk => ?_⟩
  · obtain ⟨-, rfl⟩ := tk_wl_get hi
    obtain ⟨-, rfl⟩ := tk_wl_get hj
    exact Nat.add_left_cancel h
  · obtain ⟨-, rfl⟩ := tk_wl_get hk
    exact hA _ (Nat.le_add_right _ _)
/-- locals by their places -/
def tk_as : Nat → List (Option Value) → List (Nat × Value)
  | _, [] => []
  | k, none :: t => tk_as (k + 1) t
  | k, some v :: t => (k, v) :: tk_as (k + 1) t
theorem tk_as_mem : ∀ (lo : List (Option Value)) (k j : Nat) (v : Value), (j, v) ∈ tk_as k lo ↔ ∃ i, j = k + i ∧ lo[i]? = some (some v)
  | [], k, j, v => by simp [tk_as]
  | none :: t, k, j, v => by
    rw [tk_as, tk_as_mem t (k + 1) j v]
    constructor
    · rintro ⟨i, h1, h2⟩
      exact ⟨i + 1, by omega, by simpa using h2⟩
    · rintro ⟨i, h1, h2⟩
      cases i with
      | zero => simp at h2
      | succ i => exact ⟨i, by omega, by simpa using h2⟩
  | some w :: t, k, j, v => by
    rw [tk_as, List.mem_cons, tk_as_mem t (k + 1) j v]
    constructor
    · rintro (h | ⟨i, h1, h2⟩)
      · cases h
        exact ⟨0, rfl, rfl⟩
      · exact ⟨i + 1, by omega, by simpa using h2⟩
    · rintro ⟨i, h1, h2⟩
      cases i with
      | zero =>
        left
        simp at h2
        rw [h2, h1]
        rfl
      | succ i => exact Or.inr ⟨i, by omega, by simpa using h2⟩
def tk_has (ls : Array Slot) (nL : Nat) (lo : List (Option Value)) : Prop := lv_has ls nL (tk_as 0 lo)
theorem tk_has.at {ls : Array Slot} {nL : Nat} {lo : List (Option Value)} (h : tk_has ls nL lo) {i : Nat} {v : Value} (hi : lo[i]? = some (some v)) : ls[i]? = some (.val v) :=
  h.2.2 (i, v) ((tk_as_mem lo 0 i v).mpr ⟨i, by omega, hi⟩)
def tk_kill (lo : List (Option Value)) (i : Nat) : List (Option Value) := match i with
  | 0 => lo
  | j + 1 => match lo[j]? with
    | some (some w) => if w.category = 2 then lo.set j none else lo
    | _ => lo
def tk_s1 (lo : List (Option Value)) (i : Nat) (v : Value) : List (Option Value) := (tk_kill lo i).set i (some v)
def tk_s2 (lo : List (Option Value)) (i : Nat) (v : Value) : List (Option Value) := ((tk_kill lo i).set i (some v)).set (i + 1) none
theorem tk_kill_get {lo : List (Option Value)} {i j : Nat} {v : Value} (h : (tk_kill lo i)[j]? = some (some v)) : lo[j]? = some (some v) ∧ ¬ (j + 1 = i ∧ v.category = 2) := by
  cases i with
  | zero => exact ⟨h, by omega⟩
  | succ i =>
    unfold tk_kill at h
    cases hw : lo[i]? with
    | none =>
      simp only [hw] at h
      refine ⟨h, fun z => ?_⟩
      have : j = i := by omega
      subst this
      rw [hw] at h
      cases h
    | some x =>
      cases x with
      | none =>
        simp only [hw] at h
        refine ⟨h, fun z => ?_⟩
        have : j = i := by omega
        subst this
        rw [hw] at h
        cases h
      | some w =>
        simp only [hw] at h
        by_cases hc : w.category = 2
        · rw [if_pos hc] at h
          by_cases e : j = i
          · subst e
            have hl := (List.getElem?_eq_some_iff.mp hw).1
            rw [List.getElem?_set_self hl] at h
            cases h
          · rw [List.getElem?_set_ne (Ne.symm e)] at h
            exact ⟨h, fun z => e (by omega)⟩
        · rw [if_neg hc] at h
          refine ⟨h, fun z => ?_⟩
          have : j = i := by omega
          subst this
          rw [hw] at h
          cases h
          exact hc z.2
theorem tk_set_get {α : Type} {lo : List α} {i j : Nat} {x y : α} (h : (lo.set i x)[j]? = some y) : (j = i ∧ y = x) ∨ (j ≠ i ∧ lo[j]? = some y) := by
  by_cases e : j = i
  · subst e
    have hl := (List.getElem?_eq_some_iff.mp h).1
    rw [List.length_set] at hl
    rw [List.getElem?_set_self hl] at h
    exact Or.inl ⟨rfl, (Option.some.inj h).symm⟩
  · rw [List.getElem?_set_ne (Ne.symm e)] at h
    exact Or.inr ⟨e, h⟩
theorem tk_has.s1 {ls : Array Slot} {nL i : Nat} {lo : List (Option Value)} {v : Value} (h : lv_has ls nL ((i, v) :: (tk_as 0 lo).filter (fun q => !(q.1 == i) && !(q.1 + 1 == i && q.2.category == 2)))) : tk_has ls nL (tk_s1 lo i v) := by
  refine ⟨h.1, h.2.1, fun q hq => h.2.2 q ?_⟩
  obtain ⟨j, w⟩ := q
  obtain ⟨i', e1, e2⟩ := (tk_as_mem _ 0 j w).mp hq
  have e0 : j = i' := by omega
  subst e0
  rcases tk_set_get e2 with ⟨h1, h2⟩ | ⟨h1, h2⟩
  · cases h2
    subst h1
    exact List.mem_cons_self
  · obtain ⟨g1, g2⟩ := tk_kill_get h2
    refine List.mem_cons_of_mem _ (List.mem_filter.mpr ⟨(tk_as_mem _ 0 j w).mpr ⟨j, by omega, g1⟩, ?_⟩)
    simp only [Bool.and_eq_true, Bool.not_eq_true', beq_eq_false_iff_ne, ne_eq, Bool.and_eq_false_iff]
    refine ⟨h1, ?_⟩
    by_cases hc : j + 1 = i
    · exact Or.inr (fun z => g2 ⟨hc, z⟩)
    · exact Or.inl hc
theorem tk_has.s2 {ls : Array Slot} {nL i : Nat} {lo : List (Option Value)} {v : Value} (h : lv_has ls nL ((i, v) :: (tk_as 0 lo).filter (fun q => !(q.1 == i) && (!(q.1 == i + 1) && !(q.1 + 1 == i && q.2.category == 2))))) : tk_has ls nL (tk_s2 lo i v) := by
  refine ⟨h.1, h.2.1, fun q hq => h.2.2 q ?_⟩
  obtain ⟨j, w⟩ := q
  obtain ⟨i', e1, e2⟩ := (tk_as_mem _ 0 j w).mp hq
  have e0 : j = i' := by omega
  subst e0
  rcases tk_set_get e2 with ⟨h1, h2⟩ | ⟨h0, e3⟩
  · cases h2
  rcases tk_set_get e3 with ⟨h1, h2⟩ | ⟨h1, h2⟩
  · cases h2
    subst h1
    exact List.mem_cons_self
  · obtain ⟨g1, g2⟩ := tk_kill_get h2
    refine List.mem_cons_of_mem _ (List.mem_filter.mpr ⟨(tk_as_mem _ 0 j w).mpr ⟨j, by omega, g1⟩, ?_⟩)
    simp only [Bool.and_eq_true, Bool.not_eq_true', beq_eq_false_iff_ne, ne_eq, Bool.and_eq_false_iff]
    refine ⟨h1, h0, ?_⟩
    by_cases hc : j + 1 = i
    · exact Or.inr (fun z => g2 ⟨hc, z⟩)
    · exact Or.inl hc
/-- the months' table -/
def tk_st (j : Nat) : Int32 := ([0, 31, 60, 91, 121, 152, 182, 213, 244, 274, 305, 335, 366, 397, 425, 456, 486, 517, 547, 578, 609, 639, 670, 700, 731, 762, 790, 821, 851, 882, 912, 943, 974, 1004, 1035, 1065, 1096, 1127, 1155, 1186, 1216, 1247, 1277, 1308, 1339, 1369, 1400, 1430, 1461] : List Int32).getD j 0
def tk_Z (E : tk_E) (U : State) : Prop := va_Z "TickKeeper$Months" "STARTS" "[I" (.ref E.2.2.2) (tk_A E) U U.heap ∧ va_T .int E.2.2.2 49 (fun j => .int (tk_st j)) (tk_A E) U U.heap
/-- what a method may take as given of its entry -/
def tk_X (p : Program) (s : State) (m : MethodId) (args : Array Value) (c : Code) (cc : ByteArray) (nL : Nat) (own : String) (E : tk_E) (n0 : Nat) : Prop :=
  p.tables.exec = Jvm.exec ∧ c.code = cc ∧ c.maxLocals = nL ∧ s.vm.findClass own = some m.cls ∧ (∀ w ∈ tk_tbl, w.before args s = true) ∧ tk_NS s ∧ va_K E.2.1 tk_cl (tk_tys E) s ∧ tk_Z E s ∧ s.heap.size = E.1 + n0
def tk_U (E : tk_E) (n : Nat) (C : Nat → va_E) (U : State) : Prop := U.heap.size = E.1 + n ∧ va_P E.2.1 tk_cl (tk_wl E.1 n C) U.heap ∧ tk_NS U ∧ va_K E.2.1 tk_cl (tk_tys E) U ∧ tk_Z E U
def tk_Q (E : tk_E) (n : Nat) (C : Nat → va_E) (r : Option Value) : Array Value → State → Outcome → State → Prop := fun _ st o t =>
  o = .returned r ∧ t.heap.size = E.1 + n ∧ va_P E.2.1 tk_cl (tk_wl E.1 n C) t.heap ∧ ∀ q : Nat, q < E.1 → q < st.heap.size → t.heap[q]? = st.heap[q]?
def tk_rm (d mc ms : Nat) : Room := { frames := d, cells := mc, slots := ms, locals := 44 * d }
/-- a method's contract over cells C: it answers r and leaves cells C' -/
def tk_Met (l : Launch) (y : MethodName) (b : ByteArray) (nL : Nat) (ret : Option FieldType) (d : Nat) (E : tk_E) (as : List Value) (n : Nat) (C : Nat → va_E) (n' : Nat) (C' : Nat → va_E) (r : Option Value) (mc ms : Nat) : Prop :=
  Met l y (tk_W y b nL ret) (tk_rm d mc ms) (va_Pc as (tk_U E n C)) (tk_Q E n' C' r) mc ms (tk_A E)
def tk_V (p : Program) (l : Launch) (e : Env) (R : Room) (s : State) (m : MethodId) (args : Array Value) (below : List Frame) (meth : Method) (c : Code) (Q : State → Prop) (E : tk_E) (nL n : Nat) (C : Nat → va_E) (cells slots pc : Nat) (lo : List (Option Value)) (st : List Value) : Prop :=
  ∀ (H : Heap) (locs : List Loc) (ls : Array Slot), va_P E.2.1 tk_cl (tk_wl E.1 n C) H → va_S (tk_A E) s.heap H locs → tk_has ls nL lo → W p l e R s m args below meth c H locs cells slots Q (F0 m pc ls st)
def tk_B (meth : Method) (ret : Option FieldType) (y : MethodName) : Prop := meth.sig.returnType = ret ∧ meth.locks = false ∧ meth.name = y.name
theorem tk_NS.warm {s U : State} (hW : s.WarmedH U.vm) (h : tk_NS s) : tk_NS U := by
  intro w hw hn
  have h1 := h w hw hn
  cases w with
  | fieldLinkNest a i b n d hh => exact va_Nw.warmF hW h1
  | methodLinkNest a i x hh => exact va_Nw.warmM hW h1
  | arrayOver ty =>
    cases ty with
    | object C => exact va_AO.moved hW.alike h1
    | _ => cases hn
  | _ => cases hn
theorem tk_NS.blind {U : State} {g : JFrame} {mk : MethodId} {a : Array Value} (h : tk_NS U) : tk_NS (U.calling g mk a) := by
  intro w hw hn
  have h1 := h w hw hn
  cases w with
  | fieldLinkNest a i b n d hh => exact va_tabs rfl (rfl : U.vm = (U.calling g mk _).vm) h1
  | methodLinkNest a i x hh => exact va_tabs rfl (rfl : U.vm = (U.calling g mk _).vm) h1
  | arrayOver ty =>
    cases ty with
    | object C => exact va_AO.moved (U := U.calling g mk a) (Vm.Alike.refl U.vm) h1
    | _ => cases hn
  | _ => cases hn
theorem tk_blind {E : tk_E} {n : Nat} {C : Nat → va_E} {as : List Value} : FrameBlind (va_Pc as (tk_U E n C)) := by
  intro a U g mk h
  obtain ⟨h0, h1, h2, h3, h4, h5, h6⟩ := h
  exact ⟨h0, h1, h2, h3.blind, va_K.moved (u := U) (U := U.calling g mk a) (Vm.Alike.refl U.vm) h4, va_Z.moved (u := U) (U := U.calling g mk a) (Vm.Alike.refl U.vm) h5, va_T.moved (u := U) (U := U.calling g mk a) (Vm.Alike.refl U.vm) h6⟩
theorem tk_enter {p : Program} {s : State} {m : MethodId} {args : Array Value} {c : Code} {cc : ByteArray} {nL : Nat} {own : String} {E : tk_E} {n0 n : Nat} {C : Nat → va_E} {H : Heap} {locs : List Loc} (cx : tk_X p s m args c cc nL own E n0) (hz : H.size = E.1 + n) (hP : va_P E.2.1 tk_cl (tk_wl E.1 n C) H) (hS : va_S (tk_A E) s.heap H locs) {U : State} (hU : U.heap = H) (hW : s.WarmedH U.vm) : tk_U E n C U := by
  obtain ⟨-, -, -, -, -, h6, h7, ⟨h8, h9⟩, -⟩ := cx
  refine ⟨by rw [hU]; exact hz, by rw [hU]; exact hP, h6.warm hW, va_K.moved hW.alike h7, ?_, ?_⟩
  · rw [hU]
    exact (va_Z.moved hW.alike h8).kept (fun q h1 h2 => hS.2.1 q h1 h2)
  · rw [hU]
    exact (va_T.moved hW.alike h9).kept (fun q h1 h2 => hS.2.1 q h1 h2)
/-- a contract out of a walk -/
theorem tk_ofV {l : Launch} {y : MethodName} {b : ByteArray} {nL : Nat} {ret : Option FieldType} {d : Nat} {E : tk_E} {as : List Value} {n : Nat} {C : Nat → va_E} {n' : Nat} {C' : Nat → va_E} {r : Option Value} {mc ms : Nat} (hy : plainFor y = true) (lo : List (Option Value)) (hlo : tk_as 0 lo = lv_args 0 as) (hsz : (lg_sl as).length ≤ nL)
    (body : ∀ (p : Program) (e : Env) (s : State) (m : MethodId) (args : Array Value) (below : List Frame) (meth : Method) (c : Code), tk_X p s m args c b nL y.cls E n → tk_B meth ret y → tk_V p l e (tk_rm d mc ms) s m args below meth c (MQ below (tk_Q E n' C' r) args s mc ms (tk_A E)) E nL n C 0 0 0 lo []) : tk_Met l y b nL ret d E as n C n' C' r mc ms := by
  refine va_MetF (cc := b) (maxL := nL) (ret := ret) hy rfl ?_
  intro p e s m args below meth c s₁ B hml hv
  obtain ⟨rfl, hz, hP, hN, hK, hZ⟩ := hv
  have hts := atoms_spec (ws := tk_W y b nL ret) B.pre
  have hown : s.vm.findClass y.cls = some m.cls := findClass_of_methodNamed B.named
  rw [lg_entry_eq]
  have hl := lv_entry as (n := nL) hsz
  refine body p e s m as.toArray below meth c ⟨B.exec, B.bytes, hml, hown, fun w hw => hts w (List.mem_cons_of_mem _ hw), hN, hK, hZ, hz⟩ ⟨B.returns, B.notSynchronized, (name_of_methodNamed B.named B.method).1⟩ s.heap [] _ hP va_S.rf ?_
  unfold tk_has
  rw [hlo]
  exact hl
def tk_D (cc : ByteArray) (pc : Nat) (i : Instr) (len pc' : Nat) : Prop := decode cc pc = .ok (i, len) ∧ pc' = pc + len
theorem tk_dc {cc : ByteArray} {tab : List (Nat × Instr × Nat)} (h : ∀ q ∈ tab, decode cc q.1 = .ok (q.2.1, q.2.2)) (k : Nat) {pc : Nat} {i : Instr} {len : Nat} (hk : tab[k]? = some (pc, i, len)) : tk_D cc pc i len (pc + len) := ⟨h (pc, i, len) (List.mem_of_getElem? hk), rfl⟩
/-- the heap's size, out of the room that was used -/
theorem tk_size {p : Program} {l : Launch} {e : Env} {R : Room} {s : State} {m : MethodId} {args : Array Value} {below : List Frame} {meth : Method} {c : Code} {Q : State → Prop} {H : Heap} {locs : List Loc} {cells slots : Nat} {g : JFrame} (h : H.size ≤ s.heap.size + cells → W p l e R s m args below meth c H locs cells slots Q g) : W p l e R s m args below meth c H locs cells slots Q g := by
  intro T hT X
  have h1 := X.heapSize
  rw [hT] at h1
  exact h h1 T hT X
theorem tk_low {D : va_G} {cl : List vw_C} {b n : Nat} {C : Nat → va_E} {H : Heap} (h : va_P D cl (tk_wl b n C) H) (hn : 0 < n) : b + n ≤ H.size := by
  have h1 := (h (n - 1) _ (tk_wl_at (by omega))).lt
  simp only at h1
  omega
