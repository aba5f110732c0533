/-! cells from a number on; small constructors -/
def tk_G (i : Nat) (L : List va_E) (C : Nat → va_E) : Nat → va_E := fun a => if a < i then C a else L.getD (a - i) (C a)
theorem tk_G_lt {i a : Nat} {L : List va_E} {C : Nat → va_E} (h : a < i) : tk_G i L C a = C a := by simp [tk_G, h]
theorem tk_G_at {i r : Nat} {L : List va_E} {C : Nat → va_E} {x : va_E} (h : L[r]? = some x) : tk_G i L C (i + r) = x := by
  unfold tk_G
  rw [if_neg (by omega), show i + r - i = r by omega, List.getD, h]
  rfl
theorem tk_G_0 {i : Nat} {T : List va_E} {C : Nat → va_E} {x : va_E} : tk_G i (x :: T) C i = x := by simp [tk_G]
theorem tk_G_out {i a : Nat} {L : List va_E} {C : Nat → va_E} (h : i + L.length ≤ a) : tk_G i L C a = C a := by
  unfold tk_G
  split
  · rfl
  · rw [List.getD, List.getElem?_eq_none (by omega)]
    rfl
theorem tk_G_in {i a : Nat} {L : List va_E} {C : Nat → va_E} (h : i ≤ a) : tk_G i L C a = (L[a - i]?).getD (C a) := by
  unfold tk_G
  rw [if_neg (by omega)]
  rfl
theorem tk_G_upr {i r : Nat} {L : List va_E} {C : Nat → va_E} {x : va_E} (h : r < L.length) : va_up (tk_G i L C) (i + r) x = tk_G i (L.set r x) C := by
  funext a
  by_cases ha : a = i + r
  · subst ha
    rw [tk_G_at (x := x) (by rw [List.getElem?_set_self h])]
    simp [va_up]
  · rw [show va_up (tk_G i L C) (i + r) x a = tk_G i L C a by simp [va_up, ha]]
    by_cases h2 : a < i
    · rw [tk_G_lt h2, tk_G_lt h2]
    · rw [tk_G_in (by omega), tk_G_in (by omega), List.getElem?_set_ne (by omega)]
theorem tk_G_up0 {i : Nat} {T : List va_E} {C : Nat → va_E} {x y : va_E} : va_up (tk_G i (x :: T) C) i y = tk_G i (y :: T) C := tk_G_upr (r := 0) (by simp)
theorem tk_G_new {n : Nat} {C : Nat → va_E} {x : va_E} : va_up C n x = tk_G n [x] C := by
  funext a
  by_cases ha : a = n
  · subst ha
    rw [tk_G_0]
    simp [va_up]
  · rw [show va_up C n x a = C a by simp [va_up, ha]]
    by_cases h2 : a < n
    · rw [tk_G_lt h2]
    · rw [tk_G_out (by simp; omega)]
theorem tk_G_G {i : Nat} {L L2 : List va_E} {C : Nat → va_E} : tk_G (i + L.length) L2 (tk_G i L C) = tk_G i (L ++ L2) C := by
  funext a
  by_cases h1 : a < i + L.length
  · rw [tk_G_lt h1]
    by_cases h2 : a < i
    · rw [tk_G_lt h2, tk_G_lt h2]
    · rw [tk_G_in (by omega), tk_G_in (by omega), List.getElem?_append_left (by omega)]
  · rw [tk_G_in (by omega), tk_G_out (by omega), tk_G_in (by omega), List.getElem?_append_right (by omega), show a - i - L.length = a - (i + L.length) by omega]
/-- cells that already are so -/
theorem tk_G_id {n : Nat} {L2 : List va_E} {B : Nat → va_E} (h : ∀ r x, L2[r]? = some x → B (n + r) = x) : tk_G n L2 B = B := by
  funext a
  by_cases h1 : a < n
  · rw [tk_G_lt h1]
  · rw [tk_G_in (by omega)]
    cases hx : L2[a - n]? with
    | none => rfl
    | some x =>
      have := h _ _ hx
      rw [show n + (a - n) = a by omega] at this
      rw [this]
      rfl
section TKG
variable {p : Program} {l : Launch} {e : Env} {R : Room} {s : State} {m : MethodId} {args : Array Value} {below : List Frame} {meth : Method} {c : Code} {Q : State → Prop} {E : tk_E} {nL n n0 n' i : Nat} {C C' : Nat → va_E} {T L : List va_E} {cells slots pc pc' : Nat} {lo lo' : List (Option Value)} {st : List Value} {cc : ByteArray} {own : String} {y : MethodName}
theorem v_eqF (h : C = C') (kk : tk_V p l e R s m args below meth c Q E nL n C' cells slots pc lo st) : tk_V p l e R s m args below meth c Q E nL n C cells slots pc lo st := by
  rw [h]
  exact kk
theorem v_eqn {n2 : Nat} (h : n = n2) (kk : tk_V p l e R s m args below meth c Q E nL n2 C cells slots pc lo st) : tk_V p l e R s m args below meth c Q E nL n C cells slots pc lo st := by
  rw [h]
  exact kk
theorem v_putG (cx : tk_X p s m args c cc nL own E n0) {idx ci k : Nat} {fs : List Value} {v : Value} (d : tk_D cc pc (.putfield idx) 3 pc') (fl : tk_Fl own idx ci k) (hi : i < n) (hl0 : k < fs.length) (hfin : (tk_T ci k).2.2.2 = false) (hn : narrow (tk_ty ci k) v = v) (hfit : fits (tk_ty ci k) v = true) (fs' : List Value) (hfs : fs.set k v = fs') (kk : tk_V p l e R s m args below meth c Q E nL n (tk_G i (.inr (ci, fs') :: T) C) cells slots pc' lo st) : tk_V p l e R s m args below meth c Q E nL n (tk_G i (.inr (ci, fs) :: T) C) cells slots pc lo (v :: .ref (E.1 + i) :: st) :=
  v_put1 cx d fl hi tk_G_0 hl0 hfin hn hfit (by rw [tk_G_up0, hfs]; exact kk)
theorem v_putFG (cx : tk_X p s m args c cc nL own E n0) (hB : tk_B meth none y) (hy : y.name = "<init>") {idx ci k : Nat} {fs : List Value} {v : Value} (d : tk_D cc pc (.putfield idx) 3 pc') (fl : tk_Fl own idx ci k) (hl : Cond.fieldLink own idx (tk_R ci) (tk_T ci k).2.1 (tk_T ci k).2.2.1 ∈ lw_tbl) (hi : i < n) (hl0 : k < fs.length) (hfin : (tk_T ci k).2.2.2 = true) (hdecl : (tk_T ci k).1 = own) (hn : narrow (tk_ty ci k) v = v) (hfit : fits (tk_ty ci k) v = true) (fs' : List Value) (hfs : fs.set k v = fs') (kk : tk_V p l e R s m args below meth c Q E nL n (tk_G i (.inr (ci, fs') :: T) C) cells slots pc' lo st) : tk_V p l e R s m args below meth c Q E nL n (tk_G i (.inr (ci, fs) :: T) C) cells slots pc lo (v :: .ref (E.1 + i) :: st) :=
  v_putF1 cx hB hy d fl hl hi tk_G_0 hl0 hfin hdecl hn hfit (by rw [tk_G_up0, hfs]; exact kk)
theorem v_new2 (cx : tk_X p s m args c cc nL own E n0) {idx ci : Nat} (fs : List Value) (d : tk_D cc pc (.new idx) 3 pc') (hcl : Cond.classLink own idx (tk_R ci) ∈ lw_tbl) (hci : ci < 10) (hit : Cond.instantiable (tk_R ci) (tk_N ci) ∈ lw_tbl ∧ Cond.initialized (tk_R ci) ∈ lw_tbl) (hfs : ∀ j, j < tk_N ci → defaultValue (tk_ty ci j) = vp_V fs j) (hroom : cells + 1 ≤ R.cells ∧ slots + tk_N ci ≤ R.slots) (hn0 : n0 + cells = n)
    (kk : tk_V p l e R s m args below meth c Q E nL (n + 1) (tk_G n [.inr (ci, fs)] C) (cells + 1) (slots + tk_N ci) pc' lo (.ref (E.1 + n) :: st)) : tk_V p l e R s m args below meth c Q E nL n C cells slots pc lo st := v_new1 cx fs d hcl hci hit hfs hroom hn0 (by rw [tk_G_new]; exact kk)
theorem v_newaG (cx : tk_X p s m args c cc nL own E n0) {atype : ArrayType} {ty : FieldType} (a0 : vp_A) (t0 : Nat) {x : Int32} (N : Nat) (d : tk_D cc pc (.newarray atype) 2 pc') (harr : Cond.arrayClass ty ∈ lw_tbl) (hty : newarray.typeOf atype = ty) (ht0 : (tk_tys E)[t0]? = some (E.2.2.1 t0, ty)) (hra : va_RA s (E.2.2.1 t0) ty = (s.vm.findClass ("[" ++ ty.toString) = some (E.2.2.1 t0))) (ha : ∀ cA : ClassId, vp_cell cA a0 = arrV cA N (fun _ => defaultValue ty)) (hx : x = nI N) (hN : N < 1000) (hby : componentBytes ty ≤ 8) (hroom : cells + 1 ≤ R.cells ∧ slots + N ≤ R.slots) (hn0 : n0 + cells = n) (L' : List va_E) (hnL : n = i + L.length) (hL' : L ++ [.inl (E.2.2.1 t0, a0)] = L')
    (kk : tk_V p l e R s m args below meth c Q E nL (n + 1) (tk_G i L' C) (cells + 1) (slots + N) pc' lo (.ref (E.1 + n) :: st)) : tk_V p l e R s m args below meth c Q E nL n (tk_G i L C) cells slots pc lo (.int x :: st) :=
  v_newa1 cx a0 t0 N d harr hty ht0 hra ha hx hN hby hroom hn0 (by
    rw [tk_G_new]
    have h := tk_G_G (i := i) (L := L) (L2 := [.inl (E.2.2.1 t0, a0)]) (C := C)
    rw [← hnL, hL'] at h
    rw [h]
    exact kk)
theorem v_anewG (cx : tk_X p s m args c cc nL own E n0) {idx : Nat} {nm : String} (f : Nat → Option Nat) (t0 : Nat) {x : Int32} (N : Nat) (d : tk_D cc pc (.anewarray idx) 3 pc') (hcl : Cond.classLink own idx nm ∈ lw_tbl) (hao : Cond.arrayOver (.object nm) ∈ lw_tbl) (ht0 : (tk_tys E)[t0]? = some (E.2.2.1 t0, .object nm)) (hf : ∀ j, j < N → f j = none) (hx : x = nI N) (hN : N < 1000) (hroom : cells + 1 ≤ R.cells ∧ slots + N ≤ R.slots) (hn0 : n0 + cells = n) (L' : List va_E) (hnL : n = i + L.length) (hL' : L ++ [.inl (E.2.2.1 t0, N, .inr (.inr (.inr (.inr f))))] = L')
    (kk : tk_V p l e R s m args below meth c Q E nL (n + 1) (tk_G i L' C) (cells + 1) (slots + N) pc' lo (.ref (E.1 + n) :: st)) : tk_V p l e R s m args below meth c Q E nL n (tk_G i L C) cells slots pc lo (.int x :: st) :=
  v_anew1 cx f t0 N d hcl hao ht0 hf hx hN hroom hn0 (by
    rw [tk_G_new]
    have h := tk_G_G (i := i) (L := L) (L2 := [.inl (E.2.2.1 t0, N, .inr (.inr (.inr (.inr f))))]) (C := C)
    rw [← hnL, hL'] at h
    rw [h]
    exact kk)
end TKG
/-- references under way -/
def tk_fr (N q : Nat) (g : Nat → Nat) : Nat → Option Nat := fun k => if q ≤ k ∧ k < N then none else some (g k)
theorem tk_fr_0 {N : Nat} {g : Nat → Nat} : ∀ j, j < N → tk_fr N 0 g j = none := fun j hj => by simp [tk_fr, hj]
theorem tk_fr_up {N q : Nat} {g : Nat → Nat} {x : Nat} (h : q < N) (hx : x = g q) : va_up (tk_fr N q g) q (some x) = tk_fr N (q + 1) g := by
  funext k
  by_cases hk : k = q
  · subst hk
    simp [va_up, tk_fr, hx]
    omega
  · simp only [va_up, tk_fr, if_neg hk]
    by_cases h1 : q ≤ k ∧ k < N
    · rw [if_pos h1, if_pos (by omega)]
    · rw [if_neg h1, if_neg (by omega)]
theorem tk_fr_all {N : Nat} {g : Nat → Nat} : tk_fr N N g = fun k => some (g k) := by
  funext k
  unfold tk_fr
  rw [if_neg (by omega)]
abbrev aI (E : tk_E) (N : Nat) : va_E := .inl (E.2.2.1 0, N, .inl (fun _ => 0))
abbrev aZ (E : tk_E) (N : Nat) : va_E := .inl (E.2.2.1 1, N, .inl (fun _ => 0))
abbrev aL (E : tk_E) (N : Nat) : va_E := .inl (E.2.2.1 2, N, .inr (.inl (fun _ => 0)))
abbrev aQ (E : tk_E) (t N : Nat) (f : Nat → Option Nat) : va_E := .inl (E.2.2.1 t, N, .inr (.inr (.inr (.inr f))))
abbrev dv_K : List Value := [.null, .null, .null, .null, .null, .null, .int 0]
theorem dk_K : ∀ j, j < tk_N 0 → defaultValue (tk_ty 0 j) = vp_V dv_K j := by decide +kernel
abbrev dv_P : List Value := [.null, .null, .null, .int 0]
theorem dk_P : ∀ j, j < tk_N 1 → defaultValue (tk_ty 1 j) = vp_V dv_P j := by decide +kernel
abbrev dv_L : List Value := [.int 0, .int 0, .int 0, .int 0, .int 0, .int 0, .int 0, .int 0]
theorem dk_L : ∀ j, j < tk_N 2 → defaultValue (tk_ty 2 j) = vp_V dv_L j := by decide +kernel
abbrev dv_Z : List Value := [.null, .null, .null, .int 0, .int 0]
theorem dk_Z : ∀ j, j < tk_N 3 → defaultValue (tk_ty 3 j) = vp_V dv_Z j := by decide +kernel
abbrev dv_J : List Value := [.null, .null, .null, .null, .int 0, .int 0, .int 0, .int 0, .int 0]
theorem dk_J : ∀ j, j < tk_N 4 → defaultValue (tk_ty 4 j) = vp_V dv_J j := by decide +kernel
abbrev dv_U : List Value := [.long 0, .int 0, .long 0, .int 0, .int 0, .int 0, .int 0]
theorem dk_U : ∀ j, j < tk_N 5 → defaultValue (tk_ty 5 j) = vp_V dv_U j := by decide +kernel
abbrev dv_N : List Value := [.null, .null, .int 0, .int 0]
theorem dk_N : ∀ j, j < tk_N 6 → defaultValue (tk_ty 6 j) = vp_V dv_N j := by decide +kernel
abbrev dv_S : List Value := [.null, .int 0]
theorem dk_S : ∀ j, j < tk_N 7 → defaultValue (tk_ty 7 j) = vp_V dv_S j := by decide +kernel
abbrev dv_E : List Value := [.int 0, .int 0, .int 0, .int 0, .int 0, .int 0, .int 0, .int 0, .int 0]
theorem dk_E : ∀ j, j < tk_N 8 → defaultValue (tk_ty 8 j) = vp_V dv_E j := by decide +kernel
abbrev dv_M : List Value := [.int 0, .int 0, .null, .null, .null, .null, .null, .null, .null, .null, .null, .null, .null, .null, .null, .null, .null, .null, .null, .null, .null, .null, .null, .null, .null, .null, .null, .null, .null, .null, .null, .null, .null, .null, .null, .null, .null, .null, .int 0, .int 0, .int 0, .int 0, .int 0]
theorem dk_M : ∀ j, j < tk_N 9 → defaultValue (tk_ty 9 j) = vp_V dv_M j := by decide +kernel
theorem cl_K_9 : Cond.classLink R_K 9 (tk_R 3) ∈ lw_tbl := tk_tb 22 (by decide +kernel)
theorem cl_K_15 : Cond.classLink R_K 15 (tk_R 4) ∈ lw_tbl := tk_tb 24 (by decide +kernel)
theorem cl_K_21 : Cond.classLink R_K 21 (tk_R 7) ∈ lw_tbl := tk_tb 26 (by decide +kernel)
theorem cl_K_31 : Cond.classLink R_K 31 (tk_R 6) ∈ lw_tbl := tk_tb 28 (by decide +kernel)
theorem cl_K_37 : Cond.classLink R_K 37 (tk_R 1) ∈ lw_tbl := tk_tb 30 (by decide +kernel)
theorem cl_J_9 : Cond.classLink R_J 9 (tk_R 5) ∈ lw_tbl := tk_tb 130 (by decide +kernel)
theorem cl_P_9 : Cond.classLink R_P 9 (tk_R 2) ∈ lw_tbl := tk_tb 36 (by decide +kernel)
theorem cl_S_9 : Cond.classLink R_S 9 (tk_R 8) ∈ lw_tbl := tk_tb 220 (by decide +kernel)
theorem cl_W_7 : Cond.classLink R_W 7 (tk_R 0) ∈ lw_tbl := tk_tb 14 (by decide +kernel)
theorem cl_W_10 : Cond.classLink R_W 10 (tk_R 9) ∈ lw_tbl := tk_tb 651 (by decide +kernel)
set_option maxHeartbeats 4000000 in
set_option maxRecDepth 100000 in
theorem i_L {l : Launch} {E : tk_E} {i : Nat} {C : Nat → va_E} : tk_Met l y_L_init b_L_init 1 none 1 E [.ref (E.1 + i)] (i + 1) (tk_G i [.inr (2, dv_L)] C) (i + 1) (tk_G i [.inr (2, [.int 0, .int 0, .int 0, .int 0, .int 0, .int (-1), .int 0, .int 0])] C) none 0 0 := by
  refine tk_ofV (by decide +kernel) [some (.ref (E.1 + i))] rfl (Nat.le_of_ble_eq_true rfl) ?_
  intro p e s m args below meth c cx hB
  refine v_aload_n cx (tk_dc d_L_init 0 rfl) rfl ?_
  refine v_objI cx (tk_dc d_L_init 1 rfl) m_L_3 (Nat.le_of_ble_eq_true rfl) ?_
  refine v_aload_n cx (tk_dc d_L_init 2 rfl) rfl ?_
  refine v_iconst cx (tk_dc d_L_init 3 rfl) (0) (by decide) ?_
  refine v_putG cx (tk_dc d_L_init 4 rfl) f_L_9 (by omega) (Nat.le_of_ble_eq_true rfl) rfl (by first | rfl | decide +kernel) (by first | rfl | decide +kernel) [.int 0, .int 0, .int 0, .int 0, .int 0, .int 0, .int 0, .int 0] rfl ?_
  refine v_aload_n cx (tk_dc d_L_init 5 rfl) rfl ?_
  refine v_iconst cx (tk_dc d_L_init 6 rfl) (0) (by decide) ?_
  refine v_putG cx (tk_dc d_L_init 7 rfl) f_L_15 (by omega) (Nat.le_of_ble_eq_true rfl) rfl (by first | rfl | decide +kernel) (by first | rfl | decide +kernel) [.int 0, .int 0, .int 0, .int 0, .int 0, .int 0, .int 0, .int 0] rfl ?_
  refine v_aload_n cx (tk_dc d_L_init 8 rfl) rfl ?_
  refine v_iconst cx (tk_dc d_L_init 9 rfl) (0) (by decide) ?_
  refine v_putG cx (tk_dc d_L_init 10 rfl) f_L_18 (by omega) (Nat.le_of_ble_eq_true rfl) rfl (by first | rfl | decide +kernel) (by first | rfl | decide +kernel) [.int 0, .int 0, .int 0, .int 0, .int 0, .int 0, .int 0, .int 0] rfl ?_
  refine v_aload_n cx (tk_dc d_L_init 11 rfl) rfl ?_
  refine v_iconst cx (tk_dc d_L_init 12 rfl) (0) (by decide) ?_
  refine v_putG cx (tk_dc d_L_init 13 rfl) f_L_21 (by omega) (Nat.le_of_ble_eq_true rfl) rfl (by first | rfl | decide +kernel) (by first | rfl | decide +kernel) [.int 0, .int 0, .int 0, .int 0, .int 0, .int 0, .int 0, .int 0] rfl ?_
  refine v_aload_n cx (tk_dc d_L_init 14 rfl) rfl ?_
  refine v_iconst cx (tk_dc d_L_init 15 rfl) (0) (by decide) ?_
  refine v_putG cx (tk_dc d_L_init 16 rfl) f_L_24 (by omega) (Nat.le_of_ble_eq_true rfl) rfl (by first | rfl | decide +kernel) (by first | rfl | decide +kernel) [.int 0, .int 0, .int 0, .int 0, .int 0, .int 0, .int 0, .int 0] rfl ?_
  refine v_aload_n cx (tk_dc d_L_init 17 rfl) rfl ?_
  refine v_iconst cx (tk_dc d_L_init 18 rfl) (-1) (by decide) ?_
  refine v_putG cx (tk_dc d_L_init 19 rfl) f_L_27 (by omega) (Nat.le_of_ble_eq_true rfl) rfl (by first | rfl | decide +kernel) (by first | rfl | decide +kernel) [.int 0, .int 0, .int 0, .int 0, .int 0, .int (-1), .int 0, .int 0] rfl ?_
  refine v_aload_n cx (tk_dc d_L_init 20 rfl) rfl ?_
  refine v_iconst cx (tk_dc d_L_init 21 rfl) (0) (by decide) ?_
  refine v_putG cx (tk_dc d_L_init 22 rfl) f_L_30 (by omega) (Nat.le_of_ble_eq_true rfl) rfl (by first | rfl | decide +kernel) (by first | rfl | decide +kernel) [.int 0, .int 0, .int 0, .int 0, .int 0, .int (-1), .int 0, .int 0] rfl ?_
  refine v_aload_n cx (tk_dc d_L_init 23 rfl) rfl ?_
  refine v_iconst cx (tk_dc d_L_init 24 rfl) (0) (by decide) ?_
  refine v_putG cx (tk_dc d_L_init 25 rfl) f_L_33 (by omega) (Nat.le_of_ble_eq_true rfl) rfl (by first | rfl | decide +kernel) (by first | rfl | decide +kernel) [.int 0, .int 0, .int 0, .int 0, .int 0, .int (-1), .int 0, .int 0] rfl ?_
  exact v_vret1 cx hB (tk_dc d_L_init 26 rfl) (fun a _ => rfl) (by omega) (by omega)
set_option maxHeartbeats 4000000 in
set_option maxRecDepth 100000 in
theorem i_E {l : Launch} {E : tk_E} {i : Nat} {C : Nat → va_E} : tk_Met l y_E_init b_E_init 1 none 1 E [.ref (E.1 + i)] (i + 1) (tk_G i [.inr (8, dv_E)] C) (i + 1) (tk_G i [.inr (8, [.int 0, .int 0, .int (-1), .int 0, .int (-1), .int 0, .int 0, .int (-1), .int 0])] C) none 0 0 := by
  refine tk_ofV (by decide +kernel) [some (.ref (E.1 + i))] rfl (Nat.le_of_ble_eq_true rfl) ?_
  intro p e s m args below meth c cx hB
  refine v_aload_n cx (tk_dc d_E_init 0 rfl) rfl ?_
  refine v_objI cx (tk_dc d_E_init 1 rfl) m_E_3 (Nat.le_of_ble_eq_true rfl) ?_
  refine v_aload_n cx (tk_dc d_E_init 2 rfl) rfl ?_
  refine v_iconst cx (tk_dc d_E_init 3 rfl) (0) (by decide) ?_
  refine v_putG cx (tk_dc d_E_init 4 rfl) f_E_9 (by omega) (Nat.le_of_ble_eq_true rfl) rfl (by first | rfl | decide +kernel) (by first | rfl | decide +kernel) [.int 0, .int 0, .int 0, .int 0, .int 0, .int 0, .int 0, .int 0, .int 0] rfl ?_
  refine v_aload_n cx (tk_dc d_E_init 5 rfl) rfl ?_
  refine v_iconst cx (tk_dc d_E_init 6 rfl) (0) (by decide) ?_
  refine v_putG cx (tk_dc d_E_init 7 rfl) f_E_15 (by omega) (Nat.le_of_ble_eq_true rfl) rfl (by first | rfl | decide +kernel) (by first | rfl | decide +kernel) [.int 0, .int 0, .int 0, .int 0, .int 0, .int 0, .int 0, .int 0, .int 0] rfl ?_
  refine v_aload_n cx (tk_dc d_E_init 8 rfl) rfl ?_
  refine v_iconst cx (tk_dc d_E_init 9 rfl) (-1) (by decide) ?_
  refine v_putG cx (tk_dc d_E_init 10 rfl) f_E_18 (by omega) (Nat.le_of_ble_eq_true rfl) rfl (by first | rfl | decide +kernel) (by first | rfl | decide +kernel) [.int 0, .int 0, .int (-1), .int 0, .int 0, .int 0, .int 0, .int 0, .int 0] rfl ?_
  refine v_aload_n cx (tk_dc d_E_init 11 rfl) rfl ?_
  refine v_iconst cx (tk_dc d_E_init 12 rfl) (0) (by decide) ?_
  refine v_putG cx (tk_dc d_E_init 13 rfl) f_E_21 (by omega) (Nat.le_of_ble_eq_true rfl) rfl (by first | rfl | decide +kernel) (by first | rfl | decide +kernel) [.int 0, .int 0, .int (-1), .int 0, .int 0, .int 0, .int 0, .int 0, .int 0] rfl ?_
  refine v_aload_n cx (tk_dc d_E_init 14 rfl) rfl ?_
  refine v_iconst cx (tk_dc d_E_init 15 rfl) (-1) (by decide) ?_
  refine v_putG cx (tk_dc d_E_init 16 rfl) f_E_24 (by omega) (Nat.le_of_ble_eq_true rfl) rfl (by first | rfl | decide +kernel) (by first | rfl | decide +kernel) [.int 0, .int 0, .int (-1), .int 0, .int (-1), .int 0, .int 0, .int 0, .int 0] rfl ?_
  refine v_aload_n cx (tk_dc d_E_init 17 rfl) rfl ?_
  refine v_iconst cx (tk_dc d_E_init 18 rfl) (0) (by decide) ?_
  refine v_putG cx (tk_dc d_E_init 19 rfl) f_E_27 (by omega) (Nat.le_of_ble_eq_true rfl) rfl (by first | rfl | decide +kernel) (by first | rfl | decide +kernel) [.int 0, .int 0, .int (-1), .int 0, .int (-1), .int 0, .int 0, .int 0, .int 0] rfl ?_
  refine v_aload_n cx (tk_dc d_E_init 20 rfl) rfl ?_
  refine v_iconst cx (tk_dc d_E_init 21 rfl) (0) (by decide) ?_
  refine v_putG cx (tk_dc d_E_init 22 rfl) f_E_30 (by omega) (Nat.le_of_ble_eq_true rfl) rfl (by first | rfl | decide +kernel) (by first | rfl | decide +kernel) [.int 0, .int 0, .int (-1), .int 0, .int (-1), .int 0, .int 0, .int 0, .int 0] rfl ?_
  refine v_aload_n cx (tk_dc d_E_init 23 rfl) rfl ?_
  refine v_iconst cx (tk_dc d_E_init 24 rfl) (-1) (by decide) ?_
  refine v_putG cx (tk_dc d_E_init 25 rfl) f_E_33 (by omega) (Nat.le_of_ble_eq_true rfl) rfl (by first | rfl | decide +kernel) (by first | rfl | decide +kernel) [.int 0, .int 0, .int (-1), .int 0, .int (-1), .int 0, .int 0, .int (-1), .int 0] rfl ?_
  refine v_aload_n cx (tk_dc d_E_init 26 rfl) rfl ?_
  refine v_iconst cx (tk_dc d_E_init 27 rfl) (0) (by decide) ?_
  refine v_putG cx (tk_dc d_E_init 28 rfl) f_E_36 (by omega) (Nat.le_of_ble_eq_true rfl) rfl (by first | rfl | decide +kernel) (by first | rfl | decide +kernel) [.int 0, .int 0, .int (-1), .int 0, .int (-1), .int 0, .int 0, .int (-1), .int 0] rfl ?_
  exact v_vret1 cx hB (tk_dc d_E_init 29 rfl) (fun a _ => rfl) (by omega) (by omega)
set_option maxHeartbeats 4000000 in
set_option maxRecDepth 100000 in
theorem i_U {l : Launch} {E : tk_E} {i : Nat} {C : Nat → va_E} : tk_Met l y_U_init b_U_init 1 none 1 E [.ref (E.1 + i)] (i + 1) (tk_G i [.inr (5, dv_U)] C) (i + 1) (tk_G i [.inr (5, [.long 1, .int 1, .long 4294967295, .int 8190, .int 127, .int 0, .int 0])] C) none 0 0 := by
  refine tk_ofV (by decide +kernel) [some (.ref (E.1 + i))] rfl (Nat.le_of_ble_eq_true rfl) ?_
  intro p e s m args below meth c cx hB
  refine v_aload_n cx (tk_dc d_U_init 0 rfl) rfl ?_
  refine v_objI cx (tk_dc d_U_init 1 rfl) m_U_3 (Nat.le_of_ble_eq_true rfl) ?_
  refine v_aload_n cx (tk_dc d_U_init 2 rfl) rfl ?_
  refine v_lconst cx (tk_dc d_U_init 3 rfl) (1) (by decide) ?_
  refine v_putG cx (tk_dc d_U_init 4 rfl) f_U_9 (by omega) (Nat.le_of_ble_eq_true rfl) rfl (by first | rfl | decide +kernel) (by first | rfl | decide +kernel) [.long 1, .int 0, .long 0, .int 0, .int 0, .int 0, .int 0] rfl ?_
  refine v_aload_n cx (tk_dc d_U_init 5 rfl) rfl ?_
  refine v_iconst cx (tk_dc d_U_init 6 rfl) (1) (by decide) ?_
  refine v_putG cx (tk_dc d_U_init 7 rfl) f_U_15 (by omega) (Nat.le_of_ble_eq_true rfl) rfl (by first | rfl | decide +kernel) (by first | rfl | decide +kernel) [.long 1, .int 1, .long 0, .int 0, .int 0, .int 0, .int 0] rfl ?_
  refine v_aload_n cx (tk_dc d_U_init 8 rfl) rfl ?_
  refine v_ldc2 cx (tk_dc d_U_init 9 rfl) c_U_19 ?_
  refine v_putG cx (tk_dc d_U_init 10 rfl) f_U_21 (by omega) (Nat.le_of_ble_eq_true rfl) rfl (by first | rfl | decide +kernel) (by first | rfl | decide +kernel) [.long 1, .int 1, .long 4294967295, .int 0, .int 0, .int 0, .int 0] rfl ?_
  refine v_aload_n cx (tk_dc d_U_init 11 rfl) rfl ?_
  refine v_sipush cx (tk_dc d_U_init 12 rfl) (8190) (by decide) ?_
  refine v_putG cx (tk_dc d_U_init 13 rfl) f_U_24 (by omega) (Nat.le_of_ble_eq_true rfl) rfl (by first | rfl | decide +kernel) (by first | rfl | decide +kernel) [.long 1, .int 1, .long 4294967295, .int 8190, .int 0, .int 0, .int 0] rfl ?_
  refine v_aload_n cx (tk_dc d_U_init 14 rfl) rfl ?_
  refine v_bipush cx (tk_dc d_U_init 15 rfl) (127) (by decide) ?_
  refine v_putG cx (tk_dc d_U_init 16 rfl) f_U_27 (by omega) (Nat.le_of_ble_eq_true rfl) rfl (by first | rfl | decide +kernel) (by first | rfl | decide +kernel) [.long 1, .int 1, .long 4294967295, .int 8190, .int 127, .int 0, .int 0] rfl ?_
  refine v_aload_n cx (tk_dc d_U_init 17 rfl) rfl ?_
  refine v_iconst cx (tk_dc d_U_init 18 rfl) (0) (by decide) ?_
  refine v_putG cx (tk_dc d_U_init 19 rfl) f_U_30 (by omega) (Nat.le_of_ble_eq_true rfl) rfl (by first | rfl | decide +kernel) (by first | rfl | decide +kernel) [.long 1, .int 1, .long 4294967295, .int 8190, .int 127, .int 0, .int 0] rfl ?_
  refine v_aload_n cx (tk_dc d_U_init 20 rfl) rfl ?_
  refine v_iconst cx (tk_dc d_U_init 21 rfl) (0) (by decide) ?_
  refine v_putG cx (tk_dc d_U_init 22 rfl) f_U_33 (by omega) (Nat.le_of_ble_eq_true rfl) rfl (by first | rfl | decide +kernel) (by first | rfl | decide +kernel) [.long 1, .int 1, .long 4294967295, .int 8190, .int 127, .int 0, .int 0] rfl ?_
  exact v_vret1 cx hB (tk_dc d_U_init 23 rfl) (fun a _ => rfl) (by omega) (by omega)
set_option maxHeartbeats 4000000 in
set_option maxRecDepth 100000 in
theorem i_Z {l : Launch} {E : tk_E} {i : Nat} {C : Nat → va_E} : tk_Met l y_Z_init b_Z_init 1 none 1 E [.ref (E.1 + i)] (i + 1) (tk_G i [.inr (3, dv_Z)] C) (i + 4) (tk_G i [.inr (3, [.ref (E.1 + (i + 1)), .ref (E.1 + (i + 2)), .ref (E.1 + (i + 3)), .int 1, .int 0]), aI E 9, aI E 9, aI E 16] C) none 3 34 := by
  refine tk_ofV (by decide +kernel) [some (.ref (E.1 + i))] rfl (Nat.le_of_ble_eq_true rfl) ?_
  intro p e s m args below meth c cx hB
  refine v_aload_n cx (tk_dc d_Z_init 0 rfl) rfl ?_
  refine v_objI cx (tk_dc d_Z_init 1 rfl) m_Z_3 (Nat.le_of_ble_eq_true rfl) ?_
  refine v_aload_n cx (tk_dc d_Z_init 2 rfl) rfl ?_
  refine v_bipush cx (tk_dc d_Z_init 3 rfl) (9) (by decide) ?_
  refine v_newaG (i := i) cx (9, .inl (fun _ => 0)) 0 9 (tk_dc d_Z_init 4 rfl) ac_I rfl rfl rfl (fun _ => rfl) (by decide) (by decide) (by decide) ⟨Nat.le_of_ble_eq_true rfl, Nat.le_of_ble_eq_true rfl⟩ (by omega) [.inr (3, [.null, .null, .null, .int 0, .int 0]), aI E 9] rfl rfl ?_
  refine v_putFG cx hB rfl (tk_dc d_Z_init 5 rfl) f_Z_9 (tk_tb 105 (by decide +kernel)) (by omega) (Nat.le_of_ble_eq_true rfl) rfl rfl rfl rfl [.ref (E.1 + (i + 1)), .null, .null, .int 0, .int 0] rfl ?_
  refine v_aload_n cx (tk_dc d_Z_init 6 rfl) rfl ?_
  refine v_bipush cx (tk_dc d_Z_init 7 rfl) (9) (by decide) ?_
  refine v_newaG (i := i) cx (9, .inl (fun _ => 0)) 0 9 (tk_dc d_Z_init 8 rfl) ac_I rfl rfl rfl (fun _ => rfl) (by decide) (by decide) (by decide) ⟨Nat.le_of_ble_eq_true rfl, Nat.le_of_ble_eq_true rfl⟩ (by omega) [.inr (3, [.ref (E.1 + (i + 1)), .null, .null, .int 0, .int 0]), aI E 9, aI E 9] rfl rfl ?_
  refine v_putFG cx hB rfl (tk_dc d_Z_init 9 rfl) f_Z_15 (tk_tb 107 (by decide +kernel)) (by omega) (Nat.le_of_ble_eq_true rfl) rfl rfl rfl rfl [.ref (E.1 + (i + 1)), .ref (E.1 + (i + 2)), .null, .int 0, .int 0] rfl ?_
  refine v_aload_n cx (tk_dc d_Z_init 10 rfl) rfl ?_
  refine v_bipush cx (tk_dc d_Z_init 11 rfl) (16) (by decide) ?_
  refine v_newaG (i := i) cx (16, .inl (fun _ => 0)) 0 16 (tk_dc d_Z_init 12 rfl) ac_I rfl rfl rfl (fun _ => rfl) (by decide) (by decide) (by decide) ⟨Nat.le_of_ble_eq_true rfl, Nat.le_of_ble_eq_true rfl⟩ (by omega) [.inr (3, [.ref (E.1 + (i + 1)), .ref (E.1 + (i + 2)), .null, .int 0, .int 0]), aI E 9, aI E 9, aI E 16] rfl rfl ?_
  refine v_putFG cx hB rfl (tk_dc d_Z_init 13 rfl) f_Z_18 (tk_tb 109 (by decide +kernel)) (by omega) (Nat.le_of_ble_eq_true rfl) rfl rfl rfl rfl [.ref (E.1 + (i + 1)), .ref (E.1 + (i + 2)), .ref (E.1 + (i + 3)), .int 0, .int 0] rfl ?_
  refine v_aload_n cx (tk_dc d_Z_init 14 rfl) rfl ?_
  refine v_iconst cx (tk_dc d_Z_init 15 rfl) (1) (by decide) ?_
  refine v_putG cx (tk_dc d_Z_init 16 rfl) f_Z_21 (by omega) (Nat.le_of_ble_eq_true rfl) rfl (by first | rfl | decide +kernel) (by first | rfl | decide +kernel) [.ref (E.1 + (i + 1)), .ref (E.1 + (i + 2)), .ref (E.1 + (i + 3)), .int 1, .int 0] rfl ?_
  refine v_aload_n cx (tk_dc d_Z_init 17 rfl) rfl ?_
  refine v_iconst cx (tk_dc d_Z_init 18 rfl) (0) (by decide) ?_
  refine v_putG cx (tk_dc d_Z_init 19 rfl) f_Z_25 (by omega) (Nat.le_of_ble_eq_true rfl) rfl (by first | rfl | decide +kernel) (by first | rfl | decide +kernel) [.ref (E.1 + (i + 1)), .ref (E.1 + (i + 2)), .ref (E.1 + (i + 3)), .int 1, .int 0] rfl ?_
  exact v_vret1 cx hB (tk_dc d_Z_init 20 rfl) (fun a _ => rfl) (by omega) (by omega)
set_option maxHeartbeats 4000000 in
set_option maxRecDepth 100000 in
theorem i_N {l : Launch} {E : tk_E} {i : Nat} {C : Nat → va_E} : tk_Met l y_N_init b_N_init 1 none 1 E [.ref (E.1 + i)] (i + 1) (tk_G i [.inr (6, dv_N)] C) (i + 3) (tk_G i [.inr (6, [.ref (E.1 + (i + 1)), .ref (E.1 + (i + 2)), .int 0, .int 0]), aI E 40, aI E 40] C) none 2 80 := by
  refine tk_ofV (by decide +kernel) [some (.ref (E.1 + i))] rfl (Nat.le_of_ble_eq_true rfl) ?_
  intro p e s m args below meth c cx hB
  refine v_aload_n cx (tk_dc d_N_init 0 rfl) rfl ?_
  refine v_objI cx (tk_dc d_N_init 1 rfl) m_N_3 (Nat.le_of_ble_eq_true rfl) ?_
  refine v_aload_n cx (tk_dc d_N_init 2 rfl) rfl ?_
  refine v_bipush cx (tk_dc d_N_init 3 rfl) (40) (by decide) ?_
  refine v_newaG (i := i) cx (40, .inl (fun _ => 0)) 0 40 (tk_dc d_N_init 4 rfl) ac_I rfl rfl rfl (fun _ => rfl) (by decide) (by decide) (by decide) ⟨Nat.le_of_ble_eq_true rfl, Nat.le_of_ble_eq_true rfl⟩ (by omega) [.inr (6, [.null, .null, .int 0, .int 0]), aI E 40] rfl rfl ?_
  refine v_putFG cx hB rfl (tk_dc d_N_init 5 rfl) f_N_9 (tk_tb 199 (by decide +kernel)) (by omega) (Nat.le_of_ble_eq_true rfl) rfl rfl rfl rfl [.ref (E.1 + (i + 1)), .null, .int 0, .int 0] rfl ?_
  refine v_aload_n cx (tk_dc d_N_init 6 rfl) rfl ?_
  refine v_bipush cx (tk_dc d_N_init 7 rfl) (40) (by decide) ?_
  refine v_newaG (i := i) cx (40, .inl (fun _ => 0)) 0 40 (tk_dc d_N_init 8 rfl) ac_I rfl rfl rfl (fun _ => rfl) (by decide) (by decide) (by decide) ⟨Nat.le_of_ble_eq_true rfl, Nat.le_of_ble_eq_true rfl⟩ (by omega) [.inr (6, [.ref (E.1 + (i + 1)), .null, .int 0, .int 0]), aI E 40, aI E 40] rfl rfl ?_
  refine v_putFG cx hB rfl (tk_dc d_N_init 9 rfl) f_N_15 (tk_tb 201 (by decide +kernel)) (by omega) (Nat.le_of_ble_eq_true rfl) rfl rfl rfl rfl [.ref (E.1 + (i + 1)), .ref (E.1 + (i + 2)), .int 0, .int 0] rfl ?_
  refine v_aload_n cx (tk_dc d_N_init 10 rfl) rfl ?_
  refine v_iconst cx (tk_dc d_N_init 11 rfl) (0) (by decide) ?_
  refine v_putG cx (tk_dc d_N_init 12 rfl) f_N_18 (by omega) (Nat.le_of_ble_eq_true rfl) rfl (by first | rfl | decide +kernel) (by first | rfl | decide +kernel) [.ref (E.1 + (i + 1)), .ref (E.1 + (i + 2)), .int 0, .int 0] rfl ?_
  refine v_aload_n cx (tk_dc d_N_init 13 rfl) rfl ?_
  refine v_iconst cx (tk_dc d_N_init 14 rfl) (0) (by decide) ?_
  refine v_putG cx (tk_dc d_N_init 15 rfl) f_N_22 (by omega) (Nat.le_of_ble_eq_true rfl) rfl (by first | rfl | decide +kernel) (by first | rfl | decide +kernel) [.ref (E.1 + (i + 1)), .ref (E.1 + (i + 2)), .int 0, .int 0] rfl ?_
  exact v_vret1 cx hB (tk_dc d_N_init 16 rfl) (fun a _ => rfl) (by omega) (by omega)
set_option maxHeartbeats 4000000 in
set_option maxRecDepth 100000 in
theorem i_J {l : Launch} {E : tk_E} {i z : Nat} {C : Nat → va_E} : tk_Met l y_J_init b_J_init 2 none 2 E [.ref (E.1 + i), .ref (E.1 + z)] (i + 1) (tk_G i [.inr (4, dv_J)] C) (i + 4) (tk_G i [.inr (4, [.ref (E.1 + (i + 1)), .ref (E.1 + (i + 2)), .ref (E.1 + (i + 3)), .ref (E.1 + z), .int 0, .int 0, .int 0, .int 1440, .int 0]), .inr (5, [.long 1, .int 1, .long 4294967295, .int 8190, .int 127, .int 0, .int 0]), aI E 8, aZ E 8] C) none 3 23 := by
  refine tk_ofV (by decide +kernel) [some (.ref (E.1 + i)), some (.ref (E.1 + z))] rfl (Nat.le_of_ble_eq_true rfl) ?_
  intro p e s m args below meth c cx hB
  refine v_aload_n cx (tk_dc d_J_init 0 rfl) rfl ?_
  refine v_objI cx (tk_dc d_J_init 1 rfl) m_J_3 (Nat.le_of_ble_eq_true rfl) ?_
  refine v_aload_n cx (tk_dc d_J_init 2 rfl) rfl ?_
  refine v_new2 cx dv_U (tk_dc d_J_init 3 rfl) cl_J_9 (by decide) it_U dk_U ⟨Nat.le_of_ble_eq_true rfl, Nat.le_of_ble_eq_true rfl⟩ (by omega) ?_
  refine v_dup cx (tk_dc d_J_init 4 rfl) rfl ?_
  refine v_callI1 (as := []) cx (tk_dc d_J_init 5 rfl) (.inr m_J_11) kn_U_init rfl k_U_init i_U rfl rfl (Nat.le_of_ble_eq_true rfl) (by decide) (by decide) ⟨Nat.le_of_ble_eq_true rfl, Nat.le_of_ble_eq_true rfl⟩ (by omega) (by omega) (by omega) ?_
  refine v_eqF (C' := tk_G i [.inr (4, [.null, .null, .null, .null, .int 0, .int 0, .int 0, .int 0, .int 0]), .inr (5, [.long 1, .int 1, .long 4294967295, .int 8190, .int 127, .int 0, .int 0])] C) (tk_G_G (L := [_])) ?_
  refine v_putFG cx hB rfl (tk_dc d_J_init 6 rfl) f_J_12 (tk_tb 161 (by decide +kernel)) (by omega) (Nat.le_of_ble_eq_true rfl) rfl rfl rfl rfl [.ref (E.1 + (i + 1)), .null, .null, .null, .int 0, .int 0, .int 0, .int 0, .int 0] rfl ?_
  refine v_aload_n cx (tk_dc d_J_init 7 rfl) rfl ?_
  refine v_bipush cx (tk_dc d_J_init 8 rfl) (8) (by decide) ?_
  refine v_newaG (i := i) cx (8, .inl (fun _ => 0)) 0 8 (tk_dc d_J_init 9 rfl) ac_I rfl rfl rfl (fun _ => rfl) (by decide) (by decide) (by decide) ⟨Nat.le_of_ble_eq_true rfl, Nat.le_of_ble_eq_true rfl⟩ (by omega) [.inr (4, [.ref (E.1 + (i + 1)), .null, .null, .null, .int 0, .int 0, .int 0, .int 0, .int 0]), .inr (5, [.long 1, .int 1, .long 4294967295, .int 8190, .int 127, .int 0, .int 0]), aI E 8] rfl rfl ?_
  refine v_putFG cx hB rfl (tk_dc d_J_init 10 rfl) f_J_18 (tk_tb 163 (by decide +kernel)) (by omega) (Nat.le_of_ble_eq_true rfl) rfl rfl rfl rfl [.ref (E.1 + (i + 1)), .ref (E.1 + (i + 2)), .null, .null, .int 0, .int 0, .int 0, .int 0, .int 0] rfl ?_
  refine v_aload_n cx (tk_dc d_J_init 11 rfl) rfl ?_
  refine v_bipush cx (tk_dc d_J_init 12 rfl) (8) (by decide) ?_
  refine v_newaG (i := i) cx (8, .inl (fun _ => 0)) 1 8 (tk_dc d_J_init 13 rfl) ac_Z rfl rfl rfl (fun _ => rfl) (by decide) (by decide) (by decide) ⟨Nat.le_of_ble_eq_true rfl, Nat.le_of_ble_eq_true rfl⟩ (by omega) [.inr (4, [.ref (E.1 + (i + 1)), .ref (E.1 + (i + 2)), .null, .null, .int 0, .int 0, .int 0, .int 0, .int 0]), .inr (5, [.long 1, .int 1, .long 4294967295, .int 8190, .int 127, .int 0, .int 0]), aI E 8, aZ E 8] rfl rfl ?_
  refine v_putFG cx hB rfl (tk_dc d_J_init 14 rfl) f_J_22 (tk_tb 164 (by decide +kernel)) (by omega) (Nat.le_of_ble_eq_true rfl) rfl rfl rfl rfl [.ref (E.1 + (i + 1)), .ref (E.1 + (i + 2)), .ref (E.1 + (i + 3)), .null, .int 0, .int 0, .int 0, .int 0, .int 0] rfl ?_
  refine v_aload_n cx (tk_dc d_J_init 15 rfl) rfl ?_
  refine v_iconst cx (tk_dc d_J_init 16 rfl) (0) (by decide) ?_
  refine v_putG cx (tk_dc d_J_init 17 rfl) f_J_26 (by omega) (Nat.le_of_ble_eq_true rfl) rfl (by first | rfl | decide +kernel) (by first | rfl | decide +kernel) [.ref (E.1 + (i + 1)), .ref (E.1 + (i + 2)), .ref (E.1 + (i + 3)), .null, .int 0, .int 0, .int 0, .int 0, .int 0] rfl ?_
  refine v_aload_n cx (tk_dc d_J_init 18 rfl) rfl ?_
  refine v_iconst cx (tk_dc d_J_init 19 rfl) (0) (by decide) ?_
  refine v_putG cx (tk_dc d_J_init 20 rfl) f_J_30 (by omega) (Nat.le_of_ble_eq_true rfl) rfl (by first | rfl | decide +kernel) (by first | rfl | decide +kernel) [.ref (E.1 + (i + 1)), .ref (E.1 + (i + 2)), .ref (E.1 + (i + 3)), .null, .int 0, .int 0, .int 0, .int 0, .int 0] rfl ?_
  refine v_aload_n cx (tk_dc d_J_init 21 rfl) rfl ?_
  refine v_iconst cx (tk_dc d_J_init 22 rfl) (0) (by decide) ?_
  refine v_putG cx (tk_dc d_J_init 23 rfl) f_J_34 (by omega) (Nat.le_of_ble_eq_true rfl) rfl (by first | rfl | decide +kernel) (by first | rfl | decide +kernel) [.ref (E.1 + (i + 1)), .ref (E.1 + (i + 2)), .ref (E.1 + (i + 3)), .null, .int 0, .int 0, .int 0, .int 0, .int 0] rfl ?_
  refine v_aload_n cx (tk_dc d_J_init 24 rfl) rfl ?_
  refine v_sipush cx (tk_dc d_J_init 25 rfl) (1440) (by decide) ?_
  refine v_putG cx (tk_dc d_J_init 26 rfl) f_J_37 (by omega) (Nat.le_of_ble_eq_true rfl) rfl (by first | rfl | decide +kernel) (by first | rfl | decide +kernel) [.ref (E.1 + (i + 1)), .ref (E.1 + (i + 2)), .ref (E.1 + (i + 3)), .null, .int 0, .int 0, .int 0, .int 1440, .int 0] rfl ?_
  refine v_aload_n cx (tk_dc d_J_init 27 rfl) rfl ?_
  refine v_iconst cx (tk_dc d_J_init 28 rfl) (0) (by decide) ?_
  refine v_putG cx (tk_dc d_J_init 29 rfl) f_J_40 (by omega) (Nat.le_of_ble_eq_true rfl) rfl (by first | rfl | decide +kernel) (by first | rfl | decide +kernel) [.ref (E.1 + (i + 1)), .ref (E.1 + (i + 2)), .ref (E.1 + (i + 3)), .null, .int 0, .int 0, .int 0, .int 1440, .int 0] rfl ?_
  refine v_aload_n cx (tk_dc d_J_init 30 rfl) rfl ?_
  refine v_aload_n cx (tk_dc d_J_init 31 rfl) rfl ?_
  refine v_putG cx (tk_dc d_J_init 32 rfl) f_J_43 (by omega) (Nat.le_of_ble_eq_true rfl) rfl (by first | rfl | decide +kernel) (by first | rfl | decide +kernel) [.ref (E.1 + (i + 1)), .ref (E.1 + (i + 2)), .ref (E.1 + (i + 3)), .ref (E.1 + z), .int 0, .int 0, .int 0, .int 1440, .int 0] rfl ?_
  exact v_vret1 cx hB (tk_dc d_J_init 33 rfl) (fun a _ => rfl) (by omega) (by omega)
