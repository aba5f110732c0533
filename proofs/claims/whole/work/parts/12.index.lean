/-! rows of arrays by natural places -/
theorem tk_cl0 {j : Nat} (h : j < 1000) : (nI j).toNatClampNeg = j := nI_clamp (by omega)
section TKI
variable {p : Program} {l : Launch} {e : Env} {R : Room} {s : State} {m : MethodId} {args : Array Value} {below : List Frame} {meth : Method} {c : Code} {Q : State → Prop} {E : tk_E} {nL n n0 : Nat} {C C' : Nat → va_E} {cells slots pc pc' : Nat} {lo lo' : List (Option Value)} {st : List Value} {cc : ByteArray} {own : String} {M M' : tk_M}
theorem w_iald (cx : tk_X p s m args c cc nL own E n0) {i N : Nat} {kd : Nat → Nat ⊕ Nat} {x : Int32} (d : tk_D cc pc .iaload 1 pc') (ho : tk_O i 10 N kd) (j : Nat) (hx : x = nI j) (hj : j < N) (hN : N < 1000) (kk : tk_V p l e R s m args below meth c Q E nL 209 (tk_ct E M) cells slots pc' lo (.int (M.1 i j) :: st)) : tk_V p l e R s m args below meth c Q E nL 209 (tk_ct E M) cells slots pc lo (.int x :: .ref (E.1 + i) :: st) := by
  subst hx
  refine v_iald cx d ho (vp_in_nI hj (by omega)) ?_
  rw [tk_cl0 (by omega)]
  exact kk
theorem w_zald (cx : tk_X p s m args c cc nL own E n0) {i N : Nat} {kd : Nat → Nat ⊕ Nat} {x : Int32} (d : tk_D cc pc .baload 1 pc') (ho : tk_O i 11 N kd) (j : Nat) (hx : x = nI j) (hj : j < N) (hN : N < 1000) (kk : tk_V p l e R s m args below meth c Q E nL 209 (tk_ct E M) cells slots pc' lo (.int (M.1 i j) :: st)) : tk_V p l e R s m args below meth c Q E nL 209 (tk_ct E M) cells slots pc lo (.int x :: .ref (E.1 + i) :: st) := by
  subst hx
  refine v_zald cx d ho (vp_in_nI hj (by omega)) ?_
  rw [tk_cl0 (by omega)]
  exact kk
theorem w_lald (cx : tk_X p s m args c cc nL own E n0) {i N : Nat} {kd : Nat → Nat ⊕ Nat} {x : Int32} (d : tk_D cc pc .laload 1 pc') (ho : tk_O i 12 N kd) (j : Nat) (hx : x = nI j) (hj : j < N) (hN : N < 1000) (kk : tk_V p l e R s m args below meth c Q E nL 209 (tk_ct E M) cells slots pc' lo (.long (M.2.1 i j) :: st)) : tk_V p l e R s m args below meth c Q E nL 209 (tk_ct E M) cells slots pc lo (.int x :: .ref (E.1 + i) :: st) := by
  subst hx
  refine v_lald cx d ho (vp_in_nI hj (by omega)) ?_
  rw [tk_cl0 (by omega)]
  exact kk
theorem w_aald (cx : tk_X p s m args c cc nL own E n0) {i ca N : Nat} {kd : Nat → Nat ⊕ Nat} {x : Int32} (q : Nat) (d : tk_D cc pc .aaload 1 pc') (ho : tk_O i ca N kd) (j : Nat) (hx : x = nI j) (hj : j < N) (hN : N < 1000 ∧ 13 ≤ ca ∧ ca < 19) (hq : tk_rn (kd j) (M.2.2 i j) = q) (kk : tk_V p l e R s m args below meth c Q E nL 209 (tk_ct E M) cells slots pc' lo (.ref (E.1 + q) :: st)) : tk_V p l e R s m args below meth c Q E nL 209 (tk_ct E M) cells slots pc lo (.int x :: .ref (E.1 + i) :: st) := by
  subst hx
  refine v_aald cx q d ho hN.2 (vp_in_nI hj (by omega)) ?_ kk
  rw [tk_cl0 (by omega)]
  exact hq
theorem w_iast (cx : tk_X p s m args c cc nL own E n0) {i N : Nat} {kd : Nat → Nat ⊕ Nat} {x y : Int32} (d : tk_D cc pc .iastore 1 pc') (ho : tk_O i 10 N kd) (j : Nat) (hx : x = nI j) (hj : j < N) (hN : N < 1000) (kk : tk_V p l e R s m args below meth c Q E nL 209 (tk_ct E (wI M i j y)) cells slots pc' lo st) : tk_V p l e R s m args below meth c Q E nL 209 (tk_ct E M) cells slots pc lo (.int y :: .int x :: .ref (E.1 + i) :: st) := by
  subst hx
  refine v_iast cx d ho (vp_in_nI hj (by omega)) ?_
  rw [tk_cl0 (by omega)]
  exact kk
theorem w_zast (cx : tk_X p s m args c cc nL own E n0) {i N : Nat} {kd : Nat → Nat ⊕ Nat} {x y : Int32} (d : tk_D cc pc .bastore 1 pc') (ho : tk_O i 11 N kd) (j : Nat) (hx : x = nI j) (hj : j < N) (hN : N < 1000) (hy : y = 0 ∨ y = 1) (kk : tk_V p l e R s m args below meth c Q E nL 209 (tk_ct E (wI M i j y)) cells slots pc' lo st) : tk_V p l e R s m args below meth c Q E nL 209 (tk_ct E M) cells slots pc lo (.int y :: .int x :: .ref (E.1 + i) :: st) := by
  subst hx
  refine v_zast cx d ho (vp_in_nI hj (by omega)) hy ?_
  rw [tk_cl0 (by omega)]
  exact kk
theorem w_last (cx : tk_X p s m args c cc nL own E n0) {i N : Nat} {kd : Nat → Nat ⊕ Nat} {x : Int32} {y : Int64} (d : tk_D cc pc .lastore 1 pc') (ho : tk_O i 12 N kd) (j : Nat) (hx : x = nI j) (hj : j < N) (hN : N < 1000) (kk : tk_V p l e R s m args below meth c Q E nL 209 (tk_ct E (wL M i j y)) cells slots pc' lo st) : tk_V p l e R s m args below meth c Q E nL 209 (tk_ct E M) cells slots pc lo (.long y :: .int x :: .ref (E.1 + i) :: st) := by
  subst hx
  refine v_last cx d ho (vp_in_nI hj (by omega)) ?_
  rw [tk_cl0 (by omega)]
  exact kk
theorem w_aast (cx : tk_X p s m args c cc nL own E n0) {x : Int32} {q : Nat} (d : tk_D cc pc .aastore 1 pc') (j : Nat) (hx : x = nI j) (hj : j < 60) (h8 : 8 ≤ q) (h70 : q < 70) (kk : tk_V p l e R s m args below meth c Q E nL 209 (tk_ct E (wR M 7 j q)) cells slots pc' lo st) : tk_V p l e R s m args below meth c Q E nL 209 (tk_ct E M) cells slots pc lo (.ref (E.1 + q) :: .int x :: .ref (E.1 + 7) :: st) := by
  subst hx
  refine v_aast cx d (vp_in_nI hj (by omega)) h8 h70 ?_
  rw [tk_cl0 (by omega)]
  exact kk
theorem w_tald (cx : tk_X p s m args c cc nL own E n0) {x : Int32} (d : tk_D cc pc .iaload 1 pc') (j : Nat) (hx : x = nI j) (hj : j < 49) (kk : tk_V p l e R s m args below meth c Q E nL n C cells slots pc' lo (.int (tk_st j) :: st)) : tk_V p l e R s m args below meth c Q E nL n C cells slots pc lo (.int x :: .ref E.2.2.2 :: st) := by
  subst hx
  refine v_tald cx d (vp_in_nI hj (by omega)) ?_
  rw [tk_cl0 (by omega)]
  exact kk
end TKI
/-- true as a number -/
def b01 (b : Bool) : Int32 := if b then 1 else 0
theorem b01_t : b01 true = 1 := rfl
theorem b01_f : b01 false = 0 := rfl
theorem b01_01 (b : Bool) : b01 b = 0 ∨ b01 b = 1 := by cases b <;> simp [b01]
