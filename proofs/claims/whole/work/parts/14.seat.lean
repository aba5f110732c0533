/-! seats, letters, journals, the post -/
theorem tk_neg {x : Int32} (h : x < 0) : x.toInt < 0 := Int32.lt_iff_toInt_lt.mp h
theorem tk_big {x : Int32} {n : Nat} (h : nI (n + 1) ≤ x) (hn : n + 1 < 2 ^ 31) : (n : Int) < x.toInt := by
  have h1 := Int32.le_iff_toInt_le.mp h
  rw [nI_toInt hn] at h1
  omega
theorem wI_at (M : tk_M) (i k : Nat) (v : Int32) : (wI M i k v).1 i k = v := by simp [wI]
theorem wI_ne {M : tk_M} {i k a b : Nat} {v : Int32} (h : ¬ (a = i ∧ b = k)) : (wI M i k v).1 a b = M.1 a b := by simp [wI, h]
theorem wI_nk {M : tk_M} {i k b : Nat} {v : Int32} (h : (b == k) = false) : (wI M i k v).1 i b = M.1 i b := by
  have h1 : ¬ b = k := by simpa using h
  simp [wI, h1]
theorem wI_L (M : tk_M) (i k : Nat) (v : Int32) : (wI M i k v).2.1 = M.2.1 := rfl
theorem wI_R (M : tk_M) (i k : Nat) (v : Int32) : (wI M i k v).2.2 = M.2.2 := rfl
theorem wR_I (M : tk_M) (i k q : Nat) : (wR M i k q).1 = M.1 := rfl
theorem wR_L (M : tk_M) (i k q : Nat) : (wR M i k q).2.1 = M.2.1 := rfl
theorem wR_at (M : tk_M) (i k q : Nat) : (wR M i k q).2.2 i k = q := by simp [wR]
theorem wR_ne {M : tk_M} {i k a b q : Nat} (h : ¬ (a = i ∧ b = k)) : (wR M i k q).2.2 a b = M.2.2 a b := by simp [wR, h]
def e_end (M : tk_M) (i : Nat) : tk_M := wI (wI (wI (wI M i 5 0) i 6 0) i 7 (-1)) i 8 0
def e_bal (p s : Int32) : Int32 := s + 1 + 3 * (if s < p then (p - s - 1) / 3 + 1 else 0)
def e_beg (M : tk_M) (i : Nat) (s : Int32) : tk_M := wI (wI (wI (e_end M i) i 6 (e_bal (M.1 i 0) s)) i 0 (e_bal (M.1 i 0) s)) i 5 1
def e_acc (M : tk_M) (i : Nat) (b m g : Int32) : tk_M := wI (wI (wI (wI M i 0 b) i 1 b) i 2 m) i 3 g
def e_clm (M : tk_M) (i : Nat) (m g : Int32) : tk_M := wI (wI (wI (e_acc M i (M.1 i 6) m g) i 5 2) i 7 m) i 8 g
def e_lrn (M : tk_M) (i : Nat) (x : Int32) : tk_M := if M.1 i 5 = 3 ∧ M.1 i 7 ≤ (if M.1 i 4 < x then x else M.1 i 4) then e_end (wI M i 4 (if M.1 i 4 < x then x else M.1 i 4)) i else wI M i 4 (if M.1 i 4 < x then x else M.1 i 4)
def t_tell (M : tk_M) (i : Nat) (x : Int32) : Int32 := if x < 0 then -1 else if nI 8 ≤ x then -1 else M.1 i x.toNatClampNeg
set_option maxHeartbeats 4000000 in
set_option maxRecDepth 100000 in
theorem c_E_endRound {l : Launch} {E : tk_E} {M : tk_M} {i : Nat} (ho : tk_O i 8 9 tk_k0) : tk_Mt l y_E_endRound b_E_endRound 1 none 0 E [.ref (E.1 + i)] M (e_end M i) none := by
  refine tk_ofV (by decide +kernel) [some (.ref (E.1 + i))] rfl (Nat.le_of_ble_eq_true rfl) ?_
  intro p e s m args below meth c cx hB
  refine v_aload_n cx (tk_dc d_E_endRound 0 rfl) rfl ?_
  refine v_iconst cx (tk_dc d_E_endRound 1 rfl) (0) (by decide) ?_
  refine v_putI cx (tk_dc d_E_endRound 2 rfl) f_E_27 (by first | assumption | exact o_E (by assumption) (by assumption)) (by decide) (by rfl) ⟨rfl, rfl⟩ ?_
  refine v_aload_n cx (tk_dc d_E_endRound 3 rfl) rfl ?_
  refine v_iconst cx (tk_dc d_E_endRound 4 rfl) (0) (by decide) ?_
  refine v_putI cx (tk_dc d_E_endRound 5 rfl) f_E_30 (by first | assumption | exact o_E (by assumption) (by assumption)) (by decide) (by rfl) ⟨rfl, rfl⟩ ?_
  refine v_aload_n cx (tk_dc d_E_endRound 6 rfl) rfl ?_
  refine v_iconst cx (tk_dc d_E_endRound 7 rfl) (-1) (by decide) ?_
  refine v_putI cx (tk_dc d_E_endRound 8 rfl) f_E_33 (by first | assumption | exact o_E (by assumption) (by assumption)) (by decide) (by rfl) ⟨rfl, rfl⟩ ?_
  refine v_aload_n cx (tk_dc d_E_endRound 9 rfl) rfl ?_
  refine v_iconst cx (tk_dc d_E_endRound 10 rfl) (0) (by decide) ?_
  refine v_putI cx (tk_dc d_E_endRound 11 rfl) f_E_36 (by first | assumption | exact o_E (by assumption) (by assumption)) (by decide) (by rfl) ⟨rfl, rfl⟩ ?_
  exact v_vret cx hB (tk_dc d_E_endRound 12 rfl) (rfl)

set_option maxHeartbeats 4000000 in
set_option maxRecDepth 100000 in
theorem c_E_beginRound {l : Launch} {E : tk_E} {M : tk_M} {i : Nat} {x : Int32} (ho : tk_O i 8 9 tk_k0) : tk_Mt l y_E_beginRound b_E_beginRound 3 none 1 E [.ref (E.1 + i), .int x] M (e_beg M i x) none := by
  refine tk_ofV (by decide +kernel) [some (.ref (E.1 + i)), some (.int x), none] rfl (Nat.le_of_ble_eq_true rfl) ?_
  intro p e s m args below meth c cx hB
  refine v_aload_n cx (tk_dc d_E_beginRound 0 rfl) rfl ?_
  refine v_callV (rest := _) cx (tk_dc d_E_beginRound 1 rfl) m_E_39 kn_E_endRound kv_E_endRound k_E_endRound (by first | assumption | exact o_E (by assumption) (by assumption)) (by decide) rfl (c_E_endRound ho) rfl rfl (Nat.le_of_ble_eq_true rfl) (by decide) ?_
  refine v_aload_n cx (tk_dc d_E_beginRound 2 rfl) rfl ?_
  refine v_getI cx (tk_dc d_E_beginRound 3 rfl) f_E_9 (by first | assumption | exact o_E (by assumption) (by assumption)) (by decide) (by rfl) ?_
  refine v_iload_n cx (tk_dc d_E_beginRound 4 rfl) rfl ?_
  refine v_icmp_le cx (tk_dc d_E_beginRound 5 rfl) 27 (by decide) (fun h9 => ?_) (fun h9 => ?_)
  · refine v_iconst cx (tk_dc d_E_beginRound 17 rfl) (0) (by decide) ?_
    refine v_istore_n (lo' := [_, _, _]) cx (tk_dc d_E_beginRound 18 rfl) (by decide) rfl ?_
    refine v_aload_n cx (tk_dc d_E_beginRound 19 rfl) rfl ?_
    refine v_iload_n cx (tk_dc d_E_beginRound 20 rfl) rfl ?_
    refine v_iconst cx (tk_dc d_E_beginRound 21 rfl) (1) (by decide) ?_
    refine v_iadd cx (tk_dc d_E_beginRound 22 rfl) ?_
    refine v_iconst cx (tk_dc d_E_beginRound 23 rfl) (3) (by decide) ?_
    refine v_iload_n cx (tk_dc d_E_beginRound 24 rfl) rfl ?_
    refine v_imul cx (tk_dc d_E_beginRound 25 rfl) ?_
    refine v_iadd cx (tk_dc d_E_beginRound 26 rfl) ?_
    refine v_putI cx (tk_dc d_E_beginRound 27 rfl) f_E_30 (by first | assumption | exact o_E (by assumption) (by assumption)) (by decide) (by rfl) ⟨rfl, rfl⟩ ?_
    refine v_aload_n cx (tk_dc d_E_beginRound 28 rfl) rfl ?_
    refine v_aload_n cx (tk_dc d_E_beginRound 29 rfl) rfl ?_
    refine v_getI cx (tk_dc d_E_beginRound 30 rfl) f_E_30 (by first | assumption | exact o_E (by assumption) (by assumption)) (by decide) (by rfl) ?_
    refine v_putI cx (tk_dc d_E_beginRound 31 rfl) f_E_9 (by first | assumption | exact o_E (by assumption) (by assumption)) (by decide) (by rfl) ⟨rfl, rfl⟩ ?_
    refine v_aload_n cx (tk_dc d_E_beginRound 32 rfl) rfl ?_
    refine v_iconst cx (tk_dc d_E_beginRound 33 rfl) (1) (by decide) ?_
    refine v_putI cx (tk_dc d_E_beginRound 34 rfl) f_E_27 (by first | assumption | exact o_E (by assumption) (by assumption)) (by decide) (by rfl) ⟨rfl, rfl⟩ ?_
    exact v_vret cx hB (tk_dc d_E_beginRound 35 rfl) (by (try simp only [e_end, wI_at, wI_nk, Nat.reduceBEq, Nat.reduceEqDiff] at h9); simp [e_beg, e_bal, e_end, wI_at, wI_nk, Nat.reduceBEq, Nat.reduceEqDiff, wI_ne, h9, Int32.not_lt.mpr h9])
  · refine v_aload_n cx (tk_dc d_E_beginRound 6 rfl) rfl ?_
    refine v_getI cx (tk_dc d_E_beginRound 7 rfl) f_E_9 (by first | assumption | exact o_E (by assumption) (by assumption)) (by decide) (by rfl) ?_
    refine v_iload_n cx (tk_dc d_E_beginRound 8 rfl) rfl ?_
    refine v_isub cx (tk_dc d_E_beginRound 9 rfl) ?_
    refine v_iconst cx (tk_dc d_E_beginRound 10 rfl) (1) (by decide) ?_
    refine v_isub cx (tk_dc d_E_beginRound 11 rfl) ?_
    refine v_iconst cx (tk_dc d_E_beginRound 12 rfl) (3) (by decide) ?_
    refine v_idiv cx (tk_dc d_E_beginRound 13 rfl) (by decide) ?_
    refine v_iconst cx (tk_dc d_E_beginRound 14 rfl) (1) (by decide) ?_
    refine v_iadd cx (tk_dc d_E_beginRound 15 rfl) ?_
    refine v_goto cx (tk_dc d_E_beginRound 16 rfl) 28 (by decide) ?_
    refine v_istore_n (lo' := [_, _, _]) cx (tk_dc d_E_beginRound 18 rfl) (by decide) rfl ?_
    refine v_aload_n cx (tk_dc d_E_beginRound 19 rfl) rfl ?_
    refine v_iload_n cx (tk_dc d_E_beginRound 20 rfl) rfl ?_
    refine v_iconst cx (tk_dc d_E_beginRound 21 rfl) (1) (by decide) ?_
    refine v_iadd cx (tk_dc d_E_beginRound 22 rfl) ?_
    refine v_iconst cx (tk_dc d_E_beginRound 23 rfl) (3) (by decide) ?_
    refine v_iload_n cx (tk_dc d_E_beginRound 24 rfl) rfl ?_
    refine v_imul cx (tk_dc d_E_beginRound 25 rfl) ?_
    refine v_iadd cx (tk_dc d_E_beginRound 26 rfl) ?_
    refine v_putI cx (tk_dc d_E_beginRound 27 rfl) f_E_30 (by first | assumption | exact o_E (by assumption) (by assumption)) (by decide) (by rfl) ⟨rfl, rfl⟩ ?_
    refine v_aload_n cx (tk_dc d_E_beginRound 28 rfl) rfl ?_
    refine v_aload_n cx (tk_dc d_E_beginRound 29 rfl) rfl ?_
    refine v_getI cx (tk_dc d_E_beginRound 30 rfl) f_E_30 (by first | assumption | exact o_E (by assumption) (by assumption)) (by decide) (by rfl) ?_
    refine v_putI cx (tk_dc d_E_beginRound 31 rfl) f_E_9 (by first | assumption | exact o_E (by assumption) (by assumption)) (by decide) (by rfl) ⟨rfl, rfl⟩ ?_
    refine v_aload_n cx (tk_dc d_E_beginRound 32 rfl) rfl ?_
    refine v_iconst cx (tk_dc d_E_beginRound 33 rfl) (1) (by decide) ?_
    refine v_putI cx (tk_dc d_E_beginRound 34 rfl) f_E_27 (by first | assumption | exact o_E (by assumption) (by assumption)) (by decide) (by rfl) ⟨rfl, rfl⟩ ?_
    exact v_vret cx hB (tk_dc d_E_beginRound 35 rfl) (by (try simp only [e_end, wI_at, wI_nk, Nat.reduceBEq, Nat.reduceEqDiff] at h9); simp [e_beg, e_bal, e_end, wI_at, wI_nk, Nat.reduceBEq, Nat.reduceEqDiff, wI_ne, h9, Int32.not_le.mp h9])

set_option maxHeartbeats 4000000 in
set_option maxRecDepth 100000 in
theorem c_E_isAt {l : Launch} {E : tk_E} {M : tk_M} {i : Nat} {x y : Int32} (ho : tk_O i 8 9 tk_k0) : tk_Mt l y_E_isAt b_E_isAt 3 (some .boolean) 0 E [.ref (E.1 + i), .int x, .int y] M M (some (.int (b01 (decide (M.1 i 5 = x ∧ M.1 i 6 = y))))) := by
  refine tk_ofV (by decide +kernel) [some (.ref (E.1 + i)), some (.int x), some (.int y)] rfl (Nat.le_of_ble_eq_true rfl) ?_
  intro p e s m args below meth c cx hB
  refine v_aload_n cx (tk_dc d_E_isAt 0 rfl) rfl ?_
  refine v_getI cx (tk_dc d_E_isAt 1 rfl) f_E_27 (by first | assumption | exact o_E (by assumption) (by assumption)) (by decide) (by rfl) ?_
  refine v_iload_n cx (tk_dc d_E_isAt 2 rfl) rfl ?_
  refine v_icmp_ne cx (tk_dc d_E_isAt 3 rfl) 20 (by decide) (fun h5 => ?_) (fun h5 => ?_)
  · refine v_iconst cx (tk_dc d_E_isAt 10 rfl) (0) (by decide) ?_
    exact v_zret cx hB (tk_dc d_E_isAt 11 rfl) (by first | exact Or.inl rfl | exact Or.inr rfl | exact b01_01 _ | assumption) (by simp [b01, h5]) (rfl)
  · refine v_aload_n cx (tk_dc d_E_isAt 4 rfl) rfl ?_
    refine v_getI cx (tk_dc d_E_isAt 5 rfl) f_E_30 (by first | assumption | exact o_E (by assumption) (by assumption)) (by decide) (by rfl) ?_
    refine v_iload_n cx (tk_dc d_E_isAt 6 rfl) rfl ?_
    refine v_icmp_ne cx (tk_dc d_E_isAt 7 rfl) 20 (by decide) (fun h13 => ?_) (fun h13 => ?_)
    · refine v_iconst cx (tk_dc d_E_isAt 10 rfl) (0) (by decide) ?_
      exact v_zret cx hB (tk_dc d_E_isAt 11 rfl) (by first | exact Or.inl rfl | exact Or.inr rfl | exact b01_01 _ | assumption) (by simp [b01, h5, h13]) (rfl)
    · refine v_iconst cx (tk_dc d_E_isAt 8 rfl) (1) (by decide) ?_
      refine v_goto cx (tk_dc d_E_isAt 9 rfl) 21 (by decide) ?_
      exact v_zret cx hB (tk_dc d_E_isAt 11 rfl) (by first | exact Or.inl rfl | exact Or.inr rfl | exact b01_01 _ | assumption) (by simp [b01, h5, h13]) (rfl)

set_option maxHeartbeats 4000000 in
set_option maxRecDepth 100000 in
theorem c_E_accept {l : Launch} {E : tk_E} {M : tk_M} {i : Nat} {x y z : Int32} (ho : tk_O i 8 9 tk_k0) : tk_Mt l y_E_accept b_E_accept 4 none 0 E [.ref (E.1 + i), .int x, .int y, .int z] M (e_acc M i x y z) none := by
  refine tk_ofV (by decide +kernel) [some (.ref (E.1 + i)), some (.int x), some (.int y), some (.int z)] rfl (Nat.le_of_ble_eq_true rfl) ?_
  intro p e s m args below meth c cx hB
  refine v_aload_n cx (tk_dc d_E_accept 0 rfl) rfl ?_
  refine v_iload_n cx (tk_dc d_E_accept 1 rfl) rfl ?_
  refine v_putI cx (tk_dc d_E_accept 2 rfl) f_E_9 (by first | assumption | exact o_E (by assumption) (by assumption)) (by decide) (by rfl) ⟨rfl, rfl⟩ ?_
  refine v_aload_n cx (tk_dc d_E_accept 3 rfl) rfl ?_
  refine v_iload_n cx (tk_dc d_E_accept 4 rfl) rfl ?_
  refine v_putI cx (tk_dc d_E_accept 5 rfl) f_E_15 (by first | assumption | exact o_E (by assumption) (by assumption)) (by decide) (by rfl) ⟨rfl, rfl⟩ ?_
  refine v_aload_n cx (tk_dc d_E_accept 6 rfl) rfl ?_
  refine v_iload_n cx (tk_dc d_E_accept 7 rfl) rfl ?_
  refine v_putI cx (tk_dc d_E_accept 8 rfl) f_E_18 (by first | assumption | exact o_E (by assumption) (by assumption)) (by decide) (by rfl) ⟨rfl, rfl⟩ ?_
  refine v_aload_n cx (tk_dc d_E_accept 9 rfl) rfl ?_
  refine v_iload_n cx (tk_dc d_E_accept 10 rfl) rfl ?_
  refine v_putI cx (tk_dc d_E_accept 11 rfl) f_E_21 (by first | assumption | exact o_E (by assumption) (by assumption)) (by decide) (by rfl) ⟨rfl, rfl⟩ ?_
  exact v_vret cx hB (tk_dc d_E_accept 12 rfl) (rfl)

set_option maxHeartbeats 4000000 in
set_option maxRecDepth 100000 in
theorem c_E_claim {l : Launch} {E : tk_E} {M : tk_M} {i : Nat} {x y : Int32} (ho : tk_O i 8 9 tk_k0) : tk_Mt l y_E_claim b_E_claim 3 none 1 E [.ref (E.1 + i), .int x, .int y] M (e_clm M i x y) none := by
  refine tk_ofV (by decide +kernel) [some (.ref (E.1 + i)), some (.int x), some (.int y)] rfl (Nat.le_of_ble_eq_true rfl) ?_
  intro p e s m args below meth c cx hB
  refine v_aload_n cx (tk_dc d_E_claim 0 rfl) rfl ?_
  refine v_aload_n cx (tk_dc d_E_claim 1 rfl) rfl ?_
  refine v_getI cx (tk_dc d_E_claim 2 rfl) f_E_30 (by first | assumption | exact o_E (by assumption) (by assumption)) (by decide) (by rfl) ?_
  refine v_iload_n cx (tk_dc d_E_claim 3 rfl) rfl ?_
  refine v_iload_n cx (tk_dc d_E_claim 4 rfl) rfl ?_
  refine v_callV (rest := _) cx (tk_dc d_E_claim 5 rfl) m_E_42 kn_E_accept kv_E_accept k_E_accept (by first | assumption | exact o_E (by assumption) (by assumption)) (by decide) rfl (c_E_accept ho) rfl rfl (Nat.le_of_ble_eq_true rfl) (by decide) ?_
  refine v_aload_n cx (tk_dc d_E_claim 6 rfl) rfl ?_
  refine v_iconst cx (tk_dc d_E_claim 7 rfl) (2) (by decide) ?_
  refine v_putI cx (tk_dc d_E_claim 8 rfl) f_E_27 (by first | assumption | exact o_E (by assumption) (by assumption)) (by decide) (by rfl) ⟨rfl, rfl⟩ ?_
  refine v_aload_n cx (tk_dc d_E_claim 9 rfl) rfl ?_
  refine v_iload_n cx (tk_dc d_E_claim 10 rfl) rfl ?_
  refine v_putI cx (tk_dc d_E_claim 11 rfl) f_E_33 (by first | assumption | exact o_E (by assumption) (by assumption)) (by decide) (by rfl) ⟨rfl, rfl⟩ ?_
  refine v_aload_n cx (tk_dc d_E_claim 12 rfl) rfl ?_
  refine v_iload_n cx (tk_dc d_E_claim 13 rfl) rfl ?_
  refine v_putI cx (tk_dc d_E_claim 14 rfl) f_E_36 (by first | assumption | exact o_E (by assumption) (by assumption)) (by decide) (by rfl) ⟨rfl, rfl⟩ ?_
  exact v_vret cx hB (tk_dc d_E_claim 15 rfl) (rfl)

set_option maxHeartbeats 4000000 in
set_option maxRecDepth 100000 in
theorem c_E_learn {l : Launch} {E : tk_E} {M : tk_M} {i : Nat} {x : Int32} (ho : tk_O i 8 9 tk_k0) : tk_Mt l y_E_learn b_E_learn 2 none 1 E [.ref (E.1 + i), .int x] M (e_lrn M i x) none := by
  refine tk_ofV (by decide +kernel) [some (.ref (E.1 + i)), some (.int x)] rfl (Nat.le_of_ble_eq_true rfl) ?_
  intro p e s m args below meth c cx hB
  refine v_aload_n cx (tk_dc d_E_learn 0 rfl) rfl ?_
  refine v_aload_n cx (tk_dc d_E_learn 1 rfl) rfl ?_
  refine v_getI cx (tk_dc d_E_learn 2 rfl) f_E_24 (by first | assumption | exact o_E (by assumption) (by assumption)) (by decide) (by rfl) ?_
  refine v_iload_n cx (tk_dc d_E_learn 3 rfl) rfl ?_
  refine v_callS (rest := _) cx (tk_dc d_E_learn 4 rfl) m_E_46 ks_Q_max k_Q_max (c_Q_max) rfl rfl (Nat.le_of_ble_eq_true rfl) (by decide) ?_
  refine v_putI cx (tk_dc d_E_learn 5 rfl) f_E_24 (by first | assumption | exact o_E (by assumption) (by assumption)) (by decide) (by rfl) ⟨rfl, rfl⟩ ?_
  refine v_aload_n cx (tk_dc d_E_learn 6 rfl) rfl ?_
  refine v_getI cx (tk_dc d_E_learn 7 rfl) f_E_27 (by first | assumption | exact o_E (by assumption) (by assumption)) (by decide) (by rfl) ?_
  refine v_iconst cx (tk_dc d_E_learn 8 rfl) (3) (by decide) ?_
  refine v_icmp_ne cx (tk_dc d_E_learn 9 rfl) 35 (by decide) (fun h17 => ?_) (fun h17 => ?_)
  · exact v_vret cx hB (tk_dc d_E_learn 17 rfl) (by (try simp only [wI_at, wI_nk, Nat.reduceBEq, Nat.reduceEqDiff] at h17); simp [e_lrn, wI_at, wI_nk, Nat.reduceBEq, Nat.reduceEqDiff, wI_ne, h17])
  · refine v_aload_n cx (tk_dc d_E_learn 10 rfl) rfl ?_
    refine v_getI cx (tk_dc d_E_learn 11 rfl) f_E_33 (by first | assumption | exact o_E (by assumption) (by assumption)) (by decide) (by rfl) ?_
    refine v_aload_n cx (tk_dc d_E_learn 12 rfl) rfl ?_
    refine v_getI cx (tk_dc d_E_learn 13 rfl) f_E_24 (by first | assumption | exact o_E (by assumption) (by assumption)) (by decide) (by rfl) ?_
    refine v_icmp_gt cx (tk_dc d_E_learn 14 rfl) 35 (by decide) (fun h28 => ?_) (fun h28 => ?_)
    · exact v_vret cx hB (tk_dc d_E_learn 17 rfl) (by (try simp only [wI_at, wI_nk, Nat.reduceBEq, Nat.reduceEqDiff] at h17 h28); simp [e_lrn, wI_at, wI_nk, Nat.reduceBEq, Nat.reduceEqDiff, wI_ne, h17, h28, Int32.not_le.mpr h28])
    · refine v_aload_n cx (tk_dc d_E_learn 15 rfl) rfl ?_
      refine v_callV (rest := _) cx (tk_dc d_E_learn 16 rfl) m_E_39 kn_E_endRound kv_E_endRound k_E_endRound (by first | assumption | exact o_E (by assumption) (by assumption)) (by decide) rfl (c_E_endRound ho) rfl rfl (Nat.le_of_ble_eq_true rfl) (by decide) ?_
      exact v_vret cx hB (tk_dc d_E_learn 17 rfl) (by (try simp only [wI_at, wI_nk, Nat.reduceBEq, Nat.reduceEqDiff] at h17 h28); simp [e_lrn, wI_at, wI_nk, Nat.reduceBEq, Nat.reduceEqDiff, wI_ne, h17, h28, Int32.not_lt.mp h28])

set_option maxHeartbeats 4000000 in
set_option maxRecDepth 100000 in
theorem c_E_tell {l : Launch} {E : tk_E} {M : tk_M} {i : Nat} {x : Int32} (ho : tk_O i 8 9 tk_k0) : tk_Mt l y_E_tell b_E_tell 2 (some .int) 0 E [.ref (E.1 + i), .int x] M M (some (.int (t_tell M i x))) := by
  refine tk_ofV (by decide +kernel) [some (.ref (E.1 + i)), some (.int x)] rfl (Nat.le_of_ble_eq_true rfl) ?_
  intro p e s m args below meth c cx hB
  refine v_iload_n cx (tk_dc d_E_tell 0 rfl) rfl ?_
  rcases pk_ix x (n := 8) (by decide) with hsw | hsw | ⟨jsw, hj, hsw⟩
  · refine v_tout cx (tk_dc d_E_tell 1 rfl) 88 (Or.inl (tk_neg hsw)) (by decide) ?_
    refine v_iconst cx (tk_dc d_E_tell 26 rfl) (-1) (by decide) ?_
    exact v_iret cx hB (tk_dc d_E_tell 27 rfl) (by first | rfl | (simp [t_tell, hsw]) | (unfold t_tell; split <;> rfl)) (rfl)
  · refine v_tout cx (tk_dc d_E_tell 1 rfl) 88 (Or.inr (tk_big hsw (by decide))) (by decide) ?_
    refine v_iconst cx (tk_dc d_E_tell 26 rfl) (-1) (by decide) ?_
    exact v_iret cx hB (tk_dc d_E_tell 27 rfl) (by first | rfl | (simp [t_tell, hsw]) | (unfold t_tell; split <;> rfl)) (rfl)
  · rcases (show jsw = 0 ∨ jsw = 1 ∨ jsw = 2 ∨ jsw = 3 ∨ jsw = 4 ∨ jsw = 5 ∨ jsw = 6 ∨ jsw = 7 by omega) with rfl | rfl | rfl | rfl | rfl | rfl | rfl | rfl <;> subst hsw
    · refine v_tin cx (tk_dc d_E_tell 1 rfl) 48 (by decide) (by decide) rfl (by decide) ?_
      refine v_aload_n cx (tk_dc d_E_tell 2 rfl) rfl ?_
      refine v_getI cx (tk_dc d_E_tell 3 rfl) f_E_9 (by first | assumption | exact o_E (by assumption) (by assumption)) (by decide) (by rfl) ?_
      exact v_iret cx hB (tk_dc d_E_tell 4 rfl) (by first | rfl | (simp [t_tell, ]) | (unfold t_tell; split <;> rfl)) (rfl)
    · refine v_tin cx (tk_dc d_E_tell 1 rfl) 53 (by decide) (by decide) rfl (by decide) ?_
      refine v_aload_n cx (tk_dc d_E_tell 5 rfl) rfl ?_
      refine v_getI cx (tk_dc d_E_tell 6 rfl) f_E_15 (by first | assumption | exact o_E (by assumption) (by assumption)) (by decide) (by rfl) ?_
      exact v_iret cx hB (tk_dc d_E_tell 7 rfl) (by first | rfl | (simp [t_tell, ]) | (unfold t_tell; split <;> rfl)) (rfl)
    · refine v_tin cx (tk_dc d_E_tell 1 rfl) 58 (by decide) (by decide) rfl (by decide) ?_
      refine v_aload_n cx (tk_dc d_E_tell 8 rfl) rfl ?_
      refine v_getI cx (tk_dc d_E_tell 9 rfl) f_E_18 (by first | assumption | exact o_E (by assumption) (by assumption)) (by decide) (by rfl) ?_
      exact v_iret cx hB (tk_dc d_E_tell 10 rfl) (by first | rfl | (simp [t_tell, ]) | (unfold t_tell; split <;> rfl)) (rfl)
    · refine v_tin cx (tk_dc d_E_tell 1 rfl) 63 (by decide) (by decide) rfl (by decide) ?_
      refine v_aload_n cx (tk_dc d_E_tell 11 rfl) rfl ?_
      refine v_getI cx (tk_dc d_E_tell 12 rfl) f_E_21 (by first | assumption | exact o_E (by assumption) (by assumption)) (by decide) (by rfl) ?_
      exact v_iret cx hB (tk_dc d_E_tell 13 rfl) (by first | rfl | (simp [t_tell, ]) | (unfold t_tell; split <;> rfl)) (rfl)
    · refine v_tin cx (tk_dc d_E_tell 1 rfl) 68 (by decide) (by decide) rfl (by decide) ?_
      refine v_aload_n cx (tk_dc d_E_tell 14 rfl) rfl ?_
      refine v_getI cx (tk_dc d_E_tell 15 rfl) f_E_24 (by first | assumption | exact o_E (by assumption) (by assumption)) (by decide) (by rfl) ?_
      exact v_iret cx hB (tk_dc d_E_tell 16 rfl) (by first | rfl | (simp [t_tell, ]) | (unfold t_tell; split <;> rfl)) (rfl)
    · refine v_tin cx (tk_dc d_E_tell 1 rfl) 73 (by decide) (by decide) rfl (by decide) ?_
      refine v_aload_n cx (tk_dc d_E_tell 17 rfl) rfl ?_
      refine v_getI cx (tk_dc d_E_tell 18 rfl) f_E_27 (by first | assumption | exact o_E (by assumption) (by assumption)) (by decide) (by rfl) ?_
      exact v_iret cx hB (tk_dc d_E_tell 19 rfl) (by first | rfl | (simp [t_tell, ]) | (unfold t_tell; split <;> rfl)) (rfl)
    · refine v_tin cx (tk_dc d_E_tell 1 rfl) 78 (by decide) (by decide) rfl (by decide) ?_
      refine v_aload_n cx (tk_dc d_E_tell 20 rfl) rfl ?_
      refine v_getI cx (tk_dc d_E_tell 21 rfl) f_E_30 (by first | assumption | exact o_E (by assumption) (by assumption)) (by decide) (by rfl) ?_
      exact v_iret cx hB (tk_dc d_E_tell 22 rfl) (by first | rfl | (simp [t_tell, ]) | (unfold t_tell; split <;> rfl)) (rfl)
    · refine v_tin cx (tk_dc d_E_tell 1 rfl) 83 (by decide) (by decide) rfl (by decide) ?_
      refine v_aload_n cx (tk_dc d_E_tell 23 rfl) rfl ?_
      refine v_getI cx (tk_dc d_E_tell 24 rfl) f_E_33 (by first | assumption | exact o_E (by assumption) (by assumption)) (by decide) (by rfl) ?_
      exact v_iret cx hB (tk_dc d_E_tell 25 rfl) (by first | rfl | (simp [t_tell, ]) | (unfold t_tell; split <;> rfl)) (rfl)

set_option maxHeartbeats 4000000 in
set_option maxRecDepth 100000 in
theorem c_L_tell {l : Launch} {E : tk_E} {M : tk_M} {i : Nat} {x : Int32} (ho : tk_O i 2 8 tk_k0) : tk_Mt l y_L_tell b_L_tell 2 (some .int) 0 E [.ref (E.1 + i), .int x] M M (some (.int (t_tell M i x))) := by
  refine tk_ofV (by decide +kernel) [some (.ref (E.1 + i)), some (.int x)] rfl (Nat.le_of_ble_eq_true rfl) ?_
  intro p e s m args below meth c cx hB
  refine v_iload_n cx (tk_dc d_L_tell 0 rfl) rfl ?_
  rcases pk_ix x (n := 8) (by decide) with hsw | hsw | ⟨jsw, hj, hsw⟩
  · refine v_tout cx (tk_dc d_L_tell 1 rfl) 88 (Or.inl (tk_neg hsw)) (by decide) ?_
    refine v_iconst cx (tk_dc d_L_tell 26 rfl) (-1) (by decide) ?_
    exact v_iret cx hB (tk_dc d_L_tell 27 rfl) (by first | rfl | (simp [t_tell, hsw]) | (unfold t_tell; split <;> rfl)) (rfl)
  · refine v_tout cx (tk_dc d_L_tell 1 rfl) 88 (Or.inr (tk_big hsw (by decide))) (by decide) ?_
    refine v_iconst cx (tk_dc d_L_tell 26 rfl) (-1) (by decide) ?_
    exact v_iret cx hB (tk_dc d_L_tell 27 rfl) (by first | rfl | (simp [t_tell, hsw]) | (unfold t_tell; split <;> rfl)) (rfl)
  · rcases (show jsw = 0 ∨ jsw = 1 ∨ jsw = 2 ∨ jsw = 3 ∨ jsw = 4 ∨ jsw = 5 ∨ jsw = 6 ∨ jsw = 7 by omega) with rfl | rfl | rfl | rfl | rfl | rfl | rfl | rfl <;> subst hsw
    · refine v_tin cx (tk_dc d_L_tell 1 rfl) 48 (by decide) (by decide) rfl (by decide) ?_
      refine v_aload_n cx (tk_dc d_L_tell 2 rfl) rfl ?_
      refine v_getI cx (tk_dc d_L_tell 3 rfl) f_L_9 ho (by decide) (by rfl) ?_
      exact v_iret cx hB (tk_dc d_L_tell 4 rfl) (by first | rfl | (simp [t_tell, ]) | (unfold t_tell; split <;> rfl)) (rfl)
    · refine v_tin cx (tk_dc d_L_tell 1 rfl) 53 (by decide) (by decide) rfl (by decide) ?_
      refine v_aload_n cx (tk_dc d_L_tell 5 rfl) rfl ?_
      refine v_getI cx (tk_dc d_L_tell 6 rfl) f_L_15 ho (by decide) (by rfl) ?_
      exact v_iret cx hB (tk_dc d_L_tell 7 rfl) (by first | rfl | (simp [t_tell, ]) | (unfold t_tell; split <;> rfl)) (rfl)
    · refine v_tin cx (tk_dc d_L_tell 1 rfl) 58 (by decide) (by decide) rfl (by decide) ?_
      refine v_aload_n cx (tk_dc d_L_tell 8 rfl) rfl ?_
      refine v_getI cx (tk_dc d_L_tell 9 rfl) f_L_18 ho (by decide) (by rfl) ?_
      exact v_iret cx hB (tk_dc d_L_tell 10 rfl) (by first | rfl | (simp [t_tell, ]) | (unfold t_tell; split <;> rfl)) (rfl)
    · refine v_tin cx (tk_dc d_L_tell 1 rfl) 63 (by decide) (by decide) rfl (by decide) ?_
      refine v_aload_n cx (tk_dc d_L_tell 11 rfl) rfl ?_
      refine v_getI cx (tk_dc d_L_tell 12 rfl) f_L_21 ho (by decide) (by rfl) ?_
      exact v_iret cx hB (tk_dc d_L_tell 13 rfl) (by first | rfl | (simp [t_tell, ]) | (unfold t_tell; split <;> rfl)) (rfl)
    · refine v_tin cx (tk_dc d_L_tell 1 rfl) 68 (by decide) (by decide) rfl (by decide) ?_
      refine v_aload_n cx (tk_dc d_L_tell 14 rfl) rfl ?_
      refine v_getI cx (tk_dc d_L_tell 15 rfl) f_L_24 ho (by decide) (by rfl) ?_
      exact v_iret cx hB (tk_dc d_L_tell 16 rfl) (by first | rfl | (simp [t_tell, ]) | (unfold t_tell; split <;> rfl)) (rfl)
    · refine v_tin cx (tk_dc d_L_tell 1 rfl) 73 (by decide) (by decide) rfl (by decide) ?_
      refine v_aload_n cx (tk_dc d_L_tell 17 rfl) rfl ?_
      refine v_getI cx (tk_dc d_L_tell 18 rfl) f_L_27 ho (by decide) (by rfl) ?_
      exact v_iret cx hB (tk_dc d_L_tell 19 rfl) (by first | rfl | (simp [t_tell, ]) | (unfold t_tell; split <;> rfl)) (rfl)
    · refine v_tin cx (tk_dc d_L_tell 1 rfl) 78 (by decide) (by decide) rfl (by decide) ?_
      refine v_aload_n cx (tk_dc d_L_tell 20 rfl) rfl ?_
      refine v_getI cx (tk_dc d_L_tell 21 rfl) f_L_30 ho (by decide) (by rfl) ?_
      exact v_iret cx hB (tk_dc d_L_tell 22 rfl) (by first | rfl | (simp [t_tell, ]) | (unfold t_tell; split <;> rfl)) (rfl)
    · refine v_tin cx (tk_dc d_L_tell 1 rfl) 83 (by decide) (by decide) rfl (by decide) ?_
      refine v_aload_n cx (tk_dc d_L_tell 23 rfl) rfl ?_
      refine v_getI cx (tk_dc d_L_tell 24 rfl) f_L_33 ho (by decide) (by rfl) ?_
      exact v_iret cx hB (tk_dc d_L_tell 25 rfl) (by first | rfl | (simp [t_tell, ]) | (unfold t_tell; split <;> rfl)) (rfl)

set_option maxHeartbeats 4000000 in
set_option maxRecDepth 100000 in
theorem c_P_holds {l : Launch} {E : tk_E} {M : tk_M} {x : Int32}  : tk_Mt l y_P_holds b_P_holds 2 (some .boolean) 0 E [.ref (E.1 + 6), .int x] M M (some (.int (b01 (decide (¬ x < 0 ∧ x < M.1 6 3))))) := by
  refine tk_ofV (by decide +kernel) [some (.ref (E.1 + 6)), some (.int x)] rfl (Nat.le_of_ble_eq_true rfl) ?_
  intro p e s m args below meth c cx hB
  refine v_iload_n cx (tk_dc d_P_holds 0 rfl) rfl ?_
  refine v_if_lt cx (tk_dc d_P_holds 1 rfl) 16 (by decide) (fun h1 => ?_) (fun h1 => ?_)
  · refine v_iconst cx (tk_dc d_P_holds 8 rfl) (0) (by decide) ?_
    exact v_zret cx hB (tk_dc d_P_holds 9 rfl) (by first | exact Or.inl rfl | exact Or.inr rfl | exact b01_01 _ | assumption) (by simp [b01, h1, Int32.not_le.mpr h1]) (rfl)
  · refine v_iload_n cx (tk_dc d_P_holds 2 rfl) rfl ?_
    refine v_aload_n cx (tk_dc d_P_holds 3 rfl) rfl ?_
    refine v_getI cx (tk_dc d_P_holds 4 rfl) f_P_25 o_P (by decide) (by rfl) ?_
    refine v_icmp_ge cx (tk_dc d_P_holds 5 rfl) 16 (by decide) (fun h9 => ?_) (fun h9 => ?_)
    · refine v_iconst cx (tk_dc d_P_holds 8 rfl) (0) (by decide) ?_
      exact v_zret cx hB (tk_dc d_P_holds 9 rfl) (by first | exact Or.inl rfl | exact Or.inr rfl | exact b01_01 _ | assumption) (by simp [b01, h1, Int32.not_lt.mp h1, h9, Int32.not_lt.mpr h9]) (rfl)
    · refine v_iconst cx (tk_dc d_P_holds 6 rfl) (1) (by decide) ?_
      refine v_goto cx (tk_dc d_P_holds 7 rfl) 17 (by decide) ?_
      exact v_zret cx hB (tk_dc d_P_holds 9 rfl) (by first | exact Or.inl rfl | exact Or.inr rfl | exact b01_01 _ | assumption) (by simp [b01, h1, Int32.not_lt.mp h1, h9, Int32.not_le.mp h9]) (rfl)

theorem n_pos {M : tk_M} {i k : Nat} (hc : M.1 i 2 = nI k) (h : ¬ M.1 i 2 ≤ 0) : 0 < k := by
  rcases Nat.eq_zero_or_pos k with h0 | h0
  · exact absurd (by rw [hc, h0]; decide) h
  · exact h0
def n_last (M : tk_M) (i : Nat) : Int32 := if M.1 i 2 ≤ 0 then -1 else M.1 (i + 1) ((M.1 i 2).toNatClampNeg - 1)
def n_ent (M : tk_M) (i : Nat) (x g : Int32) : tk_M :=
  let M1 := wI M i 3 (if M.1 i 3 < g then g else M.1 i 3)
  if M.1 i 3 < g ∧ n_last M i < x ∧ M.1 i 2 < 40 then wI (wI (wI M1 (i + 1) (M.1 i 2).toNatClampNeg x) (i + 2) (M.1 i 2).toNatClampNeg g) i 2 (M.1 i 2 + 1) else M1
theorem nI_sub1 {k : Nat} (h : 0 < k) : nI k - 1 = nI (k - 1) := by
  obtain ⟨j, rfl⟩ : ∃ j, k = j + 1 := ⟨k - 1, by omega⟩
  exact nI_pred j
theorem n_lt40 {k : Nat} (hk : k ≤ 40) (h : nI k < 40) : k < 40 := by
  rcases Nat.lt_or_ge k 40 with h1 | h1
  · exact h1
  · have : k = 40 := by omega
    subst this
    exact absurd h (by decide)
theorem n_lw {M : tk_M} {i : Nat} {v : Int32} : n_last (wI M i 3 v) i = n_last M i := by
  unfold n_last
  rw [wI_nk (by decide), wI_ne (by omega)]
set_option maxHeartbeats 4000000 in
set_option maxRecDepth 100000 in
theorem c_N_lastMoment {l : Launch} {E : tk_E} {M : tk_M} {j k : Nat} (hj : j < 8) (hk : k ≤ 40) (hc : M.1 (jN j + 4) 2 = nI k) : tk_Mt l y_N_lastMoment b_N_lastMoment 1 (some .int) 0 E [.ref (E.1 + (jN j + 4))] M M (some (.int (n_last M (jN j + 4)))) := by
  refine tk_ofV (by decide +kernel) [some (.ref (E.1 + (jN j + 4)))] rfl (Nat.le_of_ble_eq_true rfl) ?_
  intro p e s m args below meth c cx hB
  refine v_aload_n cx (tk_dc d_N_lastMoment 0 rfl) rfl ?_
  refine v_getI cx (tk_dc d_N_lastMoment 1 rfl) f_N_18 (o_J4 (by assumption)) (by decide) (by rfl) ?_
  refine v_if_le cx (tk_dc d_N_lastMoment 2 rfl) 21 (by decide) (fun h4 => ?_) (fun h4 => ?_)
  · refine v_iconst cx (tk_dc d_N_lastMoment 11 rfl) (-1) (by decide) ?_
    exact v_iret cx hB (tk_dc d_N_lastMoment 12 rfl) (by simp [n_last, h4, Int32.not_lt.mpr h4]; try simp [hc, tk_cl0 (show k < 1000 by omega)]) (rfl)
  · refine v_aload_n cx (tk_dc d_N_lastMoment 3 rfl) rfl ?_
    refine v_getC cx (jN _ + 4 + 1) (tk_dc d_N_lastMoment 4 rfl) f_N_9 (o_J4 (by assumption)) (by decide) (by rfl) ?_
    refine v_aload_n cx (tk_dc d_N_lastMoment 5 rfl) rfl ?_
    refine v_getI cx (tk_dc d_N_lastMoment 6 rfl) f_N_18 (o_J4 (by assumption)) (by decide) (by rfl) ?_
    refine v_iconst cx (tk_dc d_N_lastMoment 7 rfl) (1) (by decide) ?_
    refine v_isub cx (tk_dc d_N_lastMoment 8 rfl) ?_
    refine w_iald cx (tk_dc d_N_lastMoment 9 rfl) (o_J5 hj) (k - 1) (by rw [hc]; exact nI_sub1 (n_pos hc h4)) (by omega) (by decide) ?_
    refine v_goto cx (tk_dc d_N_lastMoment 10 rfl) 22 (by decide) ?_
    exact v_iret cx hB (tk_dc d_N_lastMoment 12 rfl) (by simp [n_last, h4, Int32.not_le.mp h4]; try simp [hc, tk_cl0 (show k < 1000 by omega)]) (rfl)

set_option maxHeartbeats 4000000 in
set_option maxRecDepth 100000 in
theorem c_N_enter {l : Launch} {E : tk_E} {M : tk_M} {j k : Nat} {x g : Int32} (hj : j < 8) (hk : k ≤ 40) (hc : M.1 (jN j + 4) 2 = nI k) : tk_Mt l y_N_enter b_N_enter 4 none 1 E [.ref (E.1 + (jN j + 4)), .int x, .int g] M (n_ent M (jN j + 4) x g) none := by
  refine tk_ofV (by decide +kernel) [some (.ref (E.1 + (jN j + 4))), some (.int x), some (.int g), none] rfl (Nat.le_of_ble_eq_true rfl) ?_
  intro p e s m args below meth c cx hB
  refine v_iload_n cx (tk_dc d_N_enter 0 rfl) rfl ?_
  refine v_aload_n cx (tk_dc d_N_enter 1 rfl) rfl ?_
  refine v_getI cx (tk_dc d_N_enter 2 rfl) f_N_22 (o_J4 (by assumption)) (by decide) (by rfl) ?_
  refine v_icmp_le cx (tk_dc d_N_enter 3 rfl) 12 (by decide) (fun h5 => ?_) (fun h5 => ?_)
  · refine v_iconst cx (tk_dc d_N_enter 6 rfl) (0) (by decide) ?_
    refine v_istore_n (lo' := [_, _, _, _]) cx (tk_dc d_N_enter 7 rfl) (by decide) rfl ?_
    refine v_aload_n cx (tk_dc d_N_enter 8 rfl) rfl ?_
    refine v_aload_n cx (tk_dc d_N_enter 9 rfl) rfl ?_
    refine v_getI cx (tk_dc d_N_enter 10 rfl) f_N_22 (o_J4 (by assumption)) (by decide) (by rfl) ?_
    refine v_iload_n cx (tk_dc d_N_enter 11 rfl) rfl ?_
    refine v_callS (rest := _) cx (tk_dc d_N_enter 12 rfl) m_N_25 ks_Q_max k_Q_max (c_Q_max) rfl rfl (Nat.le_of_ble_eq_true rfl) (by decide) ?_
    refine v_putI cx (tk_dc d_N_enter 13 rfl) f_N_22 (o_J4 (by assumption)) (by decide) (by rfl) ⟨rfl, rfl⟩ ?_
    refine v_iload_n cx (tk_dc d_N_enter 14 rfl) rfl ?_
    refine v_if_eq cx (tk_dc d_N_enter 15 rfl) 77 (by decide) (fun _ => ?_) (fun h => absurd (by decide) h)
    exact v_vret cx hB (tk_dc d_N_enter 42 rfl) (by (try simp only [n_lw, wI_at, wI_nk, Nat.reduceBEq, Nat.reduceEqDiff] at h5); simp [n_ent, n_lw, wI_at, wI_nk, Nat.reduceBEq, Nat.reduceEqDiff, wI_ne, h5, Int32.not_lt.mpr h5]; try simp [hc, tk_cl0 (show k < 1000 by omega)])
  · refine v_iconst cx (tk_dc d_N_enter 4 rfl) (1) (by decide) ?_
    refine v_goto cx (tk_dc d_N_enter 5 rfl) 13 (by decide) ?_
    refine v_istore_n (lo' := [_, _, _, _]) cx (tk_dc d_N_enter 7 rfl) (by decide) rfl ?_
    refine v_aload_n cx (tk_dc d_N_enter 8 rfl) rfl ?_
    refine v_aload_n cx (tk_dc d_N_enter 9 rfl) rfl ?_
    refine v_getI cx (tk_dc d_N_enter 10 rfl) f_N_22 (o_J4 (by assumption)) (by decide) (by rfl) ?_
    refine v_iload_n cx (tk_dc d_N_enter 11 rfl) rfl ?_
    refine v_callS (rest := _) cx (tk_dc d_N_enter 12 rfl) m_N_25 ks_Q_max k_Q_max (c_Q_max) rfl rfl (Nat.le_of_ble_eq_true rfl) (by decide) ?_
    refine v_putI cx (tk_dc d_N_enter 13 rfl) f_N_22 (o_J4 (by assumption)) (by decide) (by rfl) ⟨rfl, rfl⟩ ?_
    refine v_iload_n cx (tk_dc d_N_enter 14 rfl) rfl ?_
    refine v_if_eq cx (tk_dc d_N_enter 15 rfl) 77 (by decide) (fun h => absurd h (by decide)) (fun _ => ?_)
    refine v_iload_n cx (tk_dc d_N_enter 16 rfl) rfl ?_
    refine v_aload_n cx (tk_dc d_N_enter 17 rfl) rfl ?_
    refine v_callV (rest := _) cx (tk_dc d_N_enter 18 rfl) m_N_31 kn_N_lastMoment kv_N_lastMoment k_N_lastMoment (o_J4 (by assumption)) (by decide) rfl (c_N_lastMoment hj hk (by rw [wI_nk (by decide)]; exact hc)) rfl rfl (Nat.le_of_ble_eq_true rfl) (by decide) ?_
    refine v_icmp_le cx (tk_dc d_N_enter 19 rfl) 77 (by decide) (fun h35 => ?_) (fun h35 => ?_)
    · exact v_vret cx hB (tk_dc d_N_enter 42 rfl) (by (try simp only [n_lw, wI_at, wI_nk, Nat.reduceBEq, Nat.reduceEqDiff] at h5 h35); simp [n_ent, n_lw, wI_at, wI_nk, Nat.reduceBEq, Nat.reduceEqDiff, wI_ne, h5, Int32.not_le.mp h5, h35, Int32.not_lt.mpr h35]; try simp [hc, tk_cl0 (show k < 1000 by omega)])
    · refine v_aload_n cx (tk_dc d_N_enter 20 rfl) rfl ?_
      refine v_getI cx (tk_dc d_N_enter 21 rfl) f_N_18 (o_J4 (by assumption)) (by decide) (by rfl) ?_
      refine v_bipush cx (tk_dc d_N_enter 22 rfl) (40) (by decide) ?_
      refine v_icmp_ge cx (tk_dc d_N_enter 23 rfl) 77 (by decide) (fun h44 => ?_) (fun h44 => ?_)
      · exact v_vret cx hB (tk_dc d_N_enter 42 rfl) (by (try simp only [n_lw, wI_at, wI_nk, Nat.reduceBEq, Nat.reduceEqDiff] at h5 h35 h44); simp [n_ent, n_lw, wI_at, wI_nk, Nat.reduceBEq, Nat.reduceEqDiff, wI_ne, h5, Int32.not_le.mp h5, h35, Int32.not_le.mp h35, h44, Int32.not_lt.mpr h44]; try simp [hc, tk_cl0 (show k < 1000 by omega)])
      · refine v_aload_n cx (tk_dc d_N_enter 24 rfl) rfl ?_
        refine v_getC cx (jN _ + 4 + 1) (tk_dc d_N_enter 25 rfl) f_N_9 (o_J4 (by assumption)) (by decide) (by rfl) ?_
        refine v_aload_n cx (tk_dc d_N_enter 26 rfl) rfl ?_
        refine v_getI cx (tk_dc d_N_enter 27 rfl) f_N_18 (o_J4 (by assumption)) (by decide) (by rfl) ?_
        refine v_iload_n cx (tk_dc d_N_enter 28 rfl) rfl ?_
        refine w_iast cx (tk_dc d_N_enter 29 rfl) (o_J5 hj) k (by simp [wI, hc]) (n_lt40 hk (by simpa [wI, hc] using Int32.not_le.mp h44)) (by decide) ?_
        refine v_aload_n cx (tk_dc d_N_enter 30 rfl) rfl ?_
        refine v_getC cx (jN _ + 4 + 2) (tk_dc d_N_enter 31 rfl) f_N_15 (o_J4 (by assumption)) (by decide) (by rfl) ?_
        refine v_aload_n cx (tk_dc d_N_enter 32 rfl) rfl ?_
        refine v_getI cx (tk_dc d_N_enter 33 rfl) f_N_18 (o_J4 (by assumption)) (by decide) (by rfl) ?_
        refine v_iload_n cx (tk_dc d_N_enter 34 rfl) rfl ?_
        refine w_iast cx (tk_dc d_N_enter 35 rfl) (o_J6 hj) k (by simp [wI, hc]) (n_lt40 hk (by simpa [wI, hc] using Int32.not_le.mp h44)) (by decide) ?_
        refine v_aload_n cx (tk_dc d_N_enter 36 rfl) rfl ?_
        refine v_dup cx (tk_dc d_N_enter 37 rfl) rfl ?_
        refine v_getI cx (tk_dc d_N_enter 38 rfl) f_N_18 (o_J4 (by assumption)) (by decide) (by rfl) ?_
        refine v_iconst cx (tk_dc d_N_enter 39 rfl) (1) (by decide) ?_
        refine v_iadd cx (tk_dc d_N_enter 40 rfl) ?_
        refine v_putI cx (tk_dc d_N_enter 41 rfl) f_N_18 (o_J4 (by assumption)) (by decide) (by rfl) ⟨rfl, rfl⟩ ?_
        exact v_vret cx hB (tk_dc d_N_enter 42 rfl) (by (try simp only [n_lw, wI_at, wI_nk, Nat.reduceBEq, Nat.reduceEqDiff] at h5 h35 h44); simp [n_ent, n_lw, wI_at, wI_nk, Nat.reduceBEq, Nat.reduceEqDiff, wI_ne, h5, Int32.not_le.mp h5, h35, Int32.not_le.mp h35, h44, Int32.not_le.mp h44]; try simp [hc, tk_cl0 (show k < 1000 by omega)])
