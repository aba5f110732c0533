/-! schedulers and the post -/
abbrev oL : va_E := .inr (2, [.int 0, .int 0, .int 0, .int 0, .int 0, .int (-1), .int 0, .int 0])
abbrev oE : va_E := .inr (8, [.int 0, .int 0, .int (-1), .int 0, .int (-1), .int 0, .int 0, .int (-1), .int 0])
theorem tk_G_rep {i n q : Nat} {A : List va_E} {x : va_E} {C : Nat → va_E} (h : n = i + (A.length + q)) : tk_G n [x] (tk_G i (A ++ List.replicate q x) C) = tk_G i (A ++ List.replicate (q + 1) x) C := by
  have e := tk_G_G (i := i) (L := A ++ List.replicate q x) (L2 := [x]) (C := C)
  rw [List.length_append, List.length_replicate, ← h] at e
  rw [e, List.replicate_succ', List.append_assoc]
section TKH
variable {p : Program} {l : Launch} {e : Env} {R : Room} {s : State} {m : MethodId} {args : Array Value} {below : List Frame} {meth : Method} {c : Code} {Q : State → Prop} {E : tk_E} {nL n n0 i : Nat} {C C' : Nat → va_E} {cells slots pc pc' : Nat} {lo lo' : List (Option Value)} {st : List Value} {cc : ByteArray} {own : String}
theorem v_aald1 (cx : tk_X p s m args c cc nL own E n0) {x : Int32} {i N r : Nat} {nm : String} {f : Nat → Option Nat} (t0 : Nat) (d : tk_D cc pc .aaload 1 pc') (hi : i < n) (hC : C i = aQ E t0 N f) (ht0 : (tk_tys E)[t0]? = some (E.2.2.1 t0, .object nm)) (j : Nat) (hx : x = nI j) (hj : j < N) (hN : N < 1000) (hf : f j = some r) (kk : tk_V p l e R s m args below meth c Q E nL n C cells slots pc' lo (.ref r :: st)) : tk_V p l e R s m args below meth c Q E nL n C cells slots pc lo (.int x :: .ref (E.1 + i) :: st) := by
  obtain ⟨d1, rfl⟩ := d
  subst hx
  refine fun H locs ls h2 h3 h4 => va_aldq cx.1 cx.2.1 cx.2.2.2.2.2.2.1 h2 i t0 (by rw [tk_wl_at hi, hC]) ht0 (nI_in hj (by omega)) d1 ?_
  rw [nI_clamp (by omega), hf]
  exact kk H locs ls h2 h3 h4
end TKH
set_option maxHeartbeats 4000000 in
set_option maxRecDepth 100000 in
theorem i_S {l : Launch} {E : tk_E} {i : Nat} {C : Nat → va_E} : tk_Met l y_S_init b_S_init 2 none 2 E [.ref (E.1 + i)] (i + 1) (tk_G i [.inr (7, dv_S)] C) (i + 10) (tk_G i ([.inr (7, [.ref (E.1 + (i + 1)), .int 1]), aQ E 8 8 (tk_fr 8 (8) (fun k => E.1 + (i + 1 + (k + 1))))] ++ List.replicate (8) oE) C) none 9 80 := by
  refine tk_ofV (by decide +kernel) [some (.ref (E.1 + i)), none] rfl (Nat.le_of_ble_eq_true rfl) ?_
  intro p e s m args below meth c cx hB
  have loop : ∀ k q : Nat, q + k = 8 → tk_V p l e (tk_rm 2 9 80) s m args below meth c (MQ below (tk_Q E (i + 10) (tk_G i ([.inr (7, [.ref (E.1 + (i + 1)), .int 1]), aQ E 8 8 (tk_fr 8 (8) (fun k => E.1 + (i + 1 + (k + 1))))] ++ List.replicate (8) oE) C) none) args s 9 80 (tk_A E)) E 2 (i + 2 + q) (tk_G i ([.inr (7, [.ref (E.1 + (i + 1)), .int 1]), aQ E 8 8 (tk_fr 8 (q) (fun k => E.1 + (i + 1 + (k + 1))))] ++ List.replicate (q) oE) C) (1 + q) (8 + 9 * q) 20 [some (.ref (E.1 + i)), some (.int (nI q))] [] := by
    intro k
    induction k with
    | zero =>
      intro q hq
      have : q = 8 := by omega
      subst this
      refine v_iload_n cx (tk_dc d_S_init 11 rfl) rfl ?_
      refine v_bipush cx (tk_dc d_S_init 12 rfl) (8) (by decide) ?_
      refine v_icmp_ge cx (tk_dc d_S_init 13 rfl) 45 (by decide) (fun _ => ?_) (fun h => absurd (by decide) h)
      exact v_vret1 cx hB (tk_dc d_S_init 23 rfl) (fun a _ => rfl) (by omega) (by omega)
    | succ k ih =>
      intro q hq
      refine v_iload_n cx (tk_dc d_S_init 11 rfl) rfl ?_
      refine v_bipush cx (tk_dc d_S_init 12 rfl) (8) (by decide) ?_
      refine v_icmp_ge cx (tk_dc d_S_init 13 rfl) 45 (by decide) (fun h => absurd h (Int32.not_le.mpr (nI_lt (b := 8) (by omega) (by decide)))) (fun _ => ?_)
      refine v_aload_n cx (tk_dc d_S_init 14 rfl) rfl ?_
      refine v_get1 cx (tk_dc d_S_init 15 rfl) f_S_11 (by omega) tk_G_0 (v := .ref (E.1 + (i + 1))) rfl ?_
      refine v_iload_n cx (tk_dc d_S_init 16 rfl) rfl ?_
      refine v_new2 cx dv_E (tk_dc d_S_init 17 rfl) cl_S_9 (by decide) it_E dk_E ⟨by show _ ≤ 9; omega, by show _ ≤ 80; first | omega | (show _ + 9 ≤ _; omega)⟩ (by omega) ?_
      refine v_dup cx (tk_dc d_S_init 18 rfl) rfl ?_
      refine v_callI1 (as := []) cx (tk_dc d_S_init 19 rfl) (.inr m_S_21) kn_E_init rfl k_E_init (i_E (i := i + 2 + q)) rfl rfl (Nat.le_of_ble_eq_true rfl) (by decide) (by decide) ⟨by show _ ≤ 9; omega, by show _ ≤ 80; first | omega | (show _ + 9 + 0 ≤ _; omega)⟩ (by omega) (by omega) (by omega) ?_
      refine v_aast1 cx 8 (tk_dc d_S_init 20 rfl) (by omega) ((tk_G_lt (by omega)).trans (tk_G_at (r := 1) rfl)) rfl (ci := 8) (by decide) (by omega) tk_G_0 q rfl (by omega) (by decide) ?_
      rw [tk_fr_up (by omega) (by omega), tk_G_rep (A := [.inr (7, [.ref (E.1 + (i + 1)), .int 1]), aQ E 8 8 (tk_fr 8 (q) (fun k => E.1 + (i + 1 + (k + 1))))]) (by simp; omega), tk_G_upr (r := 1) (by simp)]
      refine v_iinc (lo' := [_, _]) cx (tk_dc d_S_init 21 rfl) rfl (nI (q + 1)) (nI_succ q).symm (by decide) rfl ?_
      refine v_goto cx (tk_dc d_S_init 22 rfl) 20 (by decide) ?_
      have h := ih (q + 1) (by omega)
      rw [show 8 + 9 * (q + 1) = 8 + 9 * q + 9 by omega] at h
      exact h
  refine v_aload_n cx (tk_dc d_S_init 0 rfl) rfl ?_
  refine v_objI cx (tk_dc d_S_init 1 rfl) m_S_3 (Nat.le_of_ble_eq_true rfl) ?_
  refine v_aload_n cx (tk_dc d_S_init 2 rfl) rfl ?_
  refine v_bipush cx (tk_dc d_S_init 3 rfl) (8) (by decide) ?_
  refine v_anewG (i := i) cx (tk_fr 8 0 (fun k => E.1 + (i + 1 + (k + 1)))) 8 8 (tk_dc d_S_init 4 rfl) cl_S_9 ao_E rfl tk_fr_0 (by decide) (by decide) ⟨Nat.le_of_ble_eq_true rfl, Nat.le_of_ble_eq_true rfl⟩ (by omega) [.inr (7, [.null, .int 0]), aQ E 8 8 (tk_fr 8 0 (fun k => E.1 + (i + 1 + (k + 1))))] rfl rfl ?_
  refine v_putFG cx hB rfl (tk_dc d_S_init 5 rfl) f_S_11 (tk_tb 265 (by decide +kernel)) (by omega) (Nat.le_of_ble_eq_true rfl) rfl rfl rfl rfl [.ref (E.1 + (i + 1)), .int 0] rfl ?_
  refine v_aload_n cx (tk_dc d_S_init 6 rfl) rfl ?_
  refine v_iconst cx (tk_dc d_S_init 7 rfl) (1) (by decide) ?_
  refine v_putG cx (tk_dc d_S_init 8 rfl) f_S_17 (by omega) (Nat.le_of_ble_eq_true rfl) rfl (by first | rfl | decide +kernel) (by first | rfl | decide +kernel) [.ref (E.1 + (i + 1)), .int 1] rfl ?_
  refine v_iconst cx (tk_dc d_S_init 9 rfl) (0) (by decide) ?_
  refine v_istore_n (lo' := [_, _]) cx (tk_dc d_S_init 10 rfl) (by decide) rfl ?_
  exact loop 8 0 rfl
set_option maxHeartbeats 4000000 in
set_option maxRecDepth 100000 in
theorem i_P {l : Launch} {E : tk_E} {i : Nat} {C : Nat → va_E} : tk_Met l y_P_init b_P_init 2 none 2 E [.ref (E.1 + i)] (i + 1) (tk_G i [.inr (1, dv_P)] C) (i + 64) (tk_G i ([.inr (1, [.ref (E.1 + (i + 1)), .ref (E.1 + (i + 2)), .ref (E.1 + (i + 3)), .int 0]), aQ E 7 60 (tk_fr 60 (60) (fun k => E.1 + (i + 4 + k))), oL, oL] ++ List.replicate (60) oL) C) none 63 556 := by
  refine tk_ofV (by decide +kernel) [some (.ref (E.1 + i)), none] rfl (Nat.le_of_ble_eq_true rfl) ?_
  intro p e s m args below meth c cx hB
  have loop : ∀ k q : Nat, q + k = 60 → tk_V p l e (tk_rm 2 63 556) s m args below meth c (MQ below (tk_Q E (i + 64) (tk_G i ([.inr (1, [.ref (E.1 + (i + 1)), .ref (E.1 + (i + 2)), .ref (E.1 + (i + 3)), .int 0]), aQ E 7 60 (tk_fr 60 (60) (fun k => E.1 + (i + 4 + k))), oL, oL] ++ List.replicate (60) oL) C) none) args s 63 556 (tk_A E)) E 2 (i + 4 + q) (tk_G i ([.inr (1, [.ref (E.1 + (i + 1)), .ref (E.1 + (i + 2)), .ref (E.1 + (i + 3)), .int 0]), aQ E 7 60 (tk_fr 60 (q) (fun k => E.1 + (i + 4 + k))), oL, oL] ++ List.replicate (q) oL) C) (3 + q) (76 + 8 * q) 42 [some (.ref (E.1 + i)), some (.int (nI q))] [] := by
    intro k
    induction k with
    | zero =>
      intro q hq
      have : q = 60 := by omega
      subst this
      refine v_iload_n cx (tk_dc d_P_init 21 rfl) rfl ?_
      refine v_bipush cx (tk_dc d_P_init 22 rfl) (60) (by decide) ?_
      refine v_icmp_ge cx (tk_dc d_P_init 23 rfl) 67 (by decide) (fun _ => ?_) (fun h => absurd (by decide) h)
      exact v_vret1 cx hB (tk_dc d_P_init 33 rfl) (fun a _ => rfl) (by omega) (by omega)
    | succ k ih =>
      intro q hq
      refine v_iload_n cx (tk_dc d_P_init 21 rfl) rfl ?_
      refine v_bipush cx (tk_dc d_P_init 22 rfl) (60) (by decide) ?_
      refine v_icmp_ge cx (tk_dc d_P_init 23 rfl) 67 (by decide) (fun h => absurd h (Int32.not_le.mpr (nI_lt (b := 60) (by omega) (by decide)))) (fun _ => ?_)
      refine v_aload_n cx (tk_dc d_P_init 24 rfl) rfl ?_
      refine v_get1 cx (tk_dc d_P_init 25 rfl) f_P_11 (by omega) tk_G_0 (v := .ref (E.1 + (i + 1))) rfl ?_
      refine v_iload_n cx (tk_dc d_P_init 26 rfl) rfl ?_
      refine v_new2 cx dv_L (tk_dc d_P_init 27 rfl) cl_P_9 (by decide) it_L dk_L ⟨by show _ ≤ 63; omega, by show _ ≤ 556; first | omega | (show _ + 8 ≤ _; omega)⟩ (by omega) ?_
      refine v_dup cx (tk_dc d_P_init 28 rfl) rfl ?_
      refine v_callI1 (as := []) cx (tk_dc d_P_init 29 rfl) (.inr m_P_17) kn_L_init rfl k_L_init (i_L (i := i + 4 + q)) rfl rfl (Nat.le_of_ble_eq_true rfl) (by decide) (by decide) ⟨by show _ ≤ 63; omega, by show _ ≤ 556; first | omega | (show _ + 8 + 0 ≤ _; omega)⟩ (by omega) (by omega) (by omega) ?_
      refine v_aast1 cx 7 (tk_dc d_P_init 30 rfl) (by omega) ((tk_G_lt (by omega)).trans (tk_G_at (r := 1) rfl)) rfl (ci := 2) (by decide) (by omega) tk_G_0 q rfl (by omega) (by decide) ?_
      rw [tk_fr_up (by omega) (by omega), tk_G_rep (A := [.inr (1, [.ref (E.1 + (i + 1)), .ref (E.1 + (i + 2)), .ref (E.1 + (i + 3)), .int 0]), aQ E 7 60 (tk_fr 60 (q) (fun k => E.1 + (i + 4 + k))), oL, oL]) (by simp; omega), tk_G_upr (r := 1) (by simp)]
      refine v_iinc (lo' := [_, _]) cx (tk_dc d_P_init 31 rfl) rfl (nI (q + 1)) (nI_succ q).symm (by decide) rfl ?_
      refine v_goto cx (tk_dc d_P_init 32 rfl) 42 (by decide) ?_
      have h := ih (q + 1) (by omega)
      rw [show 76 + 8 * (q + 1) = 76 + 8 * q + 8 by omega] at h
      exact h
  refine v_aload_n cx (tk_dc d_P_init 0 rfl) rfl ?_
  refine v_objI cx (tk_dc d_P_init 1 rfl) m_P_3 (Nat.le_of_ble_eq_true rfl) ?_
  refine v_aload_n cx (tk_dc d_P_init 2 rfl) rfl ?_
  refine v_bipush cx (tk_dc d_P_init 3 rfl) (60) (by decide) ?_
  refine v_anewG (i := i) cx (tk_fr 60 0 (fun k => E.1 + (i + 4 + k))) 7 60 (tk_dc d_P_init 4 rfl) cl_P_9 ao_L rfl tk_fr_0 (by decide) (by decide) ⟨Nat.le_of_ble_eq_true rfl, Nat.le_of_ble_eq_true rfl⟩ (by omega) [.inr (1, [.null, .null, .null, .int 0]), aQ E 7 60 (tk_fr 60 0 (fun k => E.1 + (i + 4 + k)))] rfl rfl ?_
  refine v_putFG cx hB rfl (tk_dc d_P_init 5 rfl) f_P_11 (tk_tb 85 (by decide +kernel)) (by omega) (Nat.le_of_ble_eq_true rfl) rfl rfl rfl rfl [.ref (E.1 + (i + 1)), .null, .null, .int 0] rfl ?_
  refine v_aload_n cx (tk_dc d_P_init 6 rfl) rfl ?_
  refine v_new2 cx dv_L (tk_dc d_P_init 7 rfl) cl_P_9 (by decide) it_L dk_L ⟨Nat.le_of_ble_eq_true rfl, Nat.le_of_ble_eq_true rfl⟩ (by omega) ?_
  refine v_dup cx (tk_dc d_P_init 8 rfl) rfl ?_
  refine v_callI1 (as := []) cx (tk_dc d_P_init 9 rfl) (.inr m_P_17) kn_L_init rfl k_L_init (i_L) rfl rfl (Nat.le_of_ble_eq_true rfl) (by decide) (by decide) ⟨Nat.le_of_ble_eq_true rfl, Nat.le_of_ble_eq_true rfl⟩ (by omega) (by omega) (by omega) ?_
  refine v_eqF (C' := tk_G i [.inr (1, [.ref (E.1 + (i + 1)), .null, .null, .int 0]), aQ E 7 60 (tk_fr 60 0 (fun k => E.1 + (i + 4 + k))), oL] C) (tk_G_G (L := [_, _])) ?_
  refine v_putFG cx hB rfl (tk_dc d_P_init 10 rfl) f_P_18 (tk_tb 87 (by decide +kernel)) (by omega) (Nat.le_of_ble_eq_true rfl) rfl rfl rfl rfl [.ref (E.1 + (i + 1)), .ref (E.1 + (i + 2)), .null, .int 0] rfl ?_
  refine v_aload_n cx (tk_dc d_P_init 11 rfl) rfl ?_
  refine v_new2 cx dv_L (tk_dc d_P_init 12 rfl) cl_P_9 (by decide) it_L dk_L ⟨Nat.le_of_ble_eq_true rfl, Nat.le_of_ble_eq_true rfl⟩ (by omega) ?_
  refine v_dup cx (tk_dc d_P_init 13 rfl) rfl ?_
  refine v_callI1 (as := []) cx (tk_dc d_P_init 14 rfl) (.inr m_P_17) kn_L_init rfl k_L_init (i_L) rfl rfl (Nat.le_of_ble_eq_true rfl) (by decide) (by decide) ⟨Nat.le_of_ble_eq_true rfl, Nat.le_of_ble_eq_true rfl⟩ (by omega) (by omega) (by omega) ?_
  refine v_eqF (C' := tk_G i [.inr (1, [.ref (E.1 + (i + 1)), .ref (E.1 + (i + 2)), .null, .int 0]), aQ E 7 60 (tk_fr 60 0 (fun k => E.1 + (i + 4 + k))), oL, oL] C) (tk_G_G (L := [_, _, _])) ?_
  refine v_putG cx (tk_dc d_P_init 15 rfl) f_P_22 (by omega) (Nat.le_of_ble_eq_true rfl) rfl (by first | rfl | decide +kernel) (by first | rfl | decide +kernel) [.ref (E.1 + (i + 1)), .ref (E.1 + (i + 2)), .ref (E.1 + (i + 3)), .int 0] rfl ?_
  refine v_aload_n cx (tk_dc d_P_init 16 rfl) rfl ?_
  refine v_iconst cx (tk_dc d_P_init 17 rfl) (0) (by decide) ?_
  refine v_putG cx (tk_dc d_P_init 18 rfl) f_P_25 (by omega) (Nat.le_of_ble_eq_true rfl) rfl (by first | rfl | decide +kernel) (by first | rfl | decide +kernel) [.ref (E.1 + (i + 1)), .ref (E.1 + (i + 2)), .ref (E.1 + (i + 3)), .int 0] rfl ?_
  refine v_iconst cx (tk_dc d_P_init 19 rfl) (0) (by decide) ?_
  refine v_istore_n (lo' := [_, _]) cx (tk_dc d_P_init 20 rfl) (by decide) rfl ?_
  exact loop 60 0 rfl
