/-! a new class -/
set_option maxHeartbeats 4000000 in
set_option maxRecDepth 100000 in
theorem i_K {l : Launch} {E : tk_E} : tk_Met l y_K_init b_K_init 2 none 3 E [.ref (E.1 + 0)] 1 (tk_G 0 [.inr (0, dv_K)] (tk_ct E MA)) 172 (tk_ct E MA) none 171 1915 := by
  refine tk_ofV (by decide +kernel) [some (.ref (E.1 + 0)), none] rfl (Nat.le_of_ble_eq_true rfl) ?_
  intro p e s m args below meth c cx hB
  have ld : ∀ w1 : Option Value, tk_V p l e (tk_rm 3 171 1915) s m args below meth c (MQ below (tk_Q E 172 (tk_ct E MA) none) args s 171 1915 (tk_A E)) E 2 (172) (tk_H E (qz E 4) (qj E 8) (qs E 3) (aZ E 2) (qn E 8)) (171) (1915) 159 [some (.ref (E.1 + 0)), w1] [] := by
    intro w1
    refine v_iconst cx (tk_dc d_K_init 83 rfl) (0) (by decide) ?_
    refine v_istore_n (lo' := [_, _]) cx (tk_dc d_K_init 84 rfl) (by decide) rfl ?_
    refine v_iload_n cx (tk_dc d_K_init 85 rfl) rfl ?_
    refine v_iconst cx (tk_dc d_K_init 86 rfl) (2) (by decide) ?_
    refine v_icmp_ge cx (tk_dc d_K_init 87 rfl) 179 (by decide) (fun h => absurd h (by decide)) (fun _ => ?_)
    refine v_aload_n cx (tk_dc d_K_init 88 rfl) rfl ?_
    refine v_get1 cx (tk_dc d_K_init 89 rfl) f_K_27 (by omega) tk_G_0 (v := .ref (E.1 + 4)) rfl ?_
    refine v_iload_n cx (tk_dc d_K_init 90 rfl) rfl ?_
    refine v_iconst cx (tk_dc d_K_init 91 rfl) (1) (by decide) ?_
    refine v_zast1 cx (tk_dc d_K_init 92 rfl) (by decide) (tk_G_at (i := 0) (r := 4) rfl) 0 rfl (by decide) (by decide) (Or.inr rfl) ?_
    refine v_eqF (C' := tk_H E (qz E 4) (qj E 8) (qs E 3) (.inl (E.2.2.1 1, 2, .inl (upd (fun _ => 0) 0 1))) (qn E 8)) (tk_G_upr (i := 0) (r := 4) (by simp)) ?_
    refine v_iinc (lo' := [_, _]) cx (tk_dc d_K_init 93 rfl) rfl (1) (by decide) (by decide) rfl ?_
    refine v_goto cx (tk_dc d_K_init 94 rfl) 161 (by decide) ?_
    refine v_iload_n cx (tk_dc d_K_init 85 rfl) rfl ?_
    refine v_iconst cx (tk_dc d_K_init 86 rfl) (2) (by decide) ?_
    refine v_icmp_ge cx (tk_dc d_K_init 87 rfl) 179 (by decide) (fun h => absurd h (by decide)) (fun _ => ?_)
    refine v_aload_n cx (tk_dc d_K_init 88 rfl) rfl ?_
    refine v_get1 cx (tk_dc d_K_init 89 rfl) f_K_27 (by omega) tk_G_0 (v := .ref (E.1 + 4)) rfl ?_
    refine v_iload_n cx (tk_dc d_K_init 90 rfl) rfl ?_
    refine v_iconst cx (tk_dc d_K_init 91 rfl) (1) (by decide) ?_
    refine v_zast1 cx (tk_dc d_K_init 92 rfl) (by decide) (tk_G_at (i := 0) (r := 4) rfl) 1 rfl (by decide) (by decide) (Or.inr rfl) ?_
    refine v_eqF (C' := tk_H E (qz E 4) (qj E 8) (qs E 3) (qd E) (qn E 8)) (tk_G_upr (i := 0) (r := 4) (by simp)) ?_
    refine v_iinc (lo' := [_, _]) cx (tk_dc d_K_init 93 rfl) rfl (2) (by decide) (by decide) rfl ?_
    refine v_goto cx (tk_dc d_K_init 94 rfl) 161 (by decide) ?_
    refine v_iload_n cx (tk_dc d_K_init 85 rfl) rfl ?_
    refine v_iconst cx (tk_dc d_K_init 86 rfl) (2) (by decide) ?_
    refine v_icmp_ge cx (tk_dc d_K_init 87 rfl) 179 (by decide) (fun _ => ?_) (fun h => absurd (by decide) h)
    exact v_vret1 cx hB (tk_dc d_K_init 95 rfl) (fun a _ => congrFun tk_H_all a) (by omega) (by omega)
  have ls : ∀ k q : Nat, q + k = 3 → tk_V p l e (tk_rm 3 171 1915) s m args below meth c (MQ below (tk_Q E 172 (tk_ct E MA) none) args s 171 1915 (tk_A E)) E 2 (142 + 10 * q) (tk_H E (qz E 4) (qj E 8) (qs E q) (aZ E 2) (qn E 8)) (141 + 10 * q) (1669 + 82 * q) 135 [some (.ref (E.1 + 0)), some (.int (nI q))] [] := by
    intro k
    induction k with
    | zero =>
      intro q hq
      have : q = 3 := by omega
      subst this
      refine v_iload_n cx (tk_dc d_K_init 71 rfl) rfl ?_
      refine v_iconst cx (tk_dc d_K_init 72 rfl) (3) (by decide) ?_
      refine v_icmp_ge cx (tk_dc d_K_init 73 rfl) 159 (by decide) (fun _ => ?_) (fun h => absurd (by decide) h)
      exact ld _
    | succ k ih =>
      intro q hq
      refine v_iload_n cx (tk_dc d_K_init 71 rfl) rfl ?_
      refine v_iconst cx (tk_dc d_K_init 72 rfl) (3) (by decide) ?_
      refine v_icmp_ge cx (tk_dc d_K_init 73 rfl) 159 (by decide) (fun h => absurd h (Int32.not_le.mpr (nI_lt (b := 3) (by omega) (by decide)))) (fun _ => ?_)
      refine v_aload_n cx (tk_dc d_K_init 74 rfl) rfl ?_
      refine v_get1 cx (tk_dc d_K_init 75 rfl) f_K_23 (by omega) tk_G_0 (v := .ref (E.1 + 3)) rfl ?_
      refine v_iload_n cx (tk_dc d_K_init 76 rfl) rfl ?_
      refine v_new2 cx dv_S (tk_dc d_K_init 77 rfl) cl_K_21 (by decide) it_S dk_S ⟨by show _ ≤ 171; omega, by show 1669 + 82 * q + 2 ≤ 1915; omega⟩ (by omega) ?_
      refine v_dup cx (tk_dc d_K_init 78 rfl) rfl ?_
      refine v_callI1 (as := []) cx (tk_dc d_K_init 79 rfl) (.inl m_K_53) kn_S_init rfl k_S_init (i_S (i := 142 + 10 * q)) rfl rfl (Nat.le_of_ble_eq_true rfl) (by decide) (by decide) ⟨by show _ ≤ 171; omega, by show 1669 + 82 * q + 2 + 80 ≤ 1915; omega⟩ (by omega) (by omega) (by omega) ?_
      refine v_aast1 cx 5 (tk_dc d_K_init 80 rfl) (by omega) ((tk_G_lt (by omega)).trans (tk_G_at (i := 0) (r := 3) rfl)) rfl (ci := 7) (by decide) (by omega) tk_G_0 q rfl (by omega) (by decide) ?_
      rw [tk_fr_up (by omega) (by omega)]
      refine v_eqF (C' := tk_H E (qz E 4) (qj E 8) (qs E (q + 1)) (aZ E 2) (qn E 8)) ((congrArg (fun B => va_up B 3 _) (tk_G_hd (by simp [zN, jN, sN]; omega) (H_S (x := q) (by omega)))).trans (tk_G_upr (i := 0) (r := 3) (by simp))) ?_
      refine v_iinc (lo' := [_, _]) cx (tk_dc d_K_init 81 rfl) rfl (nI (q + 1)) (nI_succ q).symm (by decide) rfl ?_
      refine v_goto cx (tk_dc d_K_init 82 rfl) 135 (by decide) ?_
      have h := ih (q + 1) (by omega)
      rw [show 142 + 10 * (q + 1) = 142 + 10 * q + 10 by omega, show 141 + 10 * (q + 1) = 141 + 10 * q + 1 + 9 by omega, show 1669 + 82 * (q + 1) = 1669 + 82 * q + 2 + 80 by omega] at h
      exact h
  have lj : ∀ k q : Nat, q + k = 8 → tk_V p l e (tk_rm 3 171 1915) s m args below meth c (MQ below (tk_Q E 172 (tk_ct E MA) none) args s 171 1915 (tk_A E)) E 2 (86 + 7 * q) (tk_H E (qz E 4) (qj E q) (qs E 0) (aZ E 2) (qn E q)) (85 + 7 * q) (741 + 116 * q) 89 [some (.ref (E.1 + 0)), some (.int (nI q))] [] := by
    intro k
    induction k with
    | zero =>
      intro q hq
      have : q = 8 := by omega
      subst this
      refine v_iload_n cx (tk_dc d_K_init 46 rfl) rfl ?_
      refine v_bipush cx (tk_dc d_K_init 47 rfl) (8) (by decide) ?_
      refine v_icmp_ge cx (tk_dc d_K_init 48 rfl) 133 (by decide) (fun _ => ?_) (fun h => absurd (by decide) h)
      refine v_iconst cx (tk_dc d_K_init 69 rfl) (0) (by decide) ?_
      refine v_istore_n (lo' := [_, _]) cx (tk_dc d_K_init 70 rfl) (by decide) rfl ?_
      exact ls 3 0 rfl
    | succ k ih =>
      intro q hq
      refine v_iload_n cx (tk_dc d_K_init 46 rfl) rfl ?_
      refine v_bipush cx (tk_dc d_K_init 47 rfl) (8) (by decide) ?_
      refine v_icmp_ge cx (tk_dc d_K_init 48 rfl) 133 (by decide) (fun h => absurd h (Int32.not_le.mpr (nI_lt (b := 8) (by omega) (by decide)))) (fun _ => ?_)
      refine v_aload_n cx (tk_dc d_K_init 49 rfl) rfl ?_
      refine v_get1 cx (tk_dc d_K_init 50 rfl) f_K_17 (by omega) tk_G_0 (v := .ref (E.1 + 2)) rfl ?_
      refine v_iload_n cx (tk_dc d_K_init 51 rfl) rfl ?_
      refine v_new2 cx dv_J (tk_dc d_K_init 52 rfl) cl_K_15 (by decide) it_J dk_J ⟨by show _ ≤ 171; omega, by show 741 + 116 * q + 9 ≤ 1915; omega⟩ (by omega) ?_
      refine v_dup cx (tk_dc d_K_init 53 rfl) rfl ?_
      refine v_aload_n cx (tk_dc d_K_init 54 rfl) rfl ?_
      refine v_get1 cx (tk_dc d_K_init 55 rfl) f_K_11 (by omega) ((tk_G_lt (by omega)).trans tk_G_0) (v := .ref (E.1 + 1)) rfl ?_
      refine v_iconst cx (tk_dc d_K_init 56 rfl) (0) (by decide) ?_
      refine v_aald1 (r := E.1 + 70) cx 3 (tk_dc d_K_init 57 rfl) (by omega) ((tk_G_lt (by omega)).trans (tk_G_at (i := 0) (r := 1) rfl)) rfl 0 rfl (by decide) (by decide) rfl ?_
      refine v_callI1 (as := [.ref (E.1 + 70)]) cx (tk_dc d_K_init 58 rfl) (.inl m_K_49) kn_J_init rfl k_J_init (i_J (i := 86 + 7 * q) (z := 70)) rfl rfl (Nat.le_of_ble_eq_true rfl) (by decide) (by decide) ⟨by show _ ≤ 171; omega, by show 741 + 116 * q + 9 + 23 ≤ 1915; omega⟩ (by omega) (by omega) (by omega) ?_
      refine v_aast1 cx 4 (tk_dc d_K_init 59 rfl) (by omega) ((tk_G_lt (by omega)).trans (tk_G_at (i := 0) (r := 2) rfl)) rfl (ci := 4) (by decide) (by omega) tk_G_0 q rfl (by omega) (by decide) ?_
      rw [tk_fr_up (by omega) (by omega)]
      refine v_eqF (C' := tk_H E (qz E 4) (qj E (q + 1)) (qs E 0) (aZ E 2) (qn E q)) ((congrArg (fun B => va_up B 2 _) (tk_G_hd (by simp [zN, jN, sN]; omega) (H_J (j := q) (by omega)))).trans (tk_G_upr (i := 0) (r := 2) (by simp))) ?_
      refine v_aload_n cx (tk_dc d_K_init 60 rfl) rfl ?_
      refine v_get1 cx (tk_dc d_K_init 61 rfl) f_K_33 (by omega) tk_G_0 (v := .ref (E.1 + 5)) rfl ?_
      refine v_iload_n cx (tk_dc d_K_init 62 rfl) rfl ?_
      refine v_new2 cx dv_N (tk_dc d_K_init 63 rfl) cl_K_31 (by decide) it_N dk_N ⟨by show _ ≤ 171; omega, by show 741 + 116 * q + 9 + 23 + 4 ≤ 1915; omega⟩ (by omega) ?_
      refine v_dup cx (tk_dc d_K_init 64 rfl) rfl ?_
      refine v_callI1 (as := []) cx (tk_dc d_K_init 65 rfl) (.inr m_K_52) kn_N_init rfl k_N_init (i_N (i := 86 + 7 * q + 4)) rfl rfl (Nat.le_of_ble_eq_true rfl) (by decide) (by decide) ⟨by show _ ≤ 171; omega, by show 741 + 116 * q + 9 + 23 + 4 + 80 ≤ 1915; omega⟩ (by omega) (by omega) (by omega) ?_
      refine v_aast1 cx 6 (tk_dc d_K_init 66 rfl) (by omega) ((tk_G_lt (by omega)).trans (tk_G_at (i := 0) (r := 5) rfl)) rfl (ci := 6) (by decide) (by omega) tk_G_0 q rfl (by omega) (by decide) ?_
      rw [tk_fr_up (by omega) (by omega)]
      refine v_eqF (C' := tk_H E (qz E 4) (qj E (q + 1)) (qs E 0) (aZ E 2) (qn E (q + 1))) ((congrArg (fun B => va_up B 5 _) (tk_G_hd (by simp [zN, jN, sN]; omega) (H_N (j := q) (by omega)))).trans (tk_G_upr (i := 0) (r := 5) (by simp))) ?_
      refine v_iinc (lo' := [_, _]) cx (tk_dc d_K_init 67 rfl) rfl (nI (q + 1)) (nI_succ q).symm (by decide) rfl ?_
      refine v_goto cx (tk_dc d_K_init 68 rfl) 89 (by decide) ?_
      have h := ih (q + 1) (by omega)
      rw [show 86 + 7 * (q + 1) = 86 + 7 * q + 4 + 3 by omega, show 85 + 7 * (q + 1) = 85 + 7 * q + 1 + 3 + 1 + 2 by omega, show 741 + 116 * (q + 1) = 741 + 116 * q + 9 + 23 + 4 + 80 by omega] at h
      exact h
  have lz : ∀ k q : Nat, q + k = 4 → tk_V p l e (tk_rm 3 171 1915) s m args below meth c (MQ below (tk_Q E 172 (tk_ct E MA) none) args s 171 1915 (tk_A E)) E 2 (70 + 4 * q) (tk_H E (qz E q) (qj E 0) (qs E 0) (aZ E 2) (qn E 0)) (69 + 4 * q) (585 + 39 * q) 63 [some (.ref (E.1 + 0)), some (.int (nI q))] [] := by
    intro k
    induction k with
    | zero =>
      intro q hq
      have : q = 4 := by omega
      subst this
      refine v_iload_n cx (tk_dc d_K_init 32 rfl) rfl ?_
      refine v_iconst cx (tk_dc d_K_init 33 rfl) (4) (by decide) ?_
      refine v_icmp_ge cx (tk_dc d_K_init 34 rfl) 87 (by decide) (fun _ => ?_) (fun h => absurd (by decide) h)
      refine v_iconst cx (tk_dc d_K_init 44 rfl) (0) (by decide) ?_
      refine v_istore_n (lo' := [_, _]) cx (tk_dc d_K_init 45 rfl) (by decide) rfl ?_
      exact lj 8 0 rfl
    | succ k ih =>
      intro q hq
      refine v_iload_n cx (tk_dc d_K_init 32 rfl) rfl ?_
      refine v_iconst cx (tk_dc d_K_init 33 rfl) (4) (by decide) ?_
      refine v_icmp_ge cx (tk_dc d_K_init 34 rfl) 87 (by decide) (fun h => absurd h (Int32.not_le.mpr (nI_lt (b := 4) (by omega) (by decide)))) (fun _ => ?_)
      refine v_aload_n cx (tk_dc d_K_init 35 rfl) rfl ?_
      refine v_get1 cx (tk_dc d_K_init 36 rfl) f_K_11 (by omega) tk_G_0 (v := .ref (E.1 + 1)) rfl ?_
      refine v_iload_n cx (tk_dc d_K_init 37 rfl) rfl ?_
      refine v_new2 cx dv_Z (tk_dc d_K_init 38 rfl) cl_K_9 (by decide) it_Z dk_Z ⟨by show _ ≤ 171; omega, by show 585 + 39 * q + 5 ≤ 1915; omega⟩ (by omega) ?_
      refine v_dup cx (tk_dc d_K_init 39 rfl) rfl ?_
      refine v_callI1 (as := []) cx (tk_dc d_K_init 40 rfl) (.inr m_K_48) kn_Z_init rfl k_Z_init (i_Z (i := 70 + 4 * q)) rfl rfl (Nat.le_of_ble_eq_true rfl) (by decide) (by decide) ⟨by show _ ≤ 171; omega, by show 585 + 39 * q + 5 + 34 ≤ 1915; omega⟩ (by omega) (by omega) (by omega) ?_
      refine v_aast1 cx 3 (tk_dc d_K_init 41 rfl) (by omega) ((tk_G_lt (by omega)).trans (tk_G_at (i := 0) (r := 1) rfl)) rfl (ci := 3) (by decide) (by omega) tk_G_0 q rfl (by omega) (by decide) ?_
      rw [tk_fr_up (by omega) (by omega)]
      refine v_eqF (C' := tk_H E (qz E (q + 1)) (qj E 0) (qs E 0) (aZ E 2) (qn E 0)) ((congrArg (fun B => va_up B 1 _) (tk_G_hd (by simp [zN, jN, sN]; omega) (H_Z (z := q) (by omega)))).trans (tk_G_upr (i := 0) (r := 1) (by simp))) ?_
      refine v_iinc (lo' := [_, _]) cx (tk_dc d_K_init 42 rfl) rfl (nI (q + 1)) (nI_succ q).symm (by decide) rfl ?_
      refine v_goto cx (tk_dc d_K_init 43 rfl) 63 (by decide) ?_
      have h := ih (q + 1) (by omega)
      rw [show 70 + 4 * (q + 1) = 70 + 4 * q + 4 by omega, show 69 + 4 * (q + 1) = 69 + 4 * q + 1 + 3 by omega, show 585 + 39 * (q + 1) = 585 + 39 * q + 5 + 34 by omega] at h
      exact h
  refine v_aload_n cx (tk_dc d_K_init 0 rfl) rfl ?_
  refine v_objI cx (tk_dc d_K_init 1 rfl) m_K_1 (Nat.le_of_ble_eq_true rfl) ?_
  refine v_aload_n cx (tk_dc d_K_init 2 rfl) rfl ?_
  refine v_iconst cx (tk_dc d_K_init 3 rfl) (4) (by decide) ?_
  refine v_anewG (i := 0) cx (tk_fr 4 0 (fun k => E.1 + (70 + 4 * k))) 3 4 (tk_dc d_K_init 4 rfl) cl_K_9 ao_Z rfl tk_fr_0 (by decide) (by decide) ⟨Nat.le_of_ble_eq_true rfl, Nat.le_of_ble_eq_true rfl⟩ (by omega) [.inr (0, [.null, .null, .null, .null, .null, .null, .int 0]), aQ E 3 4 (tk_fr 4 0 (fun k => E.1 + (70 + 4 * k)))] rfl rfl ?_
  refine v_putFG cx hB rfl (tk_dc d_K_init 5 rfl) f_K_11 (tk_tb 274 (by decide +kernel)) (by omega) (Nat.le_of_ble_eq_true rfl) rfl rfl rfl rfl [.ref (E.1 + 1), .null, .null, .null, .null, .null, .int 0] rfl ?_
  refine v_aload_n cx (tk_dc d_K_init 6 rfl) rfl ?_
  refine v_bipush cx (tk_dc d_K_init 7 rfl) (8) (by decide) ?_
  refine v_anewG (i := 0) cx (tk_fr 8 0 (fun k => E.1 + (86 + 7 * k))) 4 8 (tk_dc d_K_init 8 rfl) cl_K_15 ao_J rfl tk_fr_0 (by decide) (by decide) ⟨Nat.le_of_ble_eq_true rfl, Nat.le_of_ble_eq_true rfl⟩ (by omega) [.inr (0, [.ref (E.1 + 1), .null, .null, .null, .null, .null, .int 0]), aQ E 3 4 (tk_fr 4 0 (fun k => E.1 + (70 + 4 * k))), aQ E 4 8 (tk_fr 8 0 (fun k => E.1 + (86 + 7 * k)))] rfl rfl ?_
  refine v_putFG cx hB rfl (tk_dc d_K_init 9 rfl) f_K_17 (tk_tb 275 (by decide +kernel)) (by omega) (Nat.le_of_ble_eq_true rfl) rfl rfl rfl rfl [.ref (E.1 + 1), .ref (E.1 + 2), .null, .null, .null, .null, .int 0] rfl ?_
  refine v_aload_n cx (tk_dc d_K_init 10 rfl) rfl ?_
  refine v_iconst cx (tk_dc d_K_init 11 rfl) (3) (by decide) ?_
  refine v_anewG (i := 0) cx (tk_fr 3 0 (fun k => E.1 + (142 + 10 * k))) 5 3 (tk_dc d_K_init 12 rfl) cl_K_21 ao_S rfl tk_fr_0 (by decide) (by decide) ⟨Nat.le_of_ble_eq_true rfl, Nat.le_of_ble_eq_true rfl⟩ (by omega) [.inr (0, [.ref (E.1 + 1), .ref (E.1 + 2), .null, .null, .null, .null, .int 0]), aQ E 3 4 (tk_fr 4 0 (fun k => E.1 + (70 + 4 * k))), aQ E 4 8 (tk_fr 8 0 (fun k => E.1 + (86 + 7 * k))), aQ E 5 3 (tk_fr 3 0 (fun k => E.1 + (142 + 10 * k)))] rfl rfl ?_
  refine v_putFG cx hB rfl (tk_dc d_K_init 13 rfl) f_K_23 (tk_tb 276 (by decide +kernel)) (by omega) (Nat.le_of_ble_eq_true rfl) rfl rfl rfl rfl [.ref (E.1 + 1), .ref (E.1 + 2), .ref (E.1 + 3), .null, .null, .null, .int 0] rfl ?_
  refine v_aload_n cx (tk_dc d_K_init 14 rfl) rfl ?_
  refine v_iconst cx (tk_dc d_K_init 15 rfl) (2) (by decide) ?_
  refine v_newaG (i := 0) cx (2, .inl (fun _ => 0)) 1 2 (tk_dc d_K_init 16 rfl) ac_Z rfl rfl rfl (fun _ => rfl) (by decide) (by decide) (by decide) ⟨Nat.le_of_ble_eq_true rfl, Nat.le_of_ble_eq_true rfl⟩ (by omega) [.inr (0, [.ref (E.1 + 1), .ref (E.1 + 2), .ref (E.1 + 3), .null, .null, .null, .int 0]), aQ E 3 4 (tk_fr 4 0 (fun k => E.1 + (70 + 4 * k))), aQ E 4 8 (tk_fr 8 0 (fun k => E.1 + (86 + 7 * k))), aQ E 5 3 (tk_fr 3 0 (fun k => E.1 + (142 + 10 * k))), aZ E 2] rfl rfl ?_
  refine v_putFG cx hB rfl (tk_dc d_K_init 17 rfl) f_K_27 (tk_tb 277 (by decide +kernel)) (by omega) (Nat.le_of_ble_eq_true rfl) rfl rfl rfl rfl [.ref (E.1 + 1), .ref (E.1 + 2), .ref (E.1 + 3), .ref (E.1 + 4), .null, .null, .int 0] rfl ?_
  refine v_aload_n cx (tk_dc d_K_init 18 rfl) rfl ?_
  refine v_bipush cx (tk_dc d_K_init 19 rfl) (8) (by decide) ?_
  refine v_anewG (i := 0) cx (tk_fr 8 0 (fun k => E.1 + (86 + 7 * k + 4))) 6 8 (tk_dc d_K_init 20 rfl) cl_K_31 ao_N rfl tk_fr_0 (by decide) (by decide) ⟨Nat.le_of_ble_eq_true rfl, Nat.le_of_ble_eq_true rfl⟩ (by omega) [.inr (0, [.ref (E.1 + 1), .ref (E.1 + 2), .ref (E.1 + 3), .ref (E.1 + 4), .null, .null, .int 0]), aQ E 3 4 (tk_fr 4 0 (fun k => E.1 + (70 + 4 * k))), aQ E 4 8 (tk_fr 8 0 (fun k => E.1 + (86 + 7 * k))), aQ E 5 3 (tk_fr 3 0 (fun k => E.1 + (142 + 10 * k))), aZ E 2, aQ E 6 8 (tk_fr 8 0 (fun k => E.1 + (86 + 7 * k + 4)))] rfl rfl ?_
  refine v_putFG cx hB rfl (tk_dc d_K_init 21 rfl) f_K_33 (tk_tb 278 (by decide +kernel)) (by omega) (Nat.le_of_ble_eq_true rfl) rfl rfl rfl rfl [.ref (E.1 + 1), .ref (E.1 + 2), .ref (E.1 + 3), .ref (E.1 + 4), .ref (E.1 + 5), .null, .int 0] rfl ?_
  refine v_aload_n cx (tk_dc d_K_init 22 rfl) rfl ?_
  refine v_new2 cx dv_P (tk_dc d_K_init 23 rfl) cl_K_37 (by decide) it_P dk_P ⟨Nat.le_of_ble_eq_true rfl, Nat.le_of_ble_eq_true rfl⟩ (by omega) ?_
  refine v_dup cx (tk_dc d_K_init 24 rfl) rfl ?_
  refine v_callI1 (as := []) cx (tk_dc d_K_init 25 rfl) (.inl m_K_39) kn_P_init rfl k_P_init (i_P (i := 6)) rfl rfl (Nat.le_of_ble_eq_true rfl) (by decide) (by decide) ⟨Nat.le_of_ble_eq_true rfl, Nat.le_of_ble_eq_true rfl⟩ (by omega) (by omega) (by omega) ?_
  refine v_eqF (C' := tk_G 0 [.inr (0, [.ref (E.1 + 1), .ref (E.1 + 2), .ref (E.1 + 3), .ref (E.1 + 4), .ref (E.1 + 5), .null, .int 0]), aQ E 3 4 (tk_fr 4 0 (fun k => E.1 + (70 + 4 * k))), aQ E 4 8 (tk_fr 8 0 (fun k => E.1 + (86 + 7 * k))), aQ E 5 3 (tk_fr 3 0 (fun k => E.1 + (142 + 10 * k))), aZ E 2, aQ E 6 8 (tk_fr 8 0 (fun k => E.1 + (86 + 7 * k + 4)))] (tk_ct E MA)) (tk_G_hd (Nat.le_of_ble_eq_true rfl) H_P) ?_
  refine v_putFG cx hB rfl (tk_dc d_K_init 26 rfl) f_K_40 (tk_tb 279 (by decide +kernel)) (by omega) (Nat.le_of_ble_eq_true rfl) rfl rfl rfl rfl [.ref (E.1 + 1), .ref (E.1 + 2), .ref (E.1 + 3), .ref (E.1 + 4), .ref (E.1 + 5), .ref (E.1 + 6), .int 0] rfl ?_
  refine v_aload_n cx (tk_dc d_K_init 27 rfl) rfl ?_
  refine v_iconst cx (tk_dc d_K_init 28 rfl) (0) (by decide) ?_
  refine v_putG cx (tk_dc d_K_init 29 rfl) f_K_44 (by omega) (Nat.le_of_ble_eq_true rfl) rfl (by first | rfl | decide +kernel) (by first | rfl | decide +kernel) [.ref (E.1 + 1), .ref (E.1 + 2), .ref (E.1 + 3), .ref (E.1 + 4), .ref (E.1 + 5), .ref (E.1 + 6), .int 0] rfl ?_
  refine v_iconst cx (tk_dc d_K_init 30 rfl) (0) (by decide) ?_
  refine v_istore_n (lo' := [_, _]) cx (tk_dc d_K_init 31 rfl) (by decide) rfl ?_
  exact lz 4 0 rfl
