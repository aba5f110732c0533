/-! the other side: a letter comes -/
theorem m_rem_at {M : tk_M} {i c a b : Nat} (h1 : a ≠ 208) (h2 : ¬ (a = 172 ∧ b = 38)) : (m_rem M i c).1 a b = M.1 a b := by
  unfold m_rem
  rw [wI_ne h2, m_shf_at (Or.inl h1)]
theorem m_rem_c {M : tk_M} {i c : Nat} : (m_rem M i c).1 172 38 = nI (c - 1) := wI_at _ _ _ _
theorem m_rem_2 {M : tk_M} {i c : Nat} : (m_rem M i c).2 = M.2 := rfl
theorem m_rem_ce {M : tk_M} {i c : Nat} : CE M (m_rem M i c) := ⟨fun _ => rfl, fun a b h1 h2 h3 => m_rem_at (by omega) (by omega)⟩
def m_dl0 (M : tk_M) (i cn f t j : Nat) (b : Int32) : tk_M := if M.1 193 t = 0 then m_rem M i cn else if M.1 195 (8 * t + j) ≤ b then m_snd (wI (m_rem M i cn) 195 (8 * t + j) b) (cn - 1) [nI 1, nI t, nI f, nI j, b, M.1 197 (8 * t + j), M.1 198 (8 * t + j), M.1 196 (8 * t + j)] else m_rem M i cn
noncomputable def m_dl1 (G : Nat → gJ) (nw : Int) (M : tk_M) (i cn t j : Nat) (b mm g ab : Int32) : tk_M := if M.1 193 t = 0 then m_rem M i cn else m_pmd G nw (m_rem M i cn) (cn - 1) t j b mm g ab
def m_acc (M : tk_M) (k : Nat) (b mm g : Int32) : tk_M := wI (wI (wI (wI M 195 k b) 196 k b) 197 k mm) 198 k g
def m_dl2 (M : tk_M) (i cn f t j : Nat) (b mm g : Int32) : tk_M := if M.1 193 t = 0 then m_rem M i cn else if M.1 195 (8 * t + j) ≤ b then m_snd (m_acc (m_rem M i cn) (8 * t + j) b mm g) (cn - 1) [nI 3, nI t, nI f, nI j, b, -1, 0, 0] else m_rem M i cn
def m_dl3 (M : tk_M) (i cn t j : Nat) (b : Int32) : tk_M := if M.1 193 t = 0 then m_rem M i cn else if M.1 200 (8 * t + j) = 2 ∧ M.1 201 (8 * t + j) = b then m_snd (wI (m_rem M i cn) 200 (8 * t + j) 3) (cn - 1) [nI 4, nI t, nI (j % 2), nI j, 0, M.1 202 (8 * t + j), M.1 203 (8 * t + j), 0] else m_rem M i cn
def m_dl4 (M : tk_M) (i cn t j ec : Nat) (mm g : Int32) : tk_M := if M.1 194 t = 0 then m_rem M i cn else m_ctd (m_rem M i cn) (cn - 1) t j ec mm g
def m_lrn (M : tk_M) (k : Nat) (kn : Int32) : tk_M := if M.1 200 k = 3 ∧ M.1 202 k ≤ kn then m_ovr (wI M 199 k kn) k else wI M 199 k kn
def m_dl5 (M : tk_M) (i cn t j : Nat) (mm : Int32) : tk_M := if M.1 193 t = 0 then m_rem M i cn else m_lrn (m_rem M i cn) (8 * t + j) (if M.1 199 (8 * t + j) < mm then mm else M.1 199 (8 * t + j))
set_option maxHeartbeats 4000000 in
set_option maxRecDepth 100000 in
theorem n_M_deliver {l : Launch} {E : tk_E} {M : tk_M} {cn : Nat} {x : Int32} (hz0 : M.1 172 0 = 0) (hM : M.1 172 38 = nI cn) (hc : cn ≤ 60) (hb : ¬ (¬ x < 0 ∧ x < nI cn)) : tk_Mt l y_M_deliver b_M_deliver 12 (some .int) 12 E [.ref (E.1 + 172), .int (x)] M M (some (.int (-1))) := by
  refine tk_ofV (by decide +kernel) [some (.ref (E.1 + 172)), some (.int (x)), none, none, none, none, none, none, none, none, none, none] rfl (Nat.le_of_ble_eq_true rfl) ?_
  intro p e s m args below meth c cx hB
  refine v_aload_n cx (tk_dc d_M_deliver 0 rfl) rfl ?_
  refine v_iconst cx (tk_dc d_M_deliver 1 rfl) (0) (by decide) ?_
  refine v_putI cx (tk_dc d_M_deliver 2 rfl) f_M_120 o_M (by decide) (by rfl) ⟨rfl, rfl⟩ ?_
  refine v_eqM (cz_id hz0) ?_
  refine v_iload_n cx (tk_dc d_M_deliver 3 rfl) rfl ?_
  refine v_if_lt cx (tk_dc d_M_deliver 4 rfl) 17 (by decide) (fun h6 => ?_) (fun h6 => ?_)
  · refine v_iconst cx (tk_dc d_M_deliver 9 rfl) (-1) (by decide) ?_
    exact v_iret cx hB (tk_dc d_M_deliver 10 rfl) (rfl) (rfl)
  · refine v_iload_n cx (tk_dc d_M_deliver 5 rfl) rfl ?_
    refine v_aload_n cx (tk_dc d_M_deliver 6 rfl) rfl ?_
    refine v_getI cx (tk_dc d_M_deliver 7 rfl) f_M_221 o_M (by decide) (by rfl) ?_
    refine v_eqi (nI cn) (hM) ?_
    refine v_icmp_lt cx (tk_dc d_M_deliver 8 rfl) 19 (by decide) (fun h14 => ?_) (fun h14 => ?_)
    · exact absurd ⟨h6, h14⟩ hb
    · refine v_iconst cx (tk_dc d_M_deliver 9 rfl) (-1) (by decide) ?_
      exact v_iret cx hB (tk_dc d_M_deliver 10 rfl) (rfl) (rfl)

set_option maxHeartbeats 4000000 in
set_option maxRecDepth 100000 in
theorem c_M_deliver0 {l : Launch} {E : tk_E} {M : tk_M} {cn i f t j : Nat} {b mm g ab : Int32} {q : Nat} (hz0 : M.1 172 0 = 0) (hM : M.1 172 38 = nI cn) (hc : cn ≤ 60) (hi : i < cn) (hl0 : M.1 208 (8 * i) = nI 0) (hl1 : M.1 208 (8 * i + 1) = nI f) (hl2 : M.1 208 (8 * i + 2) = nI t) (hl3 : M.1 208 (8 * i + 3) = nI j) (hl4 : M.1 208 (8 * i + 4) = b) (hl5 : M.1 208 (8 * i + 5) = mm) (hl6 : M.1 208 (8 * i + 6) = g) (hl7 : M.1 208 (8 * i + 7) = ab) (ht : t < 3) (hj : j < 8) (hq : q ≤ 100000) (hqb : M.1 196 (8 * t + j) = nI q) : tk_Mt l y_M_deliver b_M_deliver 12 (some .int) 12 E [.ref (E.1 + 172), .int (nI i)] M (m_dl0 M i cn f t j b) (some (.int (nI 0))) := by
  refine tk_ofV (by decide +kernel) [some (.ref (E.1 + 172)), some (.int (nI i)), none, none, none, none, none, none, none, none, none, none] rfl (Nat.le_of_ble_eq_true rfl) ?_
  intro p e s m args below meth c cx hB
  refine v_aload_n cx (tk_dc d_M_deliver 0 rfl) rfl ?_
  refine v_iconst cx (tk_dc d_M_deliver 1 rfl) (0) (by decide) ?_
  refine v_putI cx (tk_dc d_M_deliver 2 rfl) f_M_120 o_M (by decide) (by rfl) ⟨rfl, rfl⟩ ?_
  refine v_eqM (cz_id hz0) ?_
  refine v_iload_n cx (tk_dc d_M_deliver 3 rfl) rfl ?_
  refine v_if_lt cx (tk_dc d_M_deliver 4 rfl) 17 (by decide) (fun h => absurd h (nI_pos (by omega))) (fun _ => ?_)
  refine v_iload_n cx (tk_dc d_M_deliver 5 rfl) rfl ?_
  refine v_aload_n cx (tk_dc d_M_deliver 6 rfl) rfl ?_
  refine v_getI cx (tk_dc d_M_deliver 7 rfl) f_M_221 o_M (by decide) (by rfl) ?_
  refine v_eqi (nI cn) (hM) ?_
  refine v_icmp_lt cx (tk_dc d_M_deliver 8 rfl) 19 (by decide) (fun _ => ?_) (fun h => absurd (nI_lt hi (by omega)) h)
  refine v_bipush cx (tk_dc d_M_deliver 11 rfl) (8) (by decide) ?_
  refine v_iload_n cx (tk_dc d_M_deliver 12 rfl) rfl ?_
  refine v_imul cx (tk_dc d_M_deliver 13 rfl) ?_
  refine v_eqi (nI (8 * i)) (by rw [show (8 : Int32) = nI 8 from rfl, pk_mul]) ?_
  refine v_istore_n (lo' := [_, _, _, _, _, _, _, _, _, _, _, _]) cx (tk_dc d_M_deliver 14 rfl) (by decide) rfl ?_
  refine v_aload_n cx (tk_dc d_M_deliver 15 rfl) rfl ?_
  refine v_getC cx 208 (tk_dc d_M_deliver 16 rfl) f_M_117 o_M (by decide) (by rfl) ?_
  refine v_iload_n cx (tk_dc d_M_deliver 17 rfl) rfl ?_
  refine w_iald cx (tk_dc d_M_deliver 18 rfl) a_208 (8 * i) (rfl) (by omega) (by decide) ?_
  refine v_eqi (nI 0) (hl0) ?_
  refine v_istore_n (lo' := [_, _, _, _, _, _, _, _, _, _, _, _]) cx (tk_dc d_M_deliver 19 rfl) (by decide) rfl ?_
  refine v_aload_n cx (tk_dc d_M_deliver 20 rfl) rfl ?_
  refine v_getC cx 208 (tk_dc d_M_deliver 21 rfl) f_M_117 o_M (by decide) (by rfl) ?_
  refine v_iload_n cx (tk_dc d_M_deliver 22 rfl) rfl ?_
  refine v_iconst cx (tk_dc d_M_deliver 23 rfl) (1) (by decide) ?_
  refine v_iadd cx (tk_dc d_M_deliver 24 rfl) ?_
  refine w_iald cx (tk_dc d_M_deliver 25 rfl) a_208 (8 * i + 1) (by rw [show (1 : Int32) = nI 1 from rfl, nI_add]) (by omega) (by decide) ?_
  refine v_eqi (nI f) (hl1) ?_
  refine v_istore (lo' := [_, _, _, _, _, _, _, _, _, _, _, _]) cx (tk_dc d_M_deliver 26 rfl) (by decide) rfl ?_
  refine v_aload_n cx (tk_dc d_M_deliver 27 rfl) rfl ?_
  refine v_getC cx 208 (tk_dc d_M_deliver 28 rfl) f_M_117 o_M (by decide) (by rfl) ?_
  refine v_iload_n cx (tk_dc d_M_deliver 29 rfl) rfl ?_
  refine v_iconst cx (tk_dc d_M_deliver 30 rfl) (2) (by decide) ?_
  refine v_iadd cx (tk_dc d_M_deliver 31 rfl) ?_
  refine w_iald cx (tk_dc d_M_deliver 32 rfl) a_208 (8 * i + 2) (by rw [show (2 : Int32) = nI 2 from rfl, nI_add]) (by omega) (by decide) ?_
  refine v_eqi (nI t) (hl2) ?_
  refine v_istore (lo' := [_, _, _, _, _, _, _, _, _, _, _, _]) cx (tk_dc d_M_deliver 33 rfl) (by decide) rfl ?_
  refine v_aload_n cx (tk_dc d_M_deliver 34 rfl) rfl ?_
  refine v_getC cx 208 (tk_dc d_M_deliver 35 rfl) f_M_117 o_M (by decide) (by rfl) ?_
  refine v_iload_n cx (tk_dc d_M_deliver 36 rfl) rfl ?_
  refine v_iconst cx (tk_dc d_M_deliver 37 rfl) (3) (by decide) ?_
  refine v_iadd cx (tk_dc d_M_deliver 38 rfl) ?_
  refine w_iald cx (tk_dc d_M_deliver 39 rfl) a_208 (8 * i + 3) (by rw [show (3 : Int32) = nI 3 from rfl, nI_add]) (by omega) (by decide) ?_
  refine v_eqi (nI j) (hl3) ?_
  refine v_istore (lo' := [_, _, _, _, _, _, _, _, _, _, _, _]) cx (tk_dc d_M_deliver 40 rfl) (by decide) rfl ?_
  refine v_aload_n cx (tk_dc d_M_deliver 41 rfl) rfl ?_
  refine v_getC cx 208 (tk_dc d_M_deliver 42 rfl) f_M_117 o_M (by decide) (by rfl) ?_
  refine v_iload_n cx (tk_dc d_M_deliver 43 rfl) rfl ?_
  refine v_iconst cx (tk_dc d_M_deliver 44 rfl) (4) (by decide) ?_
  refine v_iadd cx (tk_dc d_M_deliver 45 rfl) ?_
  refine w_iald cx (tk_dc d_M_deliver 46 rfl) a_208 (8 * i + 4) (by rw [show (4 : Int32) = nI 4 from rfl, nI_add]) (by omega) (by decide) ?_
  refine v_eqi (b) (hl4) ?_
  refine v_istore (lo' := [_, _, _, _, _, _, _, _, _, _, _, _]) cx (tk_dc d_M_deliver 47 rfl) (by decide) rfl ?_
  refine v_aload_n cx (tk_dc d_M_deliver 48 rfl) rfl ?_
  refine v_getC cx 208 (tk_dc d_M_deliver 49 rfl) f_M_117 o_M (by decide) (by rfl) ?_
  refine v_iload_n cx (tk_dc d_M_deliver 50 rfl) rfl ?_
  refine v_iconst cx (tk_dc d_M_deliver 51 rfl) (5) (by decide) ?_
  refine v_iadd cx (tk_dc d_M_deliver 52 rfl) ?_
  refine w_iald cx (tk_dc d_M_deliver 53 rfl) a_208 (8 * i + 5) (by rw [show (5 : Int32) = nI 5 from rfl, nI_add]) (by omega) (by decide) ?_
  refine v_eqi (mm) (hl5) ?_
  refine v_istore (lo' := [_, _, _, _, _, _, _, _, _, _, _, _]) cx (tk_dc d_M_deliver 54 rfl) (by decide) rfl ?_
  refine v_aload_n cx (tk_dc d_M_deliver 55 rfl) rfl ?_
  refine v_getC cx 208 (tk_dc d_M_deliver 56 rfl) f_M_117 o_M (by decide) (by rfl) ?_
  refine v_iload_n cx (tk_dc d_M_deliver 57 rfl) rfl ?_
  refine v_bipush cx (tk_dc d_M_deliver 58 rfl) (6) (by decide) ?_
  refine v_iadd cx (tk_dc d_M_deliver 59 rfl) ?_
  refine w_iald cx (tk_dc d_M_deliver 60 rfl) a_208 (8 * i + 6) (by rw [show (6 : Int32) = nI 6 from rfl, nI_add]) (by omega) (by decide) ?_
  refine v_eqi (g) (hl6) ?_
  refine v_istore (lo' := [_, _, _, _, _, _, _, _, _, _, _, _]) cx (tk_dc d_M_deliver 61 rfl) (by decide) rfl ?_
  refine v_aload_n cx (tk_dc d_M_deliver 62 rfl) rfl ?_
  refine v_getC cx 208 (tk_dc d_M_deliver 63 rfl) f_M_117 o_M (by decide) (by rfl) ?_
  refine v_iload_n cx (tk_dc d_M_deliver 64 rfl) rfl ?_
  refine v_bipush cx (tk_dc d_M_deliver 65 rfl) (7) (by decide) ?_
  refine v_iadd cx (tk_dc d_M_deliver 66 rfl) ?_
  refine w_iald cx (tk_dc d_M_deliver 67 rfl) a_208 (8 * i + 7) (by rw [show (7 : Int32) = nI 7 from rfl, nI_add]) (by omega) (by decide) ?_
  refine v_eqi (ab) (hl7) ?_
  refine v_istore (lo' := [_, _, _, _, _, _, _, _, _, _, _, _]) cx (tk_dc d_M_deliver 68 rfl) (by decide) rfl ?_
  refine v_aload_n cx (tk_dc d_M_deliver 69 rfl) rfl ?_
  refine v_iload_n cx (tk_dc d_M_deliver 70 rfl) rfl ?_
  refine v_callV (rest := _) cx (tk_dc d_M_deliver 71 rfl) m_M_242 kn_M_remove kv_M_remove k_M_remove o_M (by decide) rfl (c_M_remove hc hi hM) rfl rfl (Nat.le_of_ble_eq_true rfl) (by decide) ?_
  refine v_iload_n cx (tk_dc d_M_deliver 72 rfl) rfl ?_
  refine v_iconst cx (tk_dc d_M_deliver 73 rfl) (4) (by decide) ?_
  refine v_icmp_ne cx (tk_dc d_M_deliver 74 rfl) 137 (by decide) (fun _ => ?_) (fun h => absurd h (by decide))
  refine v_aload_n cx (tk_dc d_M_deliver 88 rfl) rfl ?_
  refine v_getC cx 193 (tk_dc d_M_deliver 89 rfl) f_M_72 o_M (by decide) (by rfl) ?_
  refine v_iload cx (tk_dc d_M_deliver 90 rfl) rfl ?_
  refine w_zald cx (tk_dc d_M_deliver 91 rfl) a_193 t (rfl) (by omega) (by decide) ?_
  refine v_eqi (M.1 193 t) (m_rem_at (by omega) (by omega)) ?_
  refine v_if_ne cx (tk_dc d_M_deliver 92 rfl) 149 (by decide) (fun h144 => ?_) (fun h144 => ?_)
  · have g144 : ¬ M.1 193 t = 0 := h144
    refine v_bipush cx (tk_dc d_M_deliver 95 rfl) (8) (by decide) ?_
    refine v_iload cx (tk_dc d_M_deliver 96 rfl) rfl ?_
    refine v_imul cx (tk_dc d_M_deliver 97 rfl) ?_
    refine v_iload cx (tk_dc d_M_deliver 98 rfl) rfl ?_
    refine v_iadd cx (tk_dc d_M_deliver 99 rfl) ?_
    refine v_eqi (nI (8 * t + j)) (by rw [show (8 : Int32) = nI 8 from rfl, pk_mul, nI_add]) ?_
    refine v_istore (lo' := [_, _, _, _, _, _, _, _, _, _, _, _]) cx (tk_dc d_M_deliver 100 rfl) (by decide) rfl ?_
    refine v_iload_n cx (tk_dc d_M_deliver 101 rfl) rfl ?_
    refine v_if_ne cx (tk_dc d_M_deliver 102 rfl) 225 (by decide) (fun h => absurd (rfl) h) (fun _ => ?_)
    refine v_aload_n cx (tk_dc d_M_deliver 103 rfl) rfl ?_
    refine v_getC cx 195 (tk_dc d_M_deliver 104 rfl) f_M_78 o_M (by decide) (by rfl) ?_
    refine v_iload cx (tk_dc d_M_deliver 105 rfl) rfl ?_
    refine w_iald cx (tk_dc d_M_deliver 106 rfl) a_195 (8 * t + j) (rfl) (by omega) (by decide) ?_
    refine v_eqi (M.1 195 (8 * t + j)) (m_rem_at (by omega) (by omega)) ?_
    refine v_iload cx (tk_dc d_M_deliver 107 rfl) rfl ?_
    refine v_icmp_gt cx (tk_dc d_M_deliver 108 rfl) 225 (by decide) (fun h172 => ?_) (fun h172 => ?_)
    · have g172 : ¬ M.1 195 (8 * t + j) ≤ b := Int32.not_le.mpr h172
      refine v_iload_n cx (tk_dc d_M_deliver 137 rfl) rfl ?_
      refine v_iconst cx (tk_dc d_M_deliver 138 rfl) (1) (by decide) ?_
      refine v_icmp_ne cx (tk_dc d_M_deliver 139 rfl) 249 (by decide) (fun _ => ?_) (fun h => absurd h (by decide))
      refine v_iload_n cx (tk_dc d_M_deliver 149 rfl) rfl ?_
      refine v_iconst cx (tk_dc d_M_deliver 150 rfl) (2) (by decide) ?_
      refine v_icmp_ne cx (tk_dc d_M_deliver 151 rfl) 320 (by decide) (fun _ => ?_) (fun h => absurd h (by decide))
      refine v_iload_n cx (tk_dc d_M_deliver 188 rfl) rfl ?_
      refine v_iconst cx (tk_dc d_M_deliver 189 rfl) (3) (by decide) ?_
      refine v_icmp_ne cx (tk_dc d_M_deliver 190 rfl) 387 (by decide) (fun _ => ?_) (fun h => absurd h (by decide))
      refine v_iload_n cx (tk_dc d_M_deliver 226 rfl) rfl ?_
      refine v_iconst cx (tk_dc d_M_deliver 227 rfl) (5) (by decide) ?_
      refine v_icmp_ne cx (tk_dc d_M_deliver 228 rfl) 457 (by decide) (fun _ => ?_) (fun h => absurd h (by decide))
      refine v_iload_n cx (tk_dc d_M_deliver 263 rfl) rfl ?_
      exact v_iret cx hB (tk_dc d_M_deliver 264 rfl) (rfl) (by unfold m_dl0; rw [if_neg g144, if_neg g172])
    · have g172 : M.1 195 (8 * t + j) ≤ b := Int32.not_lt.mp h172
      refine v_aload_n cx (tk_dc d_M_deliver 109 rfl) rfl ?_
      refine v_getC cx 195 (tk_dc d_M_deliver 110 rfl) f_M_78 o_M (by decide) (by rfl) ?_
      refine v_iload cx (tk_dc d_M_deliver 111 rfl) rfl ?_
      refine v_iload cx (tk_dc d_M_deliver 112 rfl) rfl ?_
      refine w_iast cx (tk_dc d_M_deliver 113 rfl) a_195 (8 * t + j) (rfl) (by omega) (by decide) ?_
      refine v_aload_n cx (tk_dc d_M_deliver 114 rfl) rfl ?_
      refine v_iconst cx (tk_dc d_M_deliver 115 rfl) (1) (by decide) ?_
      refine v_bipush cx (tk_dc d_M_deliver 116 rfl) (10) (by decide) ?_
      refine v_aload_n cx (tk_dc d_M_deliver 117 rfl) rfl ?_
      refine v_getC cx 196 (tk_dc d_M_deliver 118 rfl) f_M_81 o_M (by decide) (by rfl) ?_
      refine v_iload cx (tk_dc d_M_deliver 119 rfl) rfl ?_
      refine w_iald cx (tk_dc d_M_deliver 120 rfl) a_196 (8 * t + j) (rfl) (by omega) (by decide) ?_
      refine v_eqi (nI q) (by rw [wI_ne (by omega), m_rem_at (by omega) (by omega)]; exact hqb) ?_
      refine v_imul cx (tk_dc d_M_deliver 121 rfl) ?_
      refine v_iadd cx (tk_dc d_M_deliver 122 rfl) ?_
      refine v_eqi (nI (1 + 10 * q)) (by rw [show (10 : Int32) = nI 10 from rfl, pk_mul, show (1 : Int32) = nI 1 from rfl, nI_add]) ?_
      refine v_iload cx (tk_dc d_M_deliver 123 rfl) rfl ?_
      refine v_iload cx (tk_dc d_M_deliver 124 rfl) rfl ?_
      refine v_iload cx (tk_dc d_M_deliver 125 rfl) rfl ?_
      refine v_iload cx (tk_dc d_M_deliver 126 rfl) rfl ?_
      refine v_aload_n cx (tk_dc d_M_deliver 127 rfl) rfl ?_
      refine v_getC cx 197 (tk_dc d_M_deliver 128 rfl) f_M_84 o_M (by decide) (by rfl) ?_
      refine v_iload cx (tk_dc d_M_deliver 129 rfl) rfl ?_
      refine w_iald cx (tk_dc d_M_deliver 130 rfl) a_197 (8 * t + j) (rfl) (by omega) (by decide) ?_
      refine v_eqi (M.1 197 (8 * t + j)) (by rw [wI_ne (by omega)]; exact m_rem_at (by omega) (by omega)) ?_
      refine v_aload_n cx (tk_dc d_M_deliver 131 rfl) rfl ?_
      refine v_getC cx 198 (tk_dc d_M_deliver 132 rfl) f_M_87 o_M (by decide) (by rfl) ?_
      refine v_iload cx (tk_dc d_M_deliver 133 rfl) rfl ?_
      refine w_iald cx (tk_dc d_M_deliver 134 rfl) a_198 (8 * t + j) (rfl) (by omega) (by decide) ?_
      refine v_eqi (M.1 198 (8 * t + j)) (by rw [wI_ne (by omega)]; exact m_rem_at (by omega) (by omega)) ?_
      refine v_callV (rest := _) cx (tk_dc d_M_deliver 135 rfl) m_M_224 kn_M_send kv_M_send k_M_send o_M (by decide) rfl (c_M_send (cn := cn - 1) (k := 1) (ab := q) (by omega) (by rw [wI_ne (by omega)]; exact m_rem_c) (by decide) (by omega)) rfl rfl (Nat.le_of_ble_eq_true rfl) (by decide) ?_
      refine v_goto cx (tk_dc d_M_deliver 136 rfl) 457 (by decide) ?_
      refine v_iload_n cx (tk_dc d_M_deliver 263 rfl) rfl ?_
      exact v_iret cx hB (tk_dc d_M_deliver 264 rfl) (rfl) (by unfold m_dl0; rw [if_neg g144, if_pos g172]; rw [hqb])
  · have g144 : M.1 193 t = 0 := h144
    refine v_iload_n cx (tk_dc d_M_deliver 93 rfl) rfl ?_
    exact v_iret cx hB (tk_dc d_M_deliver 94 rfl) (rfl) (by unfold m_dl0; rw [if_pos g144])

set_option maxHeartbeats 4000000 in
set_option maxRecDepth 100000 in
theorem c_M_deliver2 {l : Launch} {E : tk_E} {M : tk_M} {cn i f t j : Nat} {b mm g ab : Int32}  (hz0 : M.1 172 0 = 0) (hM : M.1 172 38 = nI cn) (hc : cn ≤ 60) (hi : i < cn) (hl0 : M.1 208 (8 * i) = nI 2) (hl1 : M.1 208 (8 * i + 1) = nI f) (hl2 : M.1 208 (8 * i + 2) = nI t) (hl3 : M.1 208 (8 * i + 3) = nI j) (hl4 : M.1 208 (8 * i + 4) = b) (hl5 : M.1 208 (8 * i + 5) = mm) (hl6 : M.1 208 (8 * i + 6) = g) (hl7 : M.1 208 (8 * i + 7) = ab) (ht : t < 3) (hj : j < 8)  : tk_Mt l y_M_deliver b_M_deliver 12 (some .int) 12 E [.ref (E.1 + 172), .int (nI i)] M (m_dl2 M i cn f t j b mm g) (some (.int (nI 2))) := by
  refine tk_ofV (by decide +kernel) [some (.ref (E.1 + 172)), some (.int (nI i)), none, none, none, none, none, none, none, none, none, none] rfl (Nat.le_of_ble_eq_true rfl) ?_
  intro p e s m args below meth c cx hB
  refine v_aload_n cx (tk_dc d_M_deliver 0 rfl) rfl ?_
  refine v_iconst cx (tk_dc d_M_deliver 1 rfl) (0) (by decide) ?_
  refine v_putI cx (tk_dc d_M_deliver 2 rfl) f_M_120 o_M (by decide) (by rfl) ⟨rfl, rfl⟩ ?_
  refine v_eqM (cz_id hz0) ?_
  refine v_iload_n cx (tk_dc d_M_deliver 3 rfl) rfl ?_
  refine v_if_lt cx (tk_dc d_M_deliver 4 rfl) 17 (by decide) (fun h => absurd h (nI_pos (by omega))) (fun _ => ?_)
  refine v_iload_n cx (tk_dc d_M_deliver 5 rfl) rfl ?_
  refine v_aload_n cx (tk_dc d_M_deliver 6 rfl) rfl ?_
  refine v_getI cx (tk_dc d_M_deliver 7 rfl) f_M_221 o_M (by decide) (by rfl) ?_
  refine v_eqi (nI cn) (hM) ?_
  refine v_icmp_lt cx (tk_dc d_M_deliver 8 rfl) 19 (by decide) (fun _ => ?_) (fun h => absurd (nI_lt hi (by omega)) h)
  refine v_bipush cx (tk_dc d_M_deliver 11 rfl) (8) (by decide) ?_
  refine v_iload_n cx (tk_dc d_M_deliver 12 rfl) rfl ?_
  refine v_imul cx (tk_dc d_M_deliver 13 rfl) ?_
  refine v_eqi (nI (8 * i)) (by rw [show (8 : Int32) = nI 8 from rfl, pk_mul]) ?_
  refine v_istore_n (lo' := [_, _, _, _, _, _, _, _, _, _, _, _]) cx (tk_dc d_M_deliver 14 rfl) (by decide) rfl ?_
  refine v_aload_n cx (tk_dc d_M_deliver 15 rfl) rfl ?_
  refine v_getC cx 208 (tk_dc d_M_deliver 16 rfl) f_M_117 o_M (by decide) (by rfl) ?_
  refine v_iload_n cx (tk_dc d_M_deliver 17 rfl) rfl ?_
  refine w_iald cx (tk_dc d_M_deliver 18 rfl) a_208 (8 * i) (rfl) (by omega) (by decide) ?_
  refine v_eqi (nI 2) (hl0) ?_
  refine v_istore_n (lo' := [_, _, _, _, _, _, _, _, _, _, _, _]) cx (tk_dc d_M_deliver 19 rfl) (by decide) rfl ?_
  refine v_aload_n cx (tk_dc d_M_deliver 20 rfl) rfl ?_
  refine v_getC cx 208 (tk_dc d_M_deliver 21 rfl) f_M_117 o_M (by decide) (by rfl) ?_
  refine v_iload_n cx (tk_dc d_M_deliver 22 rfl) rfl ?_
  refine v_iconst cx (tk_dc d_M_deliver 23 rfl) (1) (by decide) ?_
  refine v_iadd cx (tk_dc d_M_deliver 24 rfl) ?_
  refine w_iald cx (tk_dc d_M_deliver 25 rfl) a_208 (8 * i + 1) (by rw [show (1 : Int32) = nI 1 from rfl, nI_add]) (by omega) (by decide) ?_
  refine v_eqi (nI f) (hl1) ?_
  refine v_istore (lo' := [_, _, _, _, _, _, _, _, _, _, _, _]) cx (tk_dc d_M_deliver 26 rfl) (by decide) rfl ?_
  refine v_aload_n cx (tk_dc d_M_deliver 27 rfl) rfl ?_
  refine v_getC cx 208 (tk_dc d_M_deliver 28 rfl) f_M_117 o_M (by decide) (by rfl) ?_
  refine v_iload_n cx (tk_dc d_M_deliver 29 rfl) rfl ?_
  refine v_iconst cx (tk_dc d_M_deliver 30 rfl) (2) (by decide) ?_
  refine v_iadd cx (tk_dc d_M_deliver 31 rfl) ?_
  refine w_iald cx (tk_dc d_M_deliver 32 rfl) a_208 (8 * i + 2) (by rw [show (2 : Int32) = nI 2 from rfl, nI_add]) (by omega) (by decide) ?_
  refine v_eqi (nI t) (hl2) ?_
  refine v_istore (lo' := [_, _, _, _, _, _, _, _, _, _, _, _]) cx (tk_dc d_M_deliver 33 rfl) (by decide) rfl ?_
  refine v_aload_n cx (tk_dc d_M_deliver 34 rfl) rfl ?_
  refine v_getC cx 208 (tk_dc d_M_deliver 35 rfl) f_M_117 o_M (by decide) (by rfl) ?_
  refine v_iload_n cx (tk_dc d_M_deliver 36 rfl) rfl ?_
  refine v_iconst cx (tk_dc d_M_deliver 37 rfl) (3) (by decide) ?_
  refine v_iadd cx (tk_dc d_M_deliver 38 rfl) ?_
  refine w_iald cx (tk_dc d_M_deliver 39 rfl) a_208 (8 * i + 3) (by rw [show (3 : Int32) = nI 3 from rfl, nI_add]) (by omega) (by decide) ?_
  refine v_eqi (nI j) (hl3) ?_
  refine v_istore (lo' := [_, _, _, _, _, _, _, _, _, _, _, _]) cx (tk_dc d_M_deliver 40 rfl) (by decide) rfl ?_
  refine v_aload_n cx (tk_dc d_M_deliver 41 rfl) rfl ?_
  refine v_getC cx 208 (tk_dc d_M_deliver 42 rfl) f_M_117 o_M (by decide) (by rfl) ?_
  refine v_iload_n cx (tk_dc d_M_deliver 43 rfl) rfl ?_
  refine v_iconst cx (tk_dc d_M_deliver 44 rfl) (4) (by decide) ?_
  refine v_iadd cx (tk_dc d_M_deliver 45 rfl) ?_
  refine w_iald cx (tk_dc d_M_deliver 46 rfl) a_208 (8 * i + 4) (by rw [show (4 : Int32) = nI 4 from rfl, nI_add]) (by omega) (by decide) ?_
  refine v_eqi (b) (hl4) ?_
  refine v_istore (lo' := [_, _, _, _, _, _, _, _, _, _, _, _]) cx (tk_dc d_M_deliver 47 rfl) (by decide) rfl ?_
  refine v_aload_n cx (tk_dc d_M_deliver 48 rfl) rfl ?_
  refine v_getC cx 208 (tk_dc d_M_deliver 49 rfl) f_M_117 o_M (by decide) (by rfl) ?_
  refine v_iload_n cx (tk_dc d_M_deliver 50 rfl) rfl ?_
  refine v_iconst cx (tk_dc d_M_deliver 51 rfl) (5) (by decide) ?_
  refine v_iadd cx (tk_dc d_M_deliver 52 rfl) ?_
  refine w_iald cx (tk_dc d_M_deliver 53 rfl) a_208 (8 * i + 5) (by rw [show (5 : Int32) = nI 5 from rfl, nI_add]) (by omega) (by decide) ?_
  refine v_eqi (mm) (hl5) ?_
  refine v_istore (lo' := [_, _, _, _, _, _, _, _, _, _, _, _]) cx (tk_dc d_M_deliver 54 rfl) (by decide) rfl ?_
  refine v_aload_n cx (tk_dc d_M_deliver 55 rfl) rfl ?_
  refine v_getC cx 208 (tk_dc d_M_deliver 56 rfl) f_M_117 o_M (by decide) (by rfl) ?_
  refine v_iload_n cx (tk_dc d_M_deliver 57 rfl) rfl ?_
  refine v_bipush cx (tk_dc d_M_deliver 58 rfl) (6) (by decide) ?_
  refine v_iadd cx (tk_dc d_M_deliver 59 rfl) ?_
  refine w_iald cx (tk_dc d_M_deliver 60 rfl) a_208 (8 * i + 6) (by rw [show (6 : Int32) = nI 6 from rfl, nI_add]) (by omega) (by decide) ?_
  refine v_eqi (g) (hl6) ?_
  refine v_istore (lo' := [_, _, _, _, _, _, _, _, _, _, _, _]) cx (tk_dc d_M_deliver 61 rfl) (by decide) rfl ?_
  refine v_aload_n cx (tk_dc d_M_deliver 62 rfl) rfl ?_
  refine v_getC cx 208 (tk_dc d_M_deliver 63 rfl) f_M_117 o_M (by decide) (by rfl) ?_
  refine v_iload_n cx (tk_dc d_M_deliver 64 rfl) rfl ?_
  refine v_bipush cx (tk_dc d_M_deliver 65 rfl) (7) (by decide) ?_
  refine v_iadd cx (tk_dc d_M_deliver 66 rfl) ?_
  refine w_iald cx (tk_dc d_M_deliver 67 rfl) a_208 (8 * i + 7) (by rw [show (7 : Int32) = nI 7 from rfl, nI_add]) (by omega) (by decide) ?_
  refine v_eqi (ab) (hl7) ?_
  refine v_istore (lo' := [_, _, _, _, _, _, _, _, _, _, _, _]) cx (tk_dc d_M_deliver 68 rfl) (by decide) rfl ?_
  refine v_aload_n cx (tk_dc d_M_deliver 69 rfl) rfl ?_
  refine v_iload_n cx (tk_dc d_M_deliver 70 rfl) rfl ?_
  refine v_callV (rest := _) cx (tk_dc d_M_deliver 71 rfl) m_M_242 kn_M_remove kv_M_remove k_M_remove o_M (by decide) rfl (c_M_remove hc hi hM) rfl rfl (Nat.le_of_ble_eq_true rfl) (by decide) ?_
  refine v_iload_n cx (tk_dc d_M_deliver 72 rfl) rfl ?_
  refine v_iconst cx (tk_dc d_M_deliver 73 rfl) (4) (by decide) ?_
  refine v_icmp_ne cx (tk_dc d_M_deliver 74 rfl) 137 (by decide) (fun _ => ?_) (fun h => absurd h (by decide))
  refine v_aload_n cx (tk_dc d_M_deliver 88 rfl) rfl ?_
  refine v_getC cx 193 (tk_dc d_M_deliver 89 rfl) f_M_72 o_M (by decide) (by rfl) ?_
  refine v_iload cx (tk_dc d_M_deliver 90 rfl) rfl ?_
  refine w_zald cx (tk_dc d_M_deliver 91 rfl) a_193 t (rfl) (by omega) (by decide) ?_
  refine v_eqi (M.1 193 t) (m_rem_at (by omega) (by omega)) ?_
  refine v_if_ne cx (tk_dc d_M_deliver 92 rfl) 149 (by decide) (fun h144 => ?_) (fun h144 => ?_)
  · have g144 : ¬ M.1 193 t = 0 := h144
    refine v_bipush cx (tk_dc d_M_deliver 95 rfl) (8) (by decide) ?_
    refine v_iload cx (tk_dc d_M_deliver 96 rfl) rfl ?_
    refine v_imul cx (tk_dc d_M_deliver 97 rfl) ?_
    refine v_iload cx (tk_dc d_M_deliver 98 rfl) rfl ?_
    refine v_iadd cx (tk_dc d_M_deliver 99 rfl) ?_
    refine v_eqi (nI (8 * t + j)) (by rw [show (8 : Int32) = nI 8 from rfl, pk_mul, nI_add]) ?_
    refine v_istore (lo' := [_, _, _, _, _, _, _, _, _, _, _, _]) cx (tk_dc d_M_deliver 100 rfl) (by decide) rfl ?_
    refine v_iload_n cx (tk_dc d_M_deliver 101 rfl) rfl ?_
    refine v_if_ne cx (tk_dc d_M_deliver 102 rfl) 225 (by decide) (fun _ => ?_) (fun h => absurd h (by decide))
    refine v_iload_n cx (tk_dc d_M_deliver 137 rfl) rfl ?_
    refine v_iconst cx (tk_dc d_M_deliver 138 rfl) (1) (by decide) ?_
    refine v_icmp_ne cx (tk_dc d_M_deliver 139 rfl) 249 (by decide) (fun _ => ?_) (fun h => absurd h (by decide))
    refine v_iload_n cx (tk_dc d_M_deliver 149 rfl) rfl ?_
    refine v_iconst cx (tk_dc d_M_deliver 150 rfl) (2) (by decide) ?_
    refine v_icmp_ne cx (tk_dc d_M_deliver 151 rfl) 320 (by decide) (fun h => absurd (rfl) h) (fun _ => ?_)
    refine v_aload_n cx (tk_dc d_M_deliver 152 rfl) rfl ?_
    refine v_getC cx 195 (tk_dc d_M_deliver 153 rfl) f_M_78 o_M (by decide) (by rfl) ?_
    refine v_iload cx (tk_dc d_M_deliver 154 rfl) rfl ?_
    refine w_iald cx (tk_dc d_M_deliver 155 rfl) a_195 (8 * t + j) (rfl) (by omega) (by decide) ?_
    refine v_eqi (M.1 195 (8 * t + j)) (m_rem_at (by omega) (by omega)) ?_
    refine v_iload cx (tk_dc d_M_deliver 156 rfl) rfl ?_
    refine v_icmp_gt cx (tk_dc d_M_deliver 157 rfl) 320 (by decide) (fun h263 => ?_) (fun h263 => ?_)
    · have g263 : ¬ M.1 195 (8 * t + j) ≤ b := Int32.not_le.mpr h263
      refine v_iload_n cx (tk_dc d_M_deliver 188 rfl) rfl ?_
      refine v_iconst cx (tk_dc d_M_deliver 189 rfl) (3) (by decide) ?_
      refine v_icmp_ne cx (tk_dc d_M_deliver 190 rfl) 387 (by decide) (fun _ => ?_) (fun h => absurd h (by decide))
      refine v_iload_n cx (tk_dc d_M_deliver 226 rfl) rfl ?_
      refine v_iconst cx (tk_dc d_M_deliver 227 rfl) (5) (by decide) ?_
      refine v_icmp_ne cx (tk_dc d_M_deliver 228 rfl) 457 (by decide) (fun _ => ?_) (fun h => absurd h (by decide))
      refine v_iload_n cx (tk_dc d_M_deliver 263 rfl) rfl ?_
      exact v_iret cx hB (tk_dc d_M_deliver 264 rfl) (rfl) (by unfold m_dl2; rw [if_neg g144, if_neg g263])
    · have g263 : M.1 195 (8 * t + j) ≤ b := Int32.not_lt.mp h263
      refine v_aload_n cx (tk_dc d_M_deliver 158 rfl) rfl ?_
      refine v_getC cx 195 (tk_dc d_M_deliver 159 rfl) f_M_78 o_M (by decide) (by rfl) ?_
      refine v_iload cx (tk_dc d_M_deliver 160 rfl) rfl ?_
      refine v_iload cx (tk_dc d_M_deliver 161 rfl) rfl ?_
      refine w_iast cx (tk_dc d_M_deliver 162 rfl) a_195 (8 * t + j) (rfl) (by omega) (by decide) ?_
      refine v_aload_n cx (tk_dc d_M_deliver 163 rfl) rfl ?_
      refine v_getC cx 196 (tk_dc d_M_deliver 164 rfl) f_M_81 o_M (by decide) (by rfl) ?_
      refine v_iload cx (tk_dc d_M_deliver 165 rfl) rfl ?_
      refine v_iload cx (tk_dc d_M_deliver 166 rfl) rfl ?_
      refine w_iast cx (tk_dc d_M_deliver 167 rfl) a_196 (8 * t + j) (rfl) (by omega) (by decide) ?_
      refine v_aload_n cx (tk_dc d_M_deliver 168 rfl) rfl ?_
      refine v_getC cx 197 (tk_dc d_M_deliver 169 rfl) f_M_84 o_M (by decide) (by rfl) ?_
      refine v_iload cx (tk_dc d_M_deliver 170 rfl) rfl ?_
      refine v_iload cx (tk_dc d_M_deliver 171 rfl) rfl ?_
      refine w_iast cx (tk_dc d_M_deliver 172 rfl) a_197 (8 * t + j) (rfl) (by omega) (by decide) ?_
      refine v_aload_n cx (tk_dc d_M_deliver 173 rfl) rfl ?_
      refine v_getC cx 198 (tk_dc d_M_deliver 174 rfl) f_M_87 o_M (by decide) (by rfl) ?_
      refine v_iload cx (tk_dc d_M_deliver 175 rfl) rfl ?_
      refine v_iload cx (tk_dc d_M_deliver 176 rfl) rfl ?_
      refine w_iast cx (tk_dc d_M_deliver 177 rfl) a_198 (8 * t + j) (rfl) (by omega) (by decide) ?_
      refine v_aload_n cx (tk_dc d_M_deliver 178 rfl) rfl ?_
      refine v_iconst cx (tk_dc d_M_deliver 179 rfl) (3) (by decide) ?_
      refine v_iload cx (tk_dc d_M_deliver 180 rfl) rfl ?_
      refine v_iload cx (tk_dc d_M_deliver 181 rfl) rfl ?_
      refine v_iload cx (tk_dc d_M_deliver 182 rfl) rfl ?_
      refine v_iload cx (tk_dc d_M_deliver 183 rfl) rfl ?_
      refine v_iconst cx (tk_dc d_M_deliver 184 rfl) (-1) (by decide) ?_
      refine v_iconst cx (tk_dc d_M_deliver 185 rfl) (0) (by decide) ?_
      refine v_callV (rest := _) cx (tk_dc d_M_deliver 186 rfl) m_M_224 kn_M_send kv_M_send k_M_send o_M (by decide) rfl (c_M_send (M := m_acc (m_rem M i cn) (8 * t + j) b mm g) (cn := cn - 1) (k := 3) (ab := 0) (by omega) (by unfold m_acc; rw [wI_ne (by omega), wI_ne (by omega), wI_ne (by omega), wI_ne (by omega)]; exact m_rem_c) (by decide) (by decide)) rfl rfl (Nat.le_of_ble_eq_true rfl) (by decide) ?_
      refine v_goto cx (tk_dc d_M_deliver 187 rfl) 457 (by decide) ?_
      refine v_iload_n cx (tk_dc d_M_deliver 263 rfl) rfl ?_
      exact v_iret cx hB (tk_dc d_M_deliver 264 rfl) (rfl) (by unfold m_dl2; rw [if_neg g144, if_pos g263]; rfl)
  · have g144 : M.1 193 t = 0 := h144
    refine v_iload_n cx (tk_dc d_M_deliver 93 rfl) rfl ?_
    exact v_iret cx hB (tk_dc d_M_deliver 94 rfl) (rfl) (by unfold m_dl2; rw [if_pos g144])

set_option maxHeartbeats 4000000 in
set_option maxRecDepth 100000 in
theorem c_M_deliver3 {l : Launch} {E : tk_E} {M : tk_M} {cn i f t j : Nat} {b mm g ab : Int32}  (hz0 : M.1 172 0 = 0) (hM : M.1 172 38 = nI cn) (hc : cn ≤ 60) (hi : i < cn) (hl0 : M.1 208 (8 * i) = nI 3) (hl1 : M.1 208 (8 * i + 1) = nI f) (hl2 : M.1 208 (8 * i + 2) = nI t) (hl3 : M.1 208 (8 * i + 3) = nI j) (hl4 : M.1 208 (8 * i + 4) = b) (hl5 : M.1 208 (8 * i + 5) = mm) (hl6 : M.1 208 (8 * i + 6) = g) (hl7 : M.1 208 (8 * i + 7) = ab) (ht : t < 3) (hj : j < 8)  : tk_Mt l y_M_deliver b_M_deliver 12 (some .int) 12 E [.ref (E.1 + 172), .int (nI i)] M (m_dl3 M i cn t j b) (some (.int (nI 3))) := by
  refine tk_ofV (by decide +kernel) [some (.ref (E.1 + 172)), some (.int (nI i)), none, none, none, none, none, none, none, none, none, none] rfl (Nat.le_of_ble_eq_true rfl) ?_
  intro p e s m args below meth c cx hB
  refine v_aload_n cx (tk_dc d_M_deliver 0 rfl) rfl ?_
  refine v_iconst cx (tk_dc d_M_deliver 1 rfl) (0) (by decide) ?_
  refine v_putI cx (tk_dc d_M_deliver 2 rfl) f_M_120 o_M (by decide) (by rfl) ⟨rfl, rfl⟩ ?_
  refine v_eqM (cz_id hz0) ?_
  refine v_iload_n cx (tk_dc d_M_deliver 3 rfl) rfl ?_
  refine v_if_lt cx (tk_dc d_M_deliver 4 rfl) 17 (by decide) (fun h => absurd h (nI_pos (by omega))) (fun _ => ?_)
  refine v_iload_n cx (tk_dc d_M_deliver 5 rfl) rfl ?_
  refine v_aload_n cx (tk_dc d_M_deliver 6 rfl) rfl ?_
  refine v_getI cx (tk_dc d_M_deliver 7 rfl) f_M_221 o_M (by decide) (by rfl) ?_
  refine v_eqi (nI cn) (hM) ?_
  refine v_icmp_lt cx (tk_dc d_M_deliver 8 rfl) 19 (by decide) (fun _ => ?_) (fun h => absurd (nI_lt hi (by omega)) h)
  refine v_bipush cx (tk_dc d_M_deliver 11 rfl) (8) (by decide) ?_
  refine v_iload_n cx (tk_dc d_M_deliver 12 rfl) rfl ?_
  refine v_imul cx (tk_dc d_M_deliver 13 rfl) ?_
  refine v_eqi (nI (8 * i)) (by rw [show (8 : Int32) = nI 8 from rfl, pk_mul]) ?_
  refine v_istore_n (lo' := [_, _, _, _, _, _, _, _, _, _, _, _]) cx (tk_dc d_M_deliver 14 rfl) (by decide) rfl ?_
  refine v_aload_n cx (tk_dc d_M_deliver 15 rfl) rfl ?_
  refine v_getC cx 208 (tk_dc d_M_deliver 16 rfl) f_M_117 o_M (by decide) (by rfl) ?_
  refine v_iload_n cx (tk_dc d_M_deliver 17 rfl) rfl ?_
  refine w_iald cx (tk_dc d_M_deliver 18 rfl) a_208 (8 * i) (rfl) (by omega) (by decide) ?_
  refine v_eqi (nI 3) (hl0) ?_
  refine v_istore_n (lo' := [_, _, _, _, _, _, _, _, _, _, _, _]) cx (tk_dc d_M_deliver 19 rfl) (by decide) rfl ?_
  refine v_aload_n cx (tk_dc d_M_deliver 20 rfl) rfl ?_
  refine v_getC cx 208 (tk_dc d_M_deliver 21 rfl) f_M_117 o_M (by decide) (by rfl) ?_
  refine v_iload_n cx (tk_dc d_M_deliver 22 rfl) rfl ?_
  refine v_iconst cx (tk_dc d_M_deliver 23 rfl) (1) (by decide) ?_
  refine v_iadd cx (tk_dc d_M_deliver 24 rfl) ?_
  refine w_iald cx (tk_dc d_M_deliver 25 rfl) a_208 (8 * i + 1) (by rw [show (1 : Int32) = nI 1 from rfl, nI_add]) (by omega) (by decide) ?_
  refine v_eqi (nI f) (hl1) ?_
  refine v_istore (lo' := [_, _, _, _, _, _, _, _, _, _, _, _]) cx (tk_dc d_M_deliver 26 rfl) (by decide) rfl ?_
  refine v_aload_n cx (tk_dc d_M_deliver 27 rfl) rfl ?_
  refine v_getC cx 208 (tk_dc d_M_deliver 28 rfl) f_M_117 o_M (by decide) (by rfl) ?_
  refine v_iload_n cx (tk_dc d_M_deliver 29 rfl) rfl ?_
  refine v_iconst cx (tk_dc d_M_deliver 30 rfl) (2) (by decide) ?_
  refine v_iadd cx (tk_dc d_M_deliver 31 rfl) ?_
  refine w_iald cx (tk_dc d_M_deliver 32 rfl) a_208 (8 * i + 2) (by rw [show (2 : Int32) = nI 2 from rfl, nI_add]) (by omega) (by decide) ?_
  refine v_eqi (nI t) (hl2) ?_
  refine v_istore (lo' := [_, _, _, _, _, _, _, _, _, _, _, _]) cx (tk_dc d_M_deliver 33 rfl) (by decide) rfl ?_
  refine v_aload_n cx (tk_dc d_M_deliver 34 rfl) rfl ?_
  refine v_getC cx 208 (tk_dc d_M_deliver 35 rfl) f_M_117 o_M (by decide) (by rfl) ?_
  refine v_iload_n cx (tk_dc d_M_deliver 36 rfl) rfl ?_
  refine v_iconst cx (tk_dc d_M_deliver 37 rfl) (3) (by decide) ?_
  refine v_iadd cx (tk_dc d_M_deliver 38 rfl) ?_
  refine w_iald cx (tk_dc d_M_deliver 39 rfl) a_208 (8 * i + 3) (by rw [show (3 : Int32) = nI 3 from rfl, nI_add]) (by omega) (by decide) ?_
  refine v_eqi (nI j) (hl3) ?_
  refine v_istore (lo' := [_, _, _, _, _, _, _, _, _, _, _, _]) cx (tk_dc d_M_deliver 40 rfl) (by decide) rfl ?_
  refine v_aload_n cx (tk_dc d_M_deliver 41 rfl) rfl ?_
  refine v_getC cx 208 (tk_dc d_M_deliver 42 rfl) f_M_117 o_M (by decide) (by rfl) ?_
  refine v_iload_n cx (tk_dc d_M_deliver 43 rfl) rfl ?_
  refine v_iconst cx (tk_dc d_M_deliver 44 rfl) (4) (by decide) ?_
  refine v_iadd cx (tk_dc d_M_deliver 45 rfl) ?_
  refine w_iald cx (tk_dc d_M_deliver 46 rfl) a_208 (8 * i + 4) (by rw [show (4 : Int32) = nI 4 from rfl, nI_add]) (by omega) (by decide) ?_
  refine v_eqi (b) (hl4) ?_
  refine v_istore (lo' := [_, _, _, _, _, _, _, _, _, _, _, _]) cx (tk_dc d_M_deliver 47 rfl) (by decide) rfl ?_
  refine v_aload_n cx (tk_dc d_M_deliver 48 rfl) rfl ?_
  refine v_getC cx 208 (tk_dc d_M_deliver 49 rfl) f_M_117 o_M (by decide) (by rfl) ?_
  refine v_iload_n cx (tk_dc d_M_deliver 50 rfl) rfl ?_
  refine v_iconst cx (tk_dc d_M_deliver 51 rfl) (5) (by decide) ?_
  refine v_iadd cx (tk_dc d_M_deliver 52 rfl) ?_
  refine w_iald cx (tk_dc d_M_deliver 53 rfl) a_208 (8 * i + 5) (by rw [show (5 : Int32) = nI 5 from rfl, nI_add]) (by omega) (by decide) ?_
  refine v_eqi (mm) (hl5) ?_
  refine v_istore (lo' := [_, _, _, _, _, _, _, _, _, _, _, _]) cx (tk_dc d_M_deliver 54 rfl) (by decide) rfl ?_
  refine v_aload_n cx (tk_dc d_M_deliver 55 rfl) rfl ?_
  refine v_getC cx 208 (tk_dc d_M_deliver 56 rfl) f_M_117 o_M (by decide) (by rfl) ?_
  refine v_iload_n cx (tk_dc d_M_deliver 57 rfl) rfl ?_
  refine v_bipush cx (tk_dc d_M_deliver 58 rfl) (6) (by decide) ?_
  refine v_iadd cx (tk_dc d_M_deliver 59 rfl) ?_
  refine w_iald cx (tk_dc d_M_deliver 60 rfl) a_208 (8 * i + 6) (by rw [show (6 : Int32) = nI 6 from rfl, nI_add]) (by omega) (by decide) ?_
  refine v_eqi (g) (hl6) ?_
  refine v_istore (lo' := [_, _, _, _, _, _, _, _, _, _, _, _]) cx (tk_dc d_M_deliver 61 rfl) (by decide) rfl ?_
  refine v_aload_n cx (tk_dc d_M_deliver 62 rfl) rfl ?_
  refine v_getC cx 208 (tk_dc d_M_deliver 63 rfl) f_M_117 o_M (by decide) (by rfl) ?_
  refine v_iload_n cx (tk_dc d_M_deliver 64 rfl) rfl ?_
  refine v_bipush cx (tk_dc d_M_deliver 65 rfl) (7) (by decide) ?_
  refine v_iadd cx (tk_dc d_M_deliver 66 rfl) ?_
  refine w_iald cx (tk_dc d_M_deliver 67 rfl) a_208 (8 * i + 7) (by rw [show (7 : Int32) = nI 7 from rfl, nI_add]) (by omega) (by decide) ?_
  refine v_eqi (ab) (hl7) ?_
  refine v_istore (lo' := [_, _, _, _, _, _, _, _, _, _, _, _]) cx (tk_dc d_M_deliver 68 rfl) (by decide) rfl ?_
  refine v_aload_n cx (tk_dc d_M_deliver 69 rfl) rfl ?_
  refine v_iload_n cx (tk_dc d_M_deliver 70 rfl) rfl ?_
  refine v_callV (rest := _) cx (tk_dc d_M_deliver 71 rfl) m_M_242 kn_M_remove kv_M_remove k_M_remove o_M (by decide) rfl (c_M_remove hc hi hM) rfl rfl (Nat.le_of_ble_eq_true rfl) (by decide) ?_
  refine v_iload_n cx (tk_dc d_M_deliver 72 rfl) rfl ?_
  refine v_iconst cx (tk_dc d_M_deliver 73 rfl) (4) (by decide) ?_
  refine v_icmp_ne cx (tk_dc d_M_deliver 74 rfl) 137 (by decide) (fun _ => ?_) (fun h => absurd h (by decide))
  refine v_aload_n cx (tk_dc d_M_deliver 88 rfl) rfl ?_
  refine v_getC cx 193 (tk_dc d_M_deliver 89 rfl) f_M_72 o_M (by decide) (by rfl) ?_
  refine v_iload cx (tk_dc d_M_deliver 90 rfl) rfl ?_
  refine w_zald cx (tk_dc d_M_deliver 91 rfl) a_193 t (rfl) (by omega) (by decide) ?_
  refine v_eqi (M.1 193 t) (m_rem_at (by omega) (by omega)) ?_
  refine v_if_ne cx (tk_dc d_M_deliver 92 rfl) 149 (by decide) (fun h144 => ?_) (fun h144 => ?_)
  · have g144 : ¬ M.1 193 t = 0 := h144
    refine v_bipush cx (tk_dc d_M_deliver 95 rfl) (8) (by decide) ?_
    refine v_iload cx (tk_dc d_M_deliver 96 rfl) rfl ?_
    refine v_imul cx (tk_dc d_M_deliver 97 rfl) ?_
    refine v_iload cx (tk_dc d_M_deliver 98 rfl) rfl ?_
    refine v_iadd cx (tk_dc d_M_deliver 99 rfl) ?_
    refine v_eqi (nI (8 * t + j)) (by rw [show (8 : Int32) = nI 8 from rfl, pk_mul, nI_add]) ?_
    refine v_istore (lo' := [_, _, _, _, _, _, _, _, _, _, _, _]) cx (tk_dc d_M_deliver 100 rfl) (by decide) rfl ?_
    refine v_iload_n cx (tk_dc d_M_deliver 101 rfl) rfl ?_
    refine v_if_ne cx (tk_dc d_M_deliver 102 rfl) 225 (by decide) (fun _ => ?_) (fun h => absurd h (by decide))
    refine v_iload_n cx (tk_dc d_M_deliver 137 rfl) rfl ?_
    refine v_iconst cx (tk_dc d_M_deliver 138 rfl) (1) (by decide) ?_
    refine v_icmp_ne cx (tk_dc d_M_deliver 139 rfl) 249 (by decide) (fun _ => ?_) (fun h => absurd h (by decide))
    refine v_iload_n cx (tk_dc d_M_deliver 149 rfl) rfl ?_
    refine v_iconst cx (tk_dc d_M_deliver 150 rfl) (2) (by decide) ?_
    refine v_icmp_ne cx (tk_dc d_M_deliver 151 rfl) 320 (by decide) (fun _ => ?_) (fun h => absurd h (by decide))
    refine v_iload_n cx (tk_dc d_M_deliver 188 rfl) rfl ?_
    refine v_iconst cx (tk_dc d_M_deliver 189 rfl) (3) (by decide) ?_
    refine v_icmp_ne cx (tk_dc d_M_deliver 190 rfl) 387 (by decide) (fun h => absurd (rfl) h) (fun _ => ?_)
    refine v_aload_n cx (tk_dc d_M_deliver 191 rfl) rfl ?_
    refine v_getC cx 200 (tk_dc d_M_deliver 192 rfl) f_M_93 o_M (by decide) (by rfl) ?_
    refine v_iload cx (tk_dc d_M_deliver 193 rfl) rfl ?_
    refine w_iald cx (tk_dc d_M_deliver 194 rfl) a_200 (8 * t + j) (rfl) (by omega) (by decide) ?_
    refine v_eqi (M.1 200 (8 * t + j)) (m_rem_at (by omega) (by omega)) ?_
    refine v_iconst cx (tk_dc d_M_deliver 195 rfl) (2) (by decide) ?_
    refine v_icmp_ne cx (tk_dc d_M_deliver 196 rfl) 387 (by decide) (fun h333 => ?_) (fun h333 => ?_)
    · refine v_iload_n cx (tk_dc d_M_deliver 226 rfl) rfl ?_
      refine v_iconst cx (tk_dc d_M_deliver 227 rfl) (5) (by decide) ?_
      refine v_icmp_ne cx (tk_dc d_M_deliver 228 rfl) 457 (by decide) (fun _ => ?_) (fun h => absurd h (by decide))
      refine v_iload_n cx (tk_dc d_M_deliver 263 rfl) rfl ?_
      exact v_iret cx hB (tk_dc d_M_deliver 264 rfl) (rfl) (by unfold m_dl3; rw [if_neg g144, if_neg (fun w => h333 w.1)])
    · refine v_aload_n cx (tk_dc d_M_deliver 197 rfl) rfl ?_
      refine v_getC cx 201 (tk_dc d_M_deliver 198 rfl) f_M_96 o_M (by decide) (by rfl) ?_
      refine v_iload cx (tk_dc d_M_deliver 199 rfl) rfl ?_
      refine w_iald cx (tk_dc d_M_deliver 200 rfl) a_201 (8 * t + j) (rfl) (by omega) (by decide) ?_
      refine v_eqi (M.1 201 (8 * t + j)) (m_rem_at (by omega) (by omega)) ?_
      refine v_iload cx (tk_dc d_M_deliver 201 rfl) rfl ?_
      refine v_icmp_ne cx (tk_dc d_M_deliver 202 rfl) 387 (by decide) (fun h345 => ?_) (fun h345 => ?_)
      · refine v_iload_n cx (tk_dc d_M_deliver 226 rfl) rfl ?_
        refine v_iconst cx (tk_dc d_M_deliver 227 rfl) (5) (by decide) ?_
        refine v_icmp_ne cx (tk_dc d_M_deliver 228 rfl) 457 (by decide) (fun _ => ?_) (fun h => absurd h (by decide))
        refine v_iload_n cx (tk_dc d_M_deliver 263 rfl) rfl ?_
        exact v_iret cx hB (tk_dc d_M_deliver 264 rfl) (rfl) (by unfold m_dl3; rw [if_neg g144, if_neg (fun w => h345 w.2)])
      · refine v_aload_n cx (tk_dc d_M_deliver 203 rfl) rfl ?_
        refine v_getC cx 200 (tk_dc d_M_deliver 204 rfl) f_M_93 o_M (by decide) (by rfl) ?_
        refine v_iload cx (tk_dc d_M_deliver 205 rfl) rfl ?_
        refine v_iconst cx (tk_dc d_M_deliver 206 rfl) (3) (by decide) ?_
        refine w_iast cx (tk_dc d_M_deliver 207 rfl) a_200 (8 * t + j) (rfl) (by omega) (by decide) ?_
        refine v_aload_n cx (tk_dc d_M_deliver 208 rfl) rfl ?_
        refine v_iconst cx (tk_dc d_M_deliver 209 rfl) (4) (by decide) ?_
        refine v_iload cx (tk_dc d_M_deliver 210 rfl) rfl ?_
        refine v_iload cx (tk_dc d_M_deliver 211 rfl) rfl ?_
        refine v_iconst cx (tk_dc d_M_deliver 212 rfl) (2) (by decide) ?_
        refine v_irem cx (tk_dc d_M_deliver 213 rfl) (by decide) ?_
        refine v_eqi (nI (j % 2)) (by rw [iI_nI, show (2 : Int32) = iI 2 from rfl, iI_remN (by omega) (by omega) (by omega) (by omega), iI_nI]; congr 1) ?_
        refine v_iload cx (tk_dc d_M_deliver 214 rfl) rfl ?_
        refine v_iconst cx (tk_dc d_M_deliver 215 rfl) (0) (by decide) ?_
        refine v_aload_n cx (tk_dc d_M_deliver 216 rfl) rfl ?_
        refine v_getC cx 202 (tk_dc d_M_deliver 217 rfl) f_M_99 o_M (by decide) (by rfl) ?_
        refine v_iload cx (tk_dc d_M_deliver 218 rfl) rfl ?_
        refine w_iald cx (tk_dc d_M_deliver 219 rfl) a_202 (8 * t + j) (rfl) (by omega) (by decide) ?_
        refine v_eqi (M.1 202 (8 * t + j)) (by rw [wI_ne (by omega)]; exact m_rem_at (by omega) (by omega)) ?_
        refine v_aload_n cx (tk_dc d_M_deliver 220 rfl) rfl ?_
        refine v_getC cx 203 (tk_dc d_M_deliver 221 rfl) f_M_102 o_M (by decide) (by rfl) ?_
        refine v_iload cx (tk_dc d_M_deliver 222 rfl) rfl ?_
        refine w_iald cx (tk_dc d_M_deliver 223 rfl) a_203 (8 * t + j) (rfl) (by omega) (by decide) ?_
        refine v_eqi (M.1 203 (8 * t + j)) (by rw [wI_ne (by omega)]; exact m_rem_at (by omega) (by omega)) ?_
        refine v_callV (rest := _) cx (tk_dc d_M_deliver 224 rfl) m_M_224 kn_M_send kv_M_send k_M_send o_M (by decide) rfl (c_M_send (cn := cn - 1) (k := 4) (ab := 0) (by omega) (by rw [wI_ne (by omega)]; exact m_rem_c) (by decide) (by decide)) rfl rfl (Nat.le_of_ble_eq_true rfl) (by decide) ?_
        refine v_goto cx (tk_dc d_M_deliver 225 rfl) 457 (by decide) ?_
        refine v_iload_n cx (tk_dc d_M_deliver 263 rfl) rfl ?_
        exact v_iret cx hB (tk_dc d_M_deliver 264 rfl) (rfl) (by unfold m_dl3; rw [if_neg g144, if_pos ⟨h333, h345⟩]; rfl)
  · have g144 : M.1 193 t = 0 := h144
    refine v_iload_n cx (tk_dc d_M_deliver 93 rfl) rfl ?_
    exact v_iret cx hB (tk_dc d_M_deliver 94 rfl) (rfl) (by unfold m_dl3; rw [if_pos g144])

set_option maxHeartbeats 4000000 in
set_option maxRecDepth 100000 in
theorem c_M_deliver4 {l : Launch} {E : tk_E} {M : tk_M} {cn i f t j : Nat} {b mm g ab : Int32} {ec : Nat} (hz0 : M.1 172 0 = 0) (hM : M.1 172 38 = nI cn) (hc : cn ≤ 60) (hi : i < cn) (hl0 : M.1 208 (8 * i) = nI 4) (hl1 : M.1 208 (8 * i + 1) = nI f) (hl2 : M.1 208 (8 * i + 2) = nI t) (hl3 : M.1 208 (8 * i + 3) = nI j) (hl4 : M.1 208 (8 * i + 4) = b) (hl5 : M.1 208 (8 * i + 5) = mm) (hl6 : M.1 208 (8 * i + 6) = g) (hl7 : M.1 208 (8 * i + 7) = ab) (ht : t < 2) (hj : j < 8) (hec : ec ≤ 40) (he : M.1 205 j = nI ec)  : tk_Mt l y_M_deliver b_M_deliver 12 (some .int) 12 E [.ref (E.1 + 172), .int (nI i)] M (m_dl4 M i cn t j ec mm g) (some (.int (nI 4))) := by
  refine tk_ofV (by decide +kernel) [some (.ref (E.1 + 172)), some (.int (nI i)), none, none, none, none, none, none, none, none, none, none] rfl (Nat.le_of_ble_eq_true rfl) ?_
  intro p e s m args below meth c cx hB
  refine v_aload_n cx (tk_dc d_M_deliver 0 rfl) rfl ?_
  refine v_iconst cx (tk_dc d_M_deliver 1 rfl) (0) (by decide) ?_
  refine v_putI cx (tk_dc d_M_deliver 2 rfl) f_M_120 o_M (by decide) (by rfl) ⟨rfl, rfl⟩ ?_
  refine v_eqM (cz_id hz0) ?_
  refine v_iload_n cx (tk_dc d_M_deliver 3 rfl) rfl ?_
  refine v_if_lt cx (tk_dc d_M_deliver 4 rfl) 17 (by decide) (fun h => absurd h (nI_pos (by omega))) (fun _ => ?_)
  refine v_iload_n cx (tk_dc d_M_deliver 5 rfl) rfl ?_
  refine v_aload_n cx (tk_dc d_M_deliver 6 rfl) rfl ?_
  refine v_getI cx (tk_dc d_M_deliver 7 rfl) f_M_221 o_M (by decide) (by rfl) ?_
  refine v_eqi (nI cn) (hM) ?_
  refine v_icmp_lt cx (tk_dc d_M_deliver 8 rfl) 19 (by decide) (fun _ => ?_) (fun h => absurd (nI_lt hi (by omega)) h)
  refine v_bipush cx (tk_dc d_M_deliver 11 rfl) (8) (by decide) ?_
  refine v_iload_n cx (tk_dc d_M_deliver 12 rfl) rfl ?_
  refine v_imul cx (tk_dc d_M_deliver 13 rfl) ?_
  refine v_eqi (nI (8 * i)) (by rw [show (8 : Int32) = nI 8 from rfl, pk_mul]) ?_
  refine v_istore_n (lo' := [_, _, _, _, _, _, _, _, _, _, _, _]) cx (tk_dc d_M_deliver 14 rfl) (by decide) rfl ?_
  refine v_aload_n cx (tk_dc d_M_deliver 15 rfl) rfl ?_
  refine v_getC cx 208 (tk_dc d_M_deliver 16 rfl) f_M_117 o_M (by decide) (by rfl) ?_
  refine v_iload_n cx (tk_dc d_M_deliver 17 rfl) rfl ?_
  refine w_iald cx (tk_dc d_M_deliver 18 rfl) a_208 (8 * i) (rfl) (by omega) (by decide) ?_
  refine v_eqi (nI 4) (hl0) ?_
  refine v_istore_n (lo' := [_, _, _, _, _, _, _, _, _, _, _, _]) cx (tk_dc d_M_deliver 19 rfl) (by decide) rfl ?_
  refine v_aload_n cx (tk_dc d_M_deliver 20 rfl) rfl ?_
  refine v_getC cx 208 (tk_dc d_M_deliver 21 rfl) f_M_117 o_M (by decide) (by rfl) ?_
  refine v_iload_n cx (tk_dc d_M_deliver 22 rfl) rfl ?_
  refine v_iconst cx (tk_dc d_M_deliver 23 rfl) (1) (by decide) ?_
  refine v_iadd cx (tk_dc d_M_deliver 24 rfl) ?_
  refine w_iald cx (tk_dc d_M_deliver 25 rfl) a_208 (8 * i + 1) (by rw [show (1 : Int32) = nI 1 from rfl, nI_add]) (by omega) (by decide) ?_
  refine v_eqi (nI f) (hl1) ?_
  refine v_istore (lo' := [_, _, _, _, _, _, _, _, _, _, _, _]) cx (tk_dc d_M_deliver 26 rfl) (by decide) rfl ?_
  refine v_aload_n cx (tk_dc d_M_deliver 27 rfl) rfl ?_
  refine v_getC cx 208 (tk_dc d_M_deliver 28 rfl) f_M_117 o_M (by decide) (by rfl) ?_
  refine v_iload_n cx (tk_dc d_M_deliver 29 rfl) rfl ?_
  refine v_iconst cx (tk_dc d_M_deliver 30 rfl) (2) (by decide) ?_
  refine v_iadd cx (tk_dc d_M_deliver 31 rfl) ?_
  refine w_iald cx (tk_dc d_M_deliver 32 rfl) a_208 (8 * i + 2) (by rw [show (2 : Int32) = nI 2 from rfl, nI_add]) (by omega) (by decide) ?_
  refine v_eqi (nI t) (hl2) ?_
  refine v_istore (lo' := [_, _, _, _, _, _, _, _, _, _, _, _]) cx (tk_dc d_M_deliver 33 rfl) (by decide) rfl ?_
  refine v_aload_n cx (tk_dc d_M_deliver 34 rfl) rfl ?_
  refine v_getC cx 208 (tk_dc d_M_deliver 35 rfl) f_M_117 o_M (by decide) (by rfl) ?_
  refine v_iload_n cx (tk_dc d_M_deliver 36 rfl) rfl ?_
  refine v_iconst cx (tk_dc d_M_deliver 37 rfl) (3) (by decide) ?_
  refine v_iadd cx (tk_dc d_M_deliver 38 rfl) ?_
  refine w_iald cx (tk_dc d_M_deliver 39 rfl) a_208 (8 * i + 3) (by rw [show (3 : Int32) = nI 3 from rfl, nI_add]) (by omega) (by decide) ?_
  refine v_eqi (nI j) (hl3) ?_
  refine v_istore (lo' := [_, _, _, _, _, _, _, _, _, _, _, _]) cx (tk_dc d_M_deliver 40 rfl) (by decide) rfl ?_
  refine v_aload_n cx (tk_dc d_M_deliver 41 rfl) rfl ?_
  refine v_getC cx 208 (tk_dc d_M_deliver 42 rfl) f_M_117 o_M (by decide) (by rfl) ?_
  refine v_iload_n cx (tk_dc d_M_deliver 43 rfl) rfl ?_
  refine v_iconst cx (tk_dc d_M_deliver 44 rfl) (4) (by decide) ?_
  refine v_iadd cx (tk_dc d_M_deliver 45 rfl) ?_
  refine w_iald cx (tk_dc d_M_deliver 46 rfl) a_208 (8 * i + 4) (by rw [show (4 : Int32) = nI 4 from rfl, nI_add]) (by omega) (by decide) ?_
  refine v_eqi (b) (hl4) ?_
  refine v_istore (lo' := [_, _, _, _, _, _, _, _, _, _, _, _]) cx (tk_dc d_M_deliver 47 rfl) (by decide) rfl ?_
  refine v_aload_n cx (tk_dc d_M_deliver 48 rfl) rfl ?_
  refine v_getC cx 208 (tk_dc d_M_deliver 49 rfl) f_M_117 o_M (by decide) (by rfl) ?_
  refine v_iload_n cx (tk_dc d_M_deliver 50 rfl) rfl ?_
  refine v_iconst cx (tk_dc d_M_deliver 51 rfl) (5) (by decide) ?_
  refine v_iadd cx (tk_dc d_M_deliver 52 rfl) ?_
  refine w_iald cx (tk_dc d_M_deliver 53 rfl) a_208 (8 * i + 5) (by rw [show (5 : Int32) = nI 5 from rfl, nI_add]) (by omega) (by decide) ?_
  refine v_eqi (mm) (hl5) ?_
  refine v_istore (lo' := [_, _, _, _, _, _, _, _, _, _, _, _]) cx (tk_dc d_M_deliver 54 rfl) (by decide) rfl ?_
  refine v_aload_n cx (tk_dc d_M_deliver 55 rfl) rfl ?_
  refine v_getC cx 208 (tk_dc d_M_deliver 56 rfl) f_M_117 o_M (by decide) (by rfl) ?_
  refine v_iload_n cx (tk_dc d_M_deliver 57 rfl) rfl ?_
  refine v_bipush cx (tk_dc d_M_deliver 58 rfl) (6) (by decide) ?_
  refine v_iadd cx (tk_dc d_M_deliver 59 rfl) ?_
  refine w_iald cx (tk_dc d_M_deliver 60 rfl) a_208 (8 * i + 6) (by rw [show (6 : Int32) = nI 6 from rfl, nI_add]) (by omega) (by decide) ?_
  refine v_eqi (g) (hl6) ?_
  refine v_istore (lo' := [_, _, _, _, _, _, _, _, _, _, _, _]) cx (tk_dc d_M_deliver 61 rfl) (by decide) rfl ?_
  refine v_aload_n cx (tk_dc d_M_deliver 62 rfl) rfl ?_
  refine v_getC cx 208 (tk_dc d_M_deliver 63 rfl) f_M_117 o_M (by decide) (by rfl) ?_
  refine v_iload_n cx (tk_dc d_M_deliver 64 rfl) rfl ?_
  refine v_bipush cx (tk_dc d_M_deliver 65 rfl) (7) (by decide) ?_
  refine v_iadd cx (tk_dc d_M_deliver 66 rfl) ?_
  refine w_iald cx (tk_dc d_M_deliver 67 rfl) a_208 (8 * i + 7) (by rw [show (7 : Int32) = nI 7 from rfl, nI_add]) (by omega) (by decide) ?_
  refine v_eqi (ab) (hl7) ?_
  refine v_istore (lo' := [_, _, _, _, _, _, _, _, _, _, _, _]) cx (tk_dc d_M_deliver 68 rfl) (by decide) rfl ?_
  refine v_aload_n cx (tk_dc d_M_deliver 69 rfl) rfl ?_
  refine v_iload_n cx (tk_dc d_M_deliver 70 rfl) rfl ?_
  refine v_callV (rest := _) cx (tk_dc d_M_deliver 71 rfl) m_M_242 kn_M_remove kv_M_remove k_M_remove o_M (by decide) rfl (c_M_remove hc hi hM) rfl rfl (Nat.le_of_ble_eq_true rfl) (by decide) ?_
  refine v_iload_n cx (tk_dc d_M_deliver 72 rfl) rfl ?_
  refine v_iconst cx (tk_dc d_M_deliver 73 rfl) (4) (by decide) ?_
  refine v_icmp_ne cx (tk_dc d_M_deliver 74 rfl) 137 (by decide) (fun h => absurd (rfl) h) (fun _ => ?_)
  refine v_aload_n cx (tk_dc d_M_deliver 75 rfl) rfl ?_
  refine v_getC cx 194 (tk_dc d_M_deliver 76 rfl) f_M_75 o_M (by decide) (by rfl) ?_
  refine v_iload cx (tk_dc d_M_deliver 77 rfl) rfl ?_
  refine w_zald cx (tk_dc d_M_deliver 78 rfl) a_194 t (rfl) (by omega) (by decide) ?_
  refine v_eqi (M.1 194 t) (m_rem_at (by omega) (by omega)) ?_
  refine v_if_eq cx (tk_dc d_M_deliver 79 rfl) 135 (by decide) (fun h120 => ?_) (fun h120 => ?_)
  · have g120 : M.1 194 t = 0 := h120
    refine v_iload_n cx (tk_dc d_M_deliver 86 rfl) rfl ?_
    exact v_iret cx hB (tk_dc d_M_deliver 87 rfl) (rfl) (by unfold m_dl4; rw [if_pos g120])
  · have g120 : ¬ M.1 194 t = 0 := h120
    refine v_aload_n cx (tk_dc d_M_deliver 80 rfl) rfl ?_
    refine v_iload cx (tk_dc d_M_deliver 81 rfl) rfl ?_
    refine v_iload cx (tk_dc d_M_deliver 82 rfl) rfl ?_
    refine v_iload cx (tk_dc d_M_deliver 83 rfl) rfl ?_
    refine v_iload cx (tk_dc d_M_deliver 84 rfl) rfl ?_
    refine v_callV (rest := _) cx (tk_dc d_M_deliver 85 rfl) m_M_245 kn_M_comeToDesk kv_M_comeToDesk k_M_comeToDesk o_M (by decide) rfl (c_M_comeToDesk (cn := cn - 1) (ec := ec) m_rem_c (by omega) hj hec (by rw [m_rem_at (by omega) (by omega)]; exact he)) rfl rfl (Nat.le_of_ble_eq_true rfl) (by decide) ?_
    refine v_iload_n cx (tk_dc d_M_deliver 86 rfl) rfl ?_
    exact v_iret cx hB (tk_dc d_M_deliver 87 rfl) (rfl) (by unfold m_dl4; rw [if_neg g120])

set_option maxHeartbeats 4000000 in
set_option maxRecDepth 100000 in
theorem c_M_deliver5 {l : Launch} {E : tk_E} {M : tk_M} {cn i f t j : Nat} {b mm g ab : Int32}  (hz0 : M.1 172 0 = 0) (hM : M.1 172 38 = nI cn) (hc : cn ≤ 60) (hi : i < cn) (hl0 : M.1 208 (8 * i) = nI 5) (hl1 : M.1 208 (8 * i + 1) = nI f) (hl2 : M.1 208 (8 * i + 2) = nI t) (hl3 : M.1 208 (8 * i + 3) = nI j) (hl4 : M.1 208 (8 * i + 4) = b) (hl5 : M.1 208 (8 * i + 5) = mm) (hl6 : M.1 208 (8 * i + 6) = g) (hl7 : M.1 208 (8 * i + 7) = ab) (ht : t < 3) (hj : j < 8)  : tk_Mt l y_M_deliver b_M_deliver 12 (some .int) 12 E [.ref (E.1 + 172), .int (nI i)] M (m_dl5 M i cn t j mm) (some (.int (nI 5))) := by
  refine tk_ofV (by decide +kernel) [some (.ref (E.1 + 172)), some (.int (nI i)), none, none, none, none, none, none, none, none, none, none] rfl (Nat.le_of_ble_eq_true rfl) ?_
  intro p e s m args below meth c cx hB
  refine v_aload_n cx (tk_dc d_M_deliver 0 rfl) rfl ?_
  refine v_iconst cx (tk_dc d_M_deliver 1 rfl) (0) (by decide) ?_
  refine v_putI cx (tk_dc d_M_deliver 2 rfl) f_M_120 o_M (by decide) (by rfl) ⟨rfl, rfl⟩ ?_
  refine v_eqM (cz_id hz0) ?_
  refine v_iload_n cx (tk_dc d_M_deliver 3 rfl) rfl ?_
  refine v_if_lt cx (tk_dc d_M_deliver 4 rfl) 17 (by decide) (fun h => absurd h (nI_pos (by omega))) (fun _ => ?_)
  refine v_iload_n cx (tk_dc d_M_deliver 5 rfl) rfl ?_
  refine v_aload_n cx (tk_dc d_M_deliver 6 rfl) rfl ?_
  refine v_getI cx (tk_dc d_M_deliver 7 rfl) f_M_221 o_M (by decide) (by rfl) ?_
  refine v_eqi (nI cn) (hM) ?_
  refine v_icmp_lt cx (tk_dc d_M_deliver 8 rfl) 19 (by decide) (fun _ => ?_) (fun h => absurd (nI_lt hi (by omega)) h)
  refine v_bipush cx (tk_dc d_M_deliver 11 rfl) (8) (by decide) ?_
  refine v_iload_n cx (tk_dc d_M_deliver 12 rfl) rfl ?_
  refine v_imul cx (tk_dc d_M_deliver 13 rfl) ?_
  refine v_eqi (nI (8 * i)) (by rw [show (8 : Int32) = nI 8 from rfl, pk_mul]) ?_
  refine v_istore_n (lo' := [_, _, _, _, _, _, _, _, _, _, _, _]) cx (tk_dc d_M_deliver 14 rfl) (by decide) rfl ?_
  refine v_aload_n cx (tk_dc d_M_deliver 15 rfl) rfl ?_
  refine v_getC cx 208 (tk_dc d_M_deliver 16 rfl) f_M_117 o_M (by decide) (by rfl) ?_
  refine v_iload_n cx (tk_dc d_M_deliver 17 rfl) rfl ?_
  refine w_iald cx (tk_dc d_M_deliver 18 rfl) a_208 (8 * i) (rfl) (by omega) (by decide) ?_
  refine v_eqi (nI 5) (hl0) ?_
  refine v_istore_n (lo' := [_, _, _, _, _, _, _, _, _, _, _, _]) cx (tk_dc d_M_deliver 19 rfl) (by decide) rfl ?_
  refine v_aload_n cx (tk_dc d_M_deliver 20 rfl) rfl ?_
  refine v_getC cx 208 (tk_dc d_M_deliver 21 rfl) f_M_117 o_M (by decide) (by rfl) ?_
  refine v_iload_n cx (tk_dc d_M_deliver 22 rfl) rfl ?_
  refine v_iconst cx (tk_dc d_M_deliver 23 rfl) (1) (by decide) ?_
  refine v_iadd cx (tk_dc d_M_deliver 24 rfl) ?_
  refine w_iald cx (tk_dc d_M_deliver 25 rfl) a_208 (8 * i + 1) (by rw [show (1 : Int32) = nI 1 from rfl, nI_add]) (by omega) (by decide) ?_
  refine v_eqi (nI f) (hl1) ?_
  refine v_istore (lo' := [_, _, _, _, _, _, _, _, _, _, _, _]) cx (tk_dc d_M_deliver 26 rfl) (by decide) rfl ?_
  refine v_aload_n cx (tk_dc d_M_deliver 27 rfl) rfl ?_
  refine v_getC cx 208 (tk_dc d_M_deliver 28 rfl) f_M_117 o_M (by decide) (by rfl) ?_
  refine v_iload_n cx (tk_dc d_M_deliver 29 rfl) rfl ?_
  refine v_iconst cx (tk_dc d_M_deliver 30 rfl) (2) (by decide) ?_
  refine v_iadd cx (tk_dc d_M_deliver 31 rfl) ?_
  refine w_iald cx (tk_dc d_M_deliver 32 rfl) a_208 (8 * i + 2) (by rw [show (2 : Int32) = nI 2 from rfl, nI_add]) (by omega) (by decide) ?_
  refine v_eqi (nI t) (hl2) ?_
  refine v_istore (lo' := [_, _, _, _, _, _, _, _, _, _, _, _]) cx (tk_dc d_M_deliver 33 rfl) (by decide) rfl ?_
  refine v_aload_n cx (tk_dc d_M_deliver 34 rfl) rfl ?_
  refine v_getC cx 208 (tk_dc d_M_deliver 35 rfl) f_M_117 o_M (by decide) (by rfl) ?_
  refine v_iload_n cx (tk_dc d_M_deliver 36 rfl) rfl ?_
  refine v_iconst cx (tk_dc d_M_deliver 37 rfl) (3) (by decide) ?_
  refine v_iadd cx (tk_dc d_M_deliver 38 rfl) ?_
  refine w_iald cx (tk_dc d_M_deliver 39 rfl) a_208 (8 * i + 3) (by rw [show (3 : Int32) = nI 3 from rfl, nI_add]) (by omega) (by decide) ?_
  refine v_eqi (nI j) (hl3) ?_
  refine v_istore (lo' := [_, _, _, _, _, _, _, _, _, _, _, _]) cx (tk_dc d_M_deliver 40 rfl) (by decide) rfl ?_
  refine v_aload_n cx (tk_dc d_M_deliver 41 rfl) rfl ?_
  refine v_getC cx 208 (tk_dc d_M_deliver 42 rfl) f_M_117 o_M (by decide) (by rfl) ?_
  refine v_iload_n cx (tk_dc d_M_deliver 43 rfl) rfl ?_
  refine v_iconst cx (tk_dc d_M_deliver 44 rfl) (4) (by decide) ?_
  refine v_iadd cx (tk_dc d_M_deliver 45 rfl) ?_
  refine w_iald cx (tk_dc d_M_deliver 46 rfl) a_208 (8 * i + 4) (by rw [show (4 : Int32) = nI 4 from rfl, nI_add]) (by omega) (by decide) ?_
  refine v_eqi (b) (hl4) ?_
  refine v_istore (lo' := [_, _, _, _, _, _, _, _, _, _, _, _]) cx (tk_dc d_M_deliver 47 rfl) (by decide) rfl ?_
  refine v_aload_n cx (tk_dc d_M_deliver 48 rfl) rfl ?_
  refine v_getC cx 208 (tk_dc d_M_deliver 49 rfl) f_M_117 o_M (by decide) (by rfl) ?_
  refine v_iload_n cx (tk_dc d_M_deliver 50 rfl) rfl ?_
  refine v_iconst cx (tk_dc d_M_deliver 51 rfl) (5) (by decide) ?_
  refine v_iadd cx (tk_dc d_M_deliver 52 rfl) ?_
  refine w_iald cx (tk_dc d_M_deliver 53 rfl) a_208 (8 * i + 5) (by rw [show (5 : Int32) = nI 5 from rfl, nI_add]) (by omega) (by decide) ?_
  refine v_eqi (mm) (hl5) ?_
  refine v_istore (lo' := [_, _, _, _, _, _, _, _, _, _, _, _]) cx (tk_dc d_M_deliver 54 rfl) (by decide) rfl ?_
  refine v_aload_n cx (tk_dc d_M_deliver 55 rfl) rfl ?_
  refine v_getC cx 208 (tk_dc d_M_deliver 56 rfl) f_M_117 o_M (by decide) (by rfl) ?_
  refine v_iload_n cx (tk_dc d_M_deliver 57 rfl) rfl ?_
  refine v_bipush cx (tk_dc d_M_deliver 58 rfl) (6) (by decide) ?_
  refine v_iadd cx (tk_dc d_M_deliver 59 rfl) ?_
  refine w_iald cx (tk_dc d_M_deliver 60 rfl) a_208 (8 * i + 6) (by rw [show (6 : Int32) = nI 6 from rfl, nI_add]) (by omega) (by decide) ?_
  refine v_eqi (g) (hl6) ?_
  refine v_istore (lo' := [_, _, _, _, _, _, _, _, _, _, _, _]) cx (tk_dc d_M_deliver 61 rfl) (by decide) rfl ?_
  refine v_aload_n cx (tk_dc d_M_deliver 62 rfl) rfl ?_
  refine v_getC cx 208 (tk_dc d_M_deliver 63 rfl) f_M_117 o_M (by decide) (by rfl) ?_
  refine v_iload_n cx (tk_dc d_M_deliver 64 rfl) rfl ?_
  refine v_bipush cx (tk_dc d_M_deliver 65 rfl) (7) (by decide) ?_
  refine v_iadd cx (tk_dc d_M_deliver 66 rfl) ?_
  refine w_iald cx (tk_dc d_M_deliver 67 rfl) a_208 (8 * i + 7) (by rw [show (7 : Int32) = nI 7 from rfl, nI_add]) (by omega) (by decide) ?_
  refine v_eqi (ab) (hl7) ?_
  refine v_istore (lo' := [_, _, _, _, _, _, _, _, _, _, _, _]) cx (tk_dc d_M_deliver 68 rfl) (by decide) rfl ?_
  refine v_aload_n cx (tk_dc d_M_deliver 69 rfl) rfl ?_
  refine v_iload_n cx (tk_dc d_M_deliver 70 rfl) rfl ?_
  refine v_callV (rest := _) cx (tk_dc d_M_deliver 71 rfl) m_M_242 kn_M_remove kv_M_remove k_M_remove o_M (by decide) rfl (c_M_remove hc hi hM) rfl rfl (Nat.le_of_ble_eq_true rfl) (by decide) ?_
  refine v_iload_n cx (tk_dc d_M_deliver 72 rfl) rfl ?_
  refine v_iconst cx (tk_dc d_M_deliver 73 rfl) (4) (by decide) ?_
  refine v_icmp_ne cx (tk_dc d_M_deliver 74 rfl) 137 (by decide) (fun _ => ?_) (fun h => absurd h (by decide))
  refine v_aload_n cx (tk_dc d_M_deliver 88 rfl) rfl ?_
  refine v_getC cx 193 (tk_dc d_M_deliver 89 rfl) f_M_72 o_M (by decide) (by rfl) ?_
  refine v_iload cx (tk_dc d_M_deliver 90 rfl) rfl ?_
  refine w_zald cx (tk_dc d_M_deliver 91 rfl) a_193 t (rfl) (by omega) (by decide) ?_
  refine v_eqi (M.1 193 t) (m_rem_at (by omega) (by omega)) ?_
  refine v_if_ne cx (tk_dc d_M_deliver 92 rfl) 149 (by decide) (fun h144 => ?_) (fun h144 => ?_)
  · have g144 : ¬ M.1 193 t = 0 := h144
    refine v_bipush cx (tk_dc d_M_deliver 95 rfl) (8) (by decide) ?_
    refine v_iload cx (tk_dc d_M_deliver 96 rfl) rfl ?_
    refine v_imul cx (tk_dc d_M_deliver 97 rfl) ?_
    refine v_iload cx (tk_dc d_M_deliver 98 rfl) rfl ?_
    refine v_iadd cx (tk_dc d_M_deliver 99 rfl) ?_
    refine v_eqi (nI (8 * t + j)) (by rw [show (8 : Int32) = nI 8 from rfl, pk_mul, nI_add]) ?_
    refine v_istore (lo' := [_, _, _, _, _, _, _, _, _, _, _, _]) cx (tk_dc d_M_deliver 100 rfl) (by decide) rfl ?_
    refine v_iload_n cx (tk_dc d_M_deliver 101 rfl) rfl ?_
    refine v_if_ne cx (tk_dc d_M_deliver 102 rfl) 225 (by decide) (fun _ => ?_) (fun h => absurd h (by decide))
    refine v_iload_n cx (tk_dc d_M_deliver 137 rfl) rfl ?_
    refine v_iconst cx (tk_dc d_M_deliver 138 rfl) (1) (by decide) ?_
    refine v_icmp_ne cx (tk_dc d_M_deliver 139 rfl) 249 (by decide) (fun _ => ?_) (fun h => absurd h (by decide))
    refine v_iload_n cx (tk_dc d_M_deliver 149 rfl) rfl ?_
    refine v_iconst cx (tk_dc d_M_deliver 150 rfl) (2) (by decide) ?_
    refine v_icmp_ne cx (tk_dc d_M_deliver 151 rfl) 320 (by decide) (fun _ => ?_) (fun h => absurd h (by decide))
    refine v_iload_n cx (tk_dc d_M_deliver 188 rfl) rfl ?_
    refine v_iconst cx (tk_dc d_M_deliver 189 rfl) (3) (by decide) ?_
    refine v_icmp_ne cx (tk_dc d_M_deliver 190 rfl) 387 (by decide) (fun _ => ?_) (fun h => absurd h (by decide))
    refine v_iload_n cx (tk_dc d_M_deliver 226 rfl) rfl ?_
    refine v_iconst cx (tk_dc d_M_deliver 227 rfl) (5) (by decide) ?_
    refine v_icmp_ne cx (tk_dc d_M_deliver 228 rfl) 457 (by decide) (fun h => absurd (rfl) h) (fun _ => ?_)
    refine v_aload_n cx (tk_dc d_M_deliver 229 rfl) rfl ?_
    refine v_getC cx 199 (tk_dc d_M_deliver 230 rfl) f_M_90 o_M (by decide) (by rfl) ?_
    refine v_iload cx (tk_dc d_M_deliver 231 rfl) rfl ?_
    refine v_iload cx (tk_dc d_M_deliver 232 rfl) rfl ?_
    refine v_aload_n cx (tk_dc d_M_deliver 233 rfl) rfl ?_
    refine v_getC cx 199 (tk_dc d_M_deliver 234 rfl) f_M_90 o_M (by decide) (by rfl) ?_
    refine v_iload cx (tk_dc d_M_deliver 235 rfl) rfl ?_
    refine w_iald cx (tk_dc d_M_deliver 236 rfl) a_199 (8 * t + j) (rfl) (by omega) (by decide) ?_
    refine v_eqi (M.1 199 (8 * t + j)) (m_rem_at (by omega) (by omega)) ?_
    refine v_icmp_le cx (tk_dc d_M_deliver 237 rfl) 415 (by decide) (fun h407 => ?_) (fun h407 => ?_)
    · have g407 : ¬ M.1 199 (8 * t + j) < mm := Int32.not_lt.mpr h407
      refine v_aload_n cx (tk_dc d_M_deliver 240 rfl) rfl ?_
      refine v_getC cx 199 (tk_dc d_M_deliver 241 rfl) f_M_90 o_M (by decide) (by rfl) ?_
      refine v_iload cx (tk_dc d_M_deliver 242 rfl) rfl ?_
      refine w_iald cx (tk_dc d_M_deliver 243 rfl) a_199 (8 * t + j) (rfl) (by omega) (by decide) ?_
      refine v_eqi (M.1 199 (8 * t + j)) (m_rem_at (by omega) (by omega)) ?_
      refine w_iast cx (tk_dc d_M_deliver 244 rfl) a_199 (8 * t + j) (rfl) (by omega) (by decide) ?_
      refine v_aload_n cx (tk_dc d_M_deliver 245 rfl) rfl ?_
      refine v_getC cx 200 (tk_dc d_M_deliver 246 rfl) f_M_93 o_M (by decide) (by rfl) ?_
      refine v_iload cx (tk_dc d_M_deliver 247 rfl) rfl ?_
      refine w_iald cx (tk_dc d_M_deliver 248 rfl) a_200 (8 * t + j) (rfl) (by omega) (by decide) ?_
      refine v_eqi (M.1 200 (8 * t + j)) (by rw [wI_ne (by omega)]; exact m_rem_at (by omega) (by omega)) ?_
      refine v_iconst cx (tk_dc d_M_deliver 249 rfl) (3) (by decide) ?_
      refine v_icmp_ne cx (tk_dc d_M_deliver 250 rfl) 457 (by decide) (fun h431 => ?_) (fun h431 => ?_)
      · refine v_iload_n cx (tk_dc d_M_deliver 263 rfl) rfl ?_
        exact v_iret cx hB (tk_dc d_M_deliver 264 rfl) (rfl) (by unfold m_dl5 m_lrn; rw [if_neg g144, if_neg g407, m_rem_at (by omega) (by omega), m_rem_at (by omega) (by omega), if_neg (fun w => h431 w.1)])
      · refine v_aload_n cx (tk_dc d_M_deliver 251 rfl) rfl ?_
        refine v_getC cx 202 (tk_dc d_M_deliver 252 rfl) f_M_99 o_M (by decide) (by rfl) ?_
        refine v_iload cx (tk_dc d_M_deliver 253 rfl) rfl ?_
        refine w_iald cx (tk_dc d_M_deliver 254 rfl) a_202 (8 * t + j) (rfl) (by omega) (by decide) ?_
        refine v_eqi (M.1 202 (8 * t + j)) (by rw [wI_ne (by omega)]; exact m_rem_at (by omega) (by omega)) ?_
        refine v_aload_n cx (tk_dc d_M_deliver 255 rfl) rfl ?_
        refine v_getC cx 199 (tk_dc d_M_deliver 256 rfl) f_M_90 o_M (by decide) (by rfl) ?_
        refine v_iload cx (tk_dc d_M_deliver 257 rfl) rfl ?_
        refine w_iald cx (tk_dc d_M_deliver 258 rfl) a_199 (8 * t + j) (rfl) (by omega) (by decide) ?_
        refine v_eqi ((M.1 199 (8 * t + j))) (wI_at _ _ _ _) ?_
        refine v_icmp_gt cx (tk_dc d_M_deliver 259 rfl) 457 (by decide) (fun h448 => ?_) (fun h448 => ?_)
        · refine v_iload_n cx (tk_dc d_M_deliver 263 rfl) rfl ?_
          exact v_iret cx hB (tk_dc d_M_deliver 264 rfl) (rfl) (by unfold m_dl5 m_lrn; rw [if_neg g144, if_neg g407, m_rem_at (by omega) (by omega), m_rem_at (by omega) (by omega), if_neg (fun w => absurd w.2 (Int32.not_le.mpr h448))])
        · refine v_aload_n cx (tk_dc d_M_deliver 260 rfl) rfl ?_
          refine v_iload cx (tk_dc d_M_deliver 261 rfl) rfl ?_
          refine v_callV (rest := _) cx (tk_dc d_M_deliver 262 rfl) m_M_235 kn_M_over kv_M_over k_M_over o_M (by decide) rfl (c_M_over (by omega)) rfl rfl (Nat.le_of_ble_eq_true rfl) (by decide) ?_
          refine v_iload_n cx (tk_dc d_M_deliver 263 rfl) rfl ?_
          exact v_iret cx hB (tk_dc d_M_deliver 264 rfl) (rfl) (by unfold m_dl5 m_lrn; rw [if_neg g144, if_neg g407, m_rem_at (by omega) (by omega), m_rem_at (by omega) (by omega), if_pos ⟨h431, Int32.not_lt.mp h448⟩])
    · have g407 : M.1 199 (8 * t + j) < mm := Int32.not_le.mp h407
      refine v_iload cx (tk_dc d_M_deliver 238 rfl) rfl ?_
      refine v_goto cx (tk_dc d_M_deliver 239 rfl) 422 (by decide) ?_
      refine w_iast cx (tk_dc d_M_deliver 244 rfl) a_199 (8 * t + j) (rfl) (by omega) (by decide) ?_
      refine v_aload_n cx (tk_dc d_M_deliver 245 rfl) rfl ?_
      refine v_getC cx 200 (tk_dc d_M_deliver 246 rfl) f_M_93 o_M (by decide) (by rfl) ?_
      refine v_iload cx (tk_dc d_M_deliver 247 rfl) rfl ?_
      refine w_iald cx (tk_dc d_M_deliver 248 rfl) a_200 (8 * t + j) (rfl) (by omega) (by decide) ?_
      refine v_eqi (M.1 200 (8 * t + j)) (by rw [wI_ne (by omega)]; exact m_rem_at (by omega) (by omega)) ?_
      refine v_iconst cx (tk_dc d_M_deliver 249 rfl) (3) (by decide) ?_
      refine v_icmp_ne cx (tk_dc d_M_deliver 250 rfl) 457 (by decide) (fun h431 => ?_) (fun h431 => ?_)
      · refine v_iload_n cx (tk_dc d_M_deliver 263 rfl) rfl ?_
        exact v_iret cx hB (tk_dc d_M_deliver 264 rfl) (rfl) (by unfold m_dl5 m_lrn; rw [if_neg g144, if_pos g407, m_rem_at (by omega) (by omega), m_rem_at (by omega) (by omega), if_neg (fun w => h431 w.1)])
      · refine v_aload_n cx (tk_dc d_M_deliver 251 rfl) rfl ?_
        refine v_getC cx 202 (tk_dc d_M_deliver 252 rfl) f_M_99 o_M (by decide) (by rfl) ?_
        refine v_iload cx (tk_dc d_M_deliver 253 rfl) rfl ?_
        refine w_iald cx (tk_dc d_M_deliver 254 rfl) a_202 (8 * t + j) (rfl) (by omega) (by decide) ?_
        refine v_eqi (M.1 202 (8 * t + j)) (by rw [wI_ne (by omega)]; exact m_rem_at (by omega) (by omega)) ?_
        refine v_aload_n cx (tk_dc d_M_deliver 255 rfl) rfl ?_
        refine v_getC cx 199 (tk_dc d_M_deliver 256 rfl) f_M_90 o_M (by decide) (by rfl) ?_
        refine v_iload cx (tk_dc d_M_deliver 257 rfl) rfl ?_
        refine w_iald cx (tk_dc d_M_deliver 258 rfl) a_199 (8 * t + j) (rfl) (by omega) (by decide) ?_
        refine v_eqi (mm) (wI_at _ _ _ _) ?_
        refine v_icmp_gt cx (tk_dc d_M_deliver 259 rfl) 457 (by decide) (fun h448 => ?_) (fun h448 => ?_)
        · refine v_iload_n cx (tk_dc d_M_deliver 263 rfl) rfl ?_
          exact v_iret cx hB (tk_dc d_M_deliver 264 rfl) (rfl) (by unfold m_dl5 m_lrn; rw [if_neg g144, if_pos g407, m_rem_at (by omega) (by omega), m_rem_at (by omega) (by omega), if_neg (fun w => absurd w.2 (Int32.not_le.mpr h448))])
        · refine v_aload_n cx (tk_dc d_M_deliver 260 rfl) rfl ?_
          refine v_iload cx (tk_dc d_M_deliver 261 rfl) rfl ?_
          refine v_callV (rest := _) cx (tk_dc d_M_deliver 262 rfl) m_M_235 kn_M_over kv_M_over k_M_over o_M (by decide) rfl (c_M_over (by omega)) rfl rfl (Nat.le_of_ble_eq_true rfl) (by decide) ?_
          refine v_iload_n cx (tk_dc d_M_deliver 263 rfl) rfl ?_
          exact v_iret cx hB (tk_dc d_M_deliver 264 rfl) (rfl) (by unfold m_dl5 m_lrn; rw [if_neg g144, if_pos g407, m_rem_at (by omega) (by omega), m_rem_at (by omega) (by omega), if_pos ⟨h431, Int32.not_lt.mp h448⟩])
  · have g144 : M.1 193 t = 0 := h144
    refine v_iload_n cx (tk_dc d_M_deliver 93 rfl) rfl ?_
    exact v_iret cx hB (tk_dc d_M_deliver 94 rfl) (rfl) (by unfold m_dl5; rw [if_pos g144])

set_option maxHeartbeats 4000000 in
set_option maxRecDepth 100000 in
theorem c_M_deliver1 {l : Launch} {E : tk_E} {M : tk_M} {cn i f t j : Nat} {b mm g ab : Int32} {G : Nat → gJ} {nw : Int} (hz0 : M.1 172 0 = 0) (hM : M.1 172 38 = nI cn) (hc : cn ≤ 60) (hi : i < cn) (hl0 : M.1 208 (8 * i) = nI 1) (hl1 : M.1 208 (8 * i + 1) = nI f) (hl2 : M.1 208 (8 * i + 2) = nI t) (hl3 : M.1 208 (8 * i + 3) = nI j) (hl4 : M.1 208 (8 * i + 4) = b) (hl5 : M.1 208 (8 * i + 5) = mm) (hl6 : M.1 208 (8 * i + 6) = g) (hl7 : M.1 208 (8 * i + 7) = ab) (ht : t < 3) (hj : j < 8) (hG : ∀ i, i < 8 → calM M i (G i)) (hkn : ∀ i, i < 8 → -1 ≤ (M.1 199 (8 * t + i)).toInt ∧ (M.1 199 (8 * t + i)).toInt ≤ 52595999) (hnw : M.1 172 1 = iI nw) (hn0 : 0 ≤ nw) (hn1 : nw ≤ 52595999) (hmm : -1 ≤ mm.toInt ∧ mm.toInt ≤ 52595999) (hmo : -1 ≤ (M.1 197 (8 * t + j)).toInt ∧ (M.1 197 (8 * t + j)).toInt ≤ 52595999) : tk_MR l y_M_deliver b_M_deliver 12 (some .int) 12 E [.ref (E.1 + 172), .int (nI i)] M  (NR (some (.int (nI 1))) (m_dl1 G nw M i cn t j b mm g ab)) := by
  refine tk_ofVR (by decide +kernel) [some (.ref (E.1 + 172)), some (.int (nI i)), none, none, none, none, none, none, none, none, none, none] rfl (Nat.le_of_ble_eq_true rfl) ?_
  intro p e s m args below meth c cx hB
  refine v_aload_n cx (tk_dc d_M_deliver 0 rfl) rfl ?_
  refine v_iconst cx (tk_dc d_M_deliver 1 rfl) (0) (by decide) ?_
  refine v_putI cx (tk_dc d_M_deliver 2 rfl) f_M_120 o_M (by decide) (by rfl) ⟨rfl, rfl⟩ ?_
  refine v_eqM (cz_id hz0) ?_
  refine v_iload_n cx (tk_dc d_M_deliver 3 rfl) rfl ?_
  refine v_if_lt cx (tk_dc d_M_deliver 4 rfl) 17 (by decide) (fun h => absurd h (nI_pos (by omega))) (fun _ => ?_)
  refine v_iload_n cx (tk_dc d_M_deliver 5 rfl) rfl ?_
  refine v_aload_n cx (tk_dc d_M_deliver 6 rfl) rfl ?_
  refine v_getI cx (tk_dc d_M_deliver 7 rfl) f_M_221 o_M (by decide) (by rfl) ?_
  refine v_eqi (nI cn) (hM) ?_
  refine v_icmp_lt cx (tk_dc d_M_deliver 8 rfl) 19 (by decide) (fun _ => ?_) (fun h => absurd (nI_lt hi (by omega)) h)
  refine v_bipush cx (tk_dc d_M_deliver 11 rfl) (8) (by decide) ?_
  refine v_iload_n cx (tk_dc d_M_deliver 12 rfl) rfl ?_
  refine v_imul cx (tk_dc d_M_deliver 13 rfl) ?_
  refine v_eqi (nI (8 * i)) (by rw [show (8 : Int32) = nI 8 from rfl, pk_mul]) ?_
  refine v_istore_n (lo' := [_, _, _, _, _, _, _, _, _, _, _, _]) cx (tk_dc d_M_deliver 14 rfl) (by decide) rfl ?_
  refine v_aload_n cx (tk_dc d_M_deliver 15 rfl) rfl ?_
  refine v_getC cx 208 (tk_dc d_M_deliver 16 rfl) f_M_117 o_M (by decide) (by rfl) ?_
  refine v_iload_n cx (tk_dc d_M_deliver 17 rfl) rfl ?_
  refine w_iald cx (tk_dc d_M_deliver 18 rfl) a_208 (8 * i) (rfl) (by omega) (by decide) ?_
  refine v_eqi (nI 1) (hl0) ?_
  refine v_istore_n (lo' := [_, _, _, _, _, _, _, _, _, _, _, _]) cx (tk_dc d_M_deliver 19 rfl) (by decide) rfl ?_
  refine v_aload_n cx (tk_dc d_M_deliver 20 rfl) rfl ?_
  refine v_getC cx 208 (tk_dc d_M_deliver 21 rfl) f_M_117 o_M (by decide) (by rfl) ?_
  refine v_iload_n cx (tk_dc d_M_deliver 22 rfl) rfl ?_
  refine v_iconst cx (tk_dc d_M_deliver 23 rfl) (1) (by decide) ?_
  refine v_iadd cx (tk_dc d_M_deliver 24 rfl) ?_
  refine w_iald cx (tk_dc d_M_deliver 25 rfl) a_208 (8 * i + 1) (by rw [show (1 : Int32) = nI 1 from rfl, nI_add]) (by omega) (by decide) ?_
  refine v_eqi (nI f) (hl1) ?_
  refine v_istore (lo' := [_, _, _, _, _, _, _, _, _, _, _, _]) cx (tk_dc d_M_deliver 26 rfl) (by decide) rfl ?_
  refine v_aload_n cx (tk_dc d_M_deliver 27 rfl) rfl ?_
  refine v_getC cx 208 (tk_dc d_M_deliver 28 rfl) f_M_117 o_M (by decide) (by rfl) ?_
  refine v_iload_n cx (tk_dc d_M_deliver 29 rfl) rfl ?_
  refine v_iconst cx (tk_dc d_M_deliver 30 rfl) (2) (by decide) ?_
  refine v_iadd cx (tk_dc d_M_deliver 31 rfl) ?_
  refine w_iald cx (tk_dc d_M_deliver 32 rfl) a_208 (8 * i + 2) (by rw [show (2 : Int32) = nI 2 from rfl, nI_add]) (by omega) (by decide) ?_
  refine v_eqi (nI t) (hl2) ?_
  refine v_istore (lo' := [_, _, _, _, _, _, _, _, _, _, _, _]) cx (tk_dc d_M_deliver 33 rfl) (by decide) rfl ?_
  refine v_aload_n cx (tk_dc d_M_deliver 34 rfl) rfl ?_
  refine v_getC cx 208 (tk_dc d_M_deliver 35 rfl) f_M_117 o_M (by decide) (by rfl) ?_
  refine v_iload_n cx (tk_dc d_M_deliver 36 rfl) rfl ?_
  refine v_iconst cx (tk_dc d_M_deliver 37 rfl) (3) (by decide) ?_
  refine v_iadd cx (tk_dc d_M_deliver 38 rfl) ?_
  refine w_iald cx (tk_dc d_M_deliver 39 rfl) a_208 (8 * i + 3) (by rw [show (3 : Int32) = nI 3 from rfl, nI_add]) (by omega) (by decide) ?_
  refine v_eqi (nI j) (hl3) ?_
  refine v_istore (lo' := [_, _, _, _, _, _, _, _, _, _, _, _]) cx (tk_dc d_M_deliver 40 rfl) (by decide) rfl ?_
  refine v_aload_n cx (tk_dc d_M_deliver 41 rfl) rfl ?_
  refine v_getC cx 208 (tk_dc d_M_deliver 42 rfl) f_M_117 o_M (by decide) (by rfl) ?_
  refine v_iload_n cx (tk_dc d_M_deliver 43 rfl) rfl ?_
  refine v_iconst cx (tk_dc d_M_deliver 44 rfl) (4) (by decide) ?_
  refine v_iadd cx (tk_dc d_M_deliver 45 rfl) ?_
  refine w_iald cx (tk_dc d_M_deliver 46 rfl) a_208 (8 * i + 4) (by rw [show (4 : Int32) = nI 4 from rfl, nI_add]) (by omega) (by decide) ?_
  refine v_eqi (b) (hl4) ?_
  refine v_istore (lo' := [_, _, _, _, _, _, _, _, _, _, _, _]) cx (tk_dc d_M_deliver 47 rfl) (by decide) rfl ?_
  refine v_aload_n cx (tk_dc d_M_deliver 48 rfl) rfl ?_
  refine v_getC cx 208 (tk_dc d_M_deliver 49 rfl) f_M_117 o_M (by decide) (by rfl) ?_
  refine v_iload_n cx (tk_dc d_M_deliver 50 rfl) rfl ?_
  refine v_iconst cx (tk_dc d_M_deliver 51 rfl) (5) (by decide) ?_
  refine v_iadd cx (tk_dc d_M_deliver 52 rfl) ?_
  refine w_iald cx (tk_dc d_M_deliver 53 rfl) a_208 (8 * i + 5) (by rw [show (5 : Int32) = nI 5 from rfl, nI_add]) (by omega) (by decide) ?_
  refine v_eqi (mm) (hl5) ?_
  refine v_istore (lo' := [_, _, _, _, _, _, _, _, _, _, _, _]) cx (tk_dc d_M_deliver 54 rfl) (by decide) rfl ?_
  refine v_aload_n cx (tk_dc d_M_deliver 55 rfl) rfl ?_
  refine v_getC cx 208 (tk_dc d_M_deliver 56 rfl) f_M_117 o_M (by decide) (by rfl) ?_
  refine v_iload_n cx (tk_dc d_M_deliver 57 rfl) rfl ?_
  refine v_bipush cx (tk_dc d_M_deliver 58 rfl) (6) (by decide) ?_
  refine v_iadd cx (tk_dc d_M_deliver 59 rfl) ?_
  refine w_iald cx (tk_dc d_M_deliver 60 rfl) a_208 (8 * i + 6) (by rw [show (6 : Int32) = nI 6 from rfl, nI_add]) (by omega) (by decide) ?_
  refine v_eqi (g) (hl6) ?_
  refine v_istore (lo' := [_, _, _, _, _, _, _, _, _, _, _, _]) cx (tk_dc d_M_deliver 61 rfl) (by decide) rfl ?_
  refine v_aload_n cx (tk_dc d_M_deliver 62 rfl) rfl ?_
  refine v_getC cx 208 (tk_dc d_M_deliver 63 rfl) f_M_117 o_M (by decide) (by rfl) ?_
  refine v_iload_n cx (tk_dc d_M_deliver 64 rfl) rfl ?_
  refine v_bipush cx (tk_dc d_M_deliver 65 rfl) (7) (by decide) ?_
  refine v_iadd cx (tk_dc d_M_deliver 66 rfl) ?_
  refine w_iald cx (tk_dc d_M_deliver 67 rfl) a_208 (8 * i + 7) (by rw [show (7 : Int32) = nI 7 from rfl, nI_add]) (by omega) (by decide) ?_
  refine v_eqi (ab) (hl7) ?_
  refine v_istore (lo' := [_, _, _, _, _, _, _, _, _, _, _, _]) cx (tk_dc d_M_deliver 68 rfl) (by decide) rfl ?_
  refine v_aload_n cx (tk_dc d_M_deliver 69 rfl) rfl ?_
  refine v_iload_n cx (tk_dc d_M_deliver 70 rfl) rfl ?_
  refine v_callV (rest := _) cx (tk_dc d_M_deliver 71 rfl) m_M_242 kn_M_remove kv_M_remove k_M_remove o_M (by decide) rfl (c_M_remove hc hi hM) rfl rfl (Nat.le_of_ble_eq_true rfl) (by decide) ?_
  refine v_iload_n cx (tk_dc d_M_deliver 72 rfl) rfl ?_
  refine v_iconst cx (tk_dc d_M_deliver 73 rfl) (4) (by decide) ?_
  refine v_icmp_ne cx (tk_dc d_M_deliver 74 rfl) 137 (by decide) (fun _ => ?_) (fun h => absurd h (by decide))
  refine v_aload_n cx (tk_dc d_M_deliver 88 rfl) rfl ?_
  refine v_getC cx 193 (tk_dc d_M_deliver 89 rfl) f_M_72 o_M (by decide) (by rfl) ?_
  refine v_iload cx (tk_dc d_M_deliver 90 rfl) rfl ?_
  refine w_zald cx (tk_dc d_M_deliver 91 rfl) a_193 t (rfl) (by omega) (by decide) ?_
  refine v_eqi (M.1 193 t) (m_rem_at (by omega) (by omega)) ?_
  refine v_if_ne cx (tk_dc d_M_deliver 92 rfl) 149 (by decide) (fun h144 => ?_) (fun h144 => ?_)
  · have g144 : ¬ M.1 193 t = 0 := h144
    refine v_bipush cx (tk_dc d_M_deliver 95 rfl) (8) (by decide) ?_
    refine v_iload cx (tk_dc d_M_deliver 96 rfl) rfl ?_
    refine v_imul cx (tk_dc d_M_deliver 97 rfl) ?_
    refine v_iload cx (tk_dc d_M_deliver 98 rfl) rfl ?_
    refine v_iadd cx (tk_dc d_M_deliver 99 rfl) ?_
    refine v_eqi (nI (8 * t + j)) (by rw [show (8 : Int32) = nI 8 from rfl, pk_mul, nI_add]) ?_
    refine v_istore (lo' := [_, _, _, _, _, _, _, _, _, _, _, _]) cx (tk_dc d_M_deliver 100 rfl) (by decide) rfl ?_
    refine v_iload_n cx (tk_dc d_M_deliver 101 rfl) rfl ?_
    refine v_if_ne cx (tk_dc d_M_deliver 102 rfl) 225 (by decide) (fun _ => ?_) (fun h => absurd h (by decide))
    refine v_iload_n cx (tk_dc d_M_deliver 137 rfl) rfl ?_
    refine v_iconst cx (tk_dc d_M_deliver 138 rfl) (1) (by decide) ?_
    refine v_icmp_ne cx (tk_dc d_M_deliver 139 rfl) 249 (by decide) (fun h => absurd (rfl) h) (fun _ => ?_)
    refine v_aload_n cx (tk_dc d_M_deliver 140 rfl) rfl ?_
    refine v_iload cx (tk_dc d_M_deliver 141 rfl) rfl ?_
    refine v_iload cx (tk_dc d_M_deliver 142 rfl) rfl ?_
    refine v_iload cx (tk_dc d_M_deliver 143 rfl) rfl ?_
    refine v_iload cx (tk_dc d_M_deliver 144 rfl) rfl ?_
    refine v_iload cx (tk_dc d_M_deliver 145 rfl) rfl ?_
    refine v_iload cx (tk_dc d_M_deliver 146 rfl) rfl ?_
    refine v_callVR (rest := _) cx (tk_dc d_M_deliver 147 rfl) m_M_249 kn_M_promised kv_M_promised k_M_promised o_M (by decide) rfl (c_M_promised (G := G) (nw := nw) (cn := cn - 1) m_rem_c (by omega) (fun q hq => (hG q hq).ce m_rem_ce) (fun q hq => by rw [m_rem_at (by omega) (by omega)]; exact hkn q hq) (by rw [m_rem_at (by omega) (by omega)]; exact hnw) hn0 hn1 ht hj hmm (by rw [m_rem_at (by omega) (by omega)]; exact hmo)) rfl rfl (Nat.le_of_ble_eq_true rfl) (by decide) (?_)
    rintro _ M9 ⟨rfl, sc⟩
    refine v_goto cx (tk_dc d_M_deliver 148 rfl) 457 (by decide) ?_
    refine v_iload_n cx (tk_dc d_M_deliver 263 rfl) rfl ?_
    exact v_iretR cx hB (tk_dc d_M_deliver 264 rfl) (⟨rfl, by unfold m_dl1; rw [if_neg g144]; exact sc⟩)
  · have g144 : M.1 193 t = 0 := h144
    refine v_iload_n cx (tk_dc d_M_deliver 93 rfl) rfl ?_
    exact v_iretR cx hB (tk_dc d_M_deliver 94 rfl) (⟨rfl, by unfold m_dl1; rw [if_pos g144]; exact SC.rf⟩)
