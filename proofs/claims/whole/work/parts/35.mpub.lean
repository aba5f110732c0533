/-! the other side's calls, first half -/
theorem b01_d {P : Prop} [Decidable P] (h : P) : ¬ b01 (decide P) = 0 := by
  rw [decide_eq_true h]
  decide
def cz (M : tk_M) : tk_M := wI M 172 0 0
theorem inN {z n : Nat} (hn : n < 1000) (hz : z < n) : ¬ nI z < 0 ∧ nI z < nI n := ⟨nI_pos (by omega), nI_lt hz (by omega)⟩
theorem inM {a : Int} (h1 : 0 ≤ a) (h2 : a ≤ 52595999) : ¬ iI a < 0 ∧ iI a ≤ 52595999 := ⟨fun w => absurd ((iI_lt (b := 0) (by omega) (by omega) (by omega) (by omega)).mp w) (by omega), (iI_le (b := 52595999) (by omega) (by omega) (by omega) (by omega)).mpr h2⟩
theorem exN {x : Int32} {n : Nat} (hn : n < 1000) (h : ¬ x < 0 ∧ x < nI n) : ∃ z, z < n ∧ x = nI z := by
  rcases pk_ix x (n := n) (by omega) with w | w | w
  · exact absurd w h.1
  · exact absurd h.2 (Int32.not_lt.mpr w)
  · exact w
theorem exM {x : Int32} (h : ¬ x < 0 ∧ x ≤ 52595999) : ∃ a : Int, 0 ≤ a ∧ a ≤ 52595999 ∧ x = iI a := by
  refine ⟨x.toInt, ?_, ?_, iI_of x⟩
  · have := Int32.not_lt.mp h.1
    exact Int32.le_iff_toInt_le.mp this
  · exact Int32.le_iff_toInt_le.mp h.2
theorem cz_at (M : tk_M) {a : Nat} (b : Nat) (h : (a == 172) = false) : (cz M).1 a b = M.1 a b := wI_ne (fun w => by rw [w.1] at h; exact absurd h (by decide))
theorem cz_f (M : tk_M) {b : Nat} (h : (b == 0) = false) : (cz M).1 172 b = M.1 172 b := wI_nk h
set_option maxHeartbeats 4000000 in
set_option maxRecDepth 100000 in
theorem c_M_time {l : Launch} {E : tk_E} {M : tk_M} {x : Int32}  : tk_Mt l y_M_time b_M_time 2 (some .boolean) 0 E [.ref (E.1 + 172), .int x] M (if x < M.1 172 1 ∨ 52595999 < x then cz M else wI (cz M) 172 1 x) (some (.int (if x < M.1 172 1 ∨ 52595999 < x then 0 else 1))) := by
  refine tk_ofV (by decide +kernel) [some (.ref (E.1 + 172)), some (.int x)] rfl (Nat.le_of_ble_eq_true rfl) ?_
  intro p e s m args below meth c cx hB
  refine v_aload_n cx (tk_dc d_M_time 0 rfl) rfl ?_
  refine v_iconst cx (tk_dc d_M_time 1 rfl) (0) (by decide) ?_
  refine v_putI cx (tk_dc d_M_time 2 rfl) f_M_120 o_M (by decide) (by rfl) ⟨rfl, rfl⟩ ?_
  refine v_iload_n cx (tk_dc d_M_time 3 rfl) rfl ?_
  refine v_aload_n cx (tk_dc d_M_time 4 rfl) rfl ?_
  refine v_getI cx (tk_dc d_M_time 5 rfl) f_M_129 o_M (by decide) (by rfl) ?_
  refine v_icmp_lt cx (tk_dc d_M_time 6 rfl) 19 (by decide) (fun h10 => ?_) (fun h10 => ?_)
  · refine v_iconst cx (tk_dc d_M_time 10 rfl) (0) (by decide) ?_
    exact v_zret cx hB (tk_dc d_M_time 11 rfl) (by first | exact Or.inl rfl | exact Or.inr rfl | exact b01_01 _ | assumption) (by (try simp only [wI_nk, Nat.reduceBEq] at h10); simp [h10, Int32.not_le.mpr h10]) (by (try simp only [wI_nk, Nat.reduceBEq] at h10); simp [cz, h10, Int32.not_le.mpr h10])
  · refine v_iload_n cx (tk_dc d_M_time 7 rfl) rfl ?_
    refine v_ldc cx (tk_dc d_M_time 8 rfl) c_M_128 ?_
    refine v_icmp_le cx (tk_dc d_M_time 9 rfl) 21 (by decide) (fun h16 => ?_) (fun h16 => ?_)
    · refine v_aload_n cx (tk_dc d_M_time 12 rfl) rfl ?_
      refine v_iload_n cx (tk_dc d_M_time 13 rfl) rfl ?_
      refine v_putI cx (tk_dc d_M_time 14 rfl) f_M_129 o_M (by decide) (by rfl) ⟨rfl, rfl⟩ ?_
      refine v_iconst cx (tk_dc d_M_time 15 rfl) (1) (by decide) ?_
      exact v_zret cx hB (tk_dc d_M_time 16 rfl) (by first | exact Or.inl rfl | exact Or.inr rfl | exact b01_01 _ | assumption) (by (try simp only [wI_nk, Nat.reduceBEq] at h10 h16); simp [h10, Int32.not_lt.mp h10, h16, Int32.not_lt.mpr h16]) (by (try simp only [wI_nk, Nat.reduceBEq] at h10 h16); simp [cz, h10, Int32.not_lt.mp h10, h16, Int32.not_lt.mpr h16])
    · refine v_iconst cx (tk_dc d_M_time 10 rfl) (0) (by decide) ?_
      exact v_zret cx hB (tk_dc d_M_time 11 rfl) (by first | exact Or.inl rfl | exact Or.inr rfl | exact b01_01 _ | assumption) (by (try simp only [wI_nk, Nat.reduceBEq] at h10 h16); simp [h10, Int32.not_lt.mp h10, h16, Int32.not_le.mp h16]) (by (try simp only [wI_nk, Nat.reduceBEq] at h10 h16); simp [cz, h10, Int32.not_lt.mp h10, h16, Int32.not_le.mp h16])

set_option maxHeartbeats 4000000 in
set_option maxRecDepth 100000 in
theorem n_M_shift {l : Launch} {E : tk_E} {M : tk_M} {x y w : Int32} (hbad : ¬ ((¬ x < 0 ∧ x < 4) ∧ (¬ y < 0 ∧ y ≤ 52595999) ∧ (¬ w < -900) ∧ (¬ 900 < w))) : tk_Mt l y_M_shift b_M_shift 4 (some .boolean) 1 E [.ref (E.1 + 172), .int x, .int y, .int w] M (cz M) (some (.int 0)) := by
  refine tk_ofV (by decide +kernel) [some (.ref (E.1 + 172)), some (.int x), some (.int y), some (.int w)] rfl (Nat.le_of_ble_eq_true rfl) ?_
  intro p e s m args below meth c cx hB
  refine v_aload_n cx (tk_dc d_M_shift 0 rfl) rfl ?_
  refine v_iconst cx (tk_dc d_M_shift 1 rfl) (0) (by decide) ?_
  refine v_putI cx (tk_dc d_M_shift 2 rfl) f_M_120 o_M (by decide) (by rfl) ⟨rfl, rfl⟩ ?_
  refine v_iload_n cx (tk_dc d_M_shift 3 rfl) rfl ?_
  refine v_callS (rest := _) cx (tk_dc d_M_shift 4 rfl) m_M_132 ks_M_isZone k_M_isZone (c_M_isZone) rfl rfl (Nat.le_of_ble_eq_true rfl) (by decide) ?_
  refine v_if_eq cx (tk_dc d_M_shift 5 rfl) 44 (by decide) (fun h9 => ?_) (fun h9 => ?_)
  · refine v_iconst cx (tk_dc d_M_shift 21 rfl) (0) (by decide) ?_
    exact v_zret cx hB (tk_dc d_M_shift 22 rfl) (by first | exact Or.inl rfl | exact Or.inr rfl | exact b01_01 _ | assumption) (rfl) (rfl)
  · have g9 := of_decide_eq_true (b01_nz h9)
    refine v_iload_n cx (tk_dc d_M_shift 6 rfl) rfl ?_
    refine v_callS (rest := _) cx (tk_dc d_M_shift 7 rfl) m_M_136 ks_M_isMinute k_M_isMinute (c_M_isMinute) rfl rfl (Nat.le_of_ble_eq_true rfl) (by decide) ?_
    refine v_if_eq cx (tk_dc d_M_shift 8 rfl) 44 (by decide) (fun h16 => ?_) (fun h16 => ?_)
    · refine v_iconst cx (tk_dc d_M_shift 21 rfl) (0) (by decide) ?_
      exact v_zret cx hB (tk_dc d_M_shift 22 rfl) (by first | exact Or.inl rfl | exact Or.inr rfl | exact b01_01 _ | assumption) (rfl) (rfl)
    · have g16 := of_decide_eq_true (b01_nz h16)
      refine v_iload_n cx (tk_dc d_M_shift 9 rfl) rfl ?_
      refine v_sipush cx (tk_dc d_M_shift 10 rfl) (-900) (by decide) ?_
      refine v_icmp_lt cx (tk_dc d_M_shift 11 rfl) 44 (by decide) (fun h23 => ?_) (fun h23 => ?_)
      · refine v_iconst cx (tk_dc d_M_shift 21 rfl) (0) (by decide) ?_
        exact v_zret cx hB (tk_dc d_M_shift 22 rfl) (by first | exact Or.inl rfl | exact Or.inr rfl | exact b01_01 _ | assumption) (rfl) (rfl)
      · refine v_iload_n cx (tk_dc d_M_shift 12 rfl) rfl ?_
        refine v_sipush cx (tk_dc d_M_shift 13 rfl) (900) (by decide) ?_
        refine v_icmp_gt cx (tk_dc d_M_shift 14 rfl) 44 (by decide) (fun h30 => ?_) (fun h30 => ?_)
        · refine v_iconst cx (tk_dc d_M_shift 21 rfl) (0) (by decide) ?_
          exact v_zret cx hB (tk_dc d_M_shift 22 rfl) (by first | exact Or.inl rfl | exact Or.inr rfl | exact b01_01 _ | assumption) (rfl) (rfl)
        · exact absurd ⟨g9, g16, h23, h30⟩ hbad

set_option maxHeartbeats 4000000 in
set_option maxRecDepth 100000 in
theorem c_M_shift {l : Launch} {E : tk_E} {M : tk_M} {z k : Nat} {a b : Int} (hz : z < 4) (h1 : 0 ≤ a) (h2 : a ≤ 52595999) (h3 : -900 ≤ b) (h4 : b ≤ 900) (hk8 : k ≤ 8) (hk : M.1 175 z = nI k) : tk_Mt l y_M_shift b_M_shift 4 (some .boolean) 1 E [.ref (E.1 + 172), .int (nI z), .int (iI a), .int (iI b)] M (if k = 8 ∨ (0 < k ∧ iI a ≤ M.1 173 (8 * z + (k - 1))) then cz M else wI (wI (wI (cz M) 173 (8 * z + k) (iI a)) 174 (8 * z + k) (iI b)) 175 z (nI (k + 1))) (some (.int (if k = 8 ∨ (0 < k ∧ iI a ≤ M.1 173 (8 * z + (k - 1))) then 0 else 1))) := by
  refine tk_ofV (by decide +kernel) [some (.ref (E.1 + 172)), some (.int (nI z)), some (.int (iI a)), some (.int (iI b))] rfl (Nat.le_of_ble_eq_true rfl) ?_
  intro p e s m args below meth c cx hB
  refine v_aload_n cx (tk_dc d_M_shift 0 rfl) rfl ?_
  refine v_iconst cx (tk_dc d_M_shift 1 rfl) (0) (by decide) ?_
  refine v_putI cx (tk_dc d_M_shift 2 rfl) f_M_120 o_M (by decide) (by rfl) ⟨rfl, rfl⟩ ?_
  refine v_iload_n cx (tk_dc d_M_shift 3 rfl) rfl ?_
  refine v_callS (rest := _) cx (tk_dc d_M_shift 4 rfl) m_M_132 ks_M_isZone k_M_isZone (c_M_isZone) rfl rfl (Nat.le_of_ble_eq_true rfl) (by decide) ?_
  refine v_if_eq cx (tk_dc d_M_shift 5 rfl) 44 (by decide) (fun h => absurd h (b01_d (inN (n := 4) (by decide) hz))) (fun _ => ?_)
  refine v_iload_n cx (tk_dc d_M_shift 6 rfl) rfl ?_
  refine v_callS (rest := _) cx (tk_dc d_M_shift 7 rfl) m_M_136 ks_M_isMinute k_M_isMinute (c_M_isMinute) rfl rfl (Nat.le_of_ble_eq_true rfl) (by decide) ?_
  refine v_if_eq cx (tk_dc d_M_shift 8 rfl) 44 (by decide) (fun h => absurd h (b01_d (inM h1 h2))) (fun _ => ?_)
  refine v_iload_n cx (tk_dc d_M_shift 9 rfl) rfl ?_
  refine v_sipush cx (tk_dc d_M_shift 10 rfl) (-900) (by decide) ?_
  refine v_icmp_lt cx (tk_dc d_M_shift 11 rfl) 44 (by decide) (fun h => absurd h (fun q => absurd ((iI_lt (b := -900) (by omega) (by omega) (by omega) (by omega)).mp q) (by omega))) (fun _ => ?_)
  refine v_iload_n cx (tk_dc d_M_shift 12 rfl) rfl ?_
  refine v_sipush cx (tk_dc d_M_shift 13 rfl) (900) (by decide) ?_
  refine v_icmp_gt cx (tk_dc d_M_shift 14 rfl) 44 (by decide) (fun h => absurd h (fun q => absurd ((iI_lt (a := 900) (by omega) (by omega) (by omega) (by omega)).mp q) (by omega))) (fun _ => ?_)
  refine v_aload_n cx (tk_dc d_M_shift 15 rfl) rfl ?_
  refine v_getC cx 175 (tk_dc d_M_shift 16 rfl) f_M_16 o_M (by decide) (by rfl) ?_
  refine v_iload_n cx (tk_dc d_M_shift 17 rfl) rfl ?_
  refine w_iald cx (tk_dc d_M_shift 18 rfl) a_175 z (rfl) (by omega) (by decide) ?_
  refine v_eqi (nI k) (by simp only [wI_ne (show ¬ (175 = 172 ∧ z = 0) by omega), wI_ne (show ¬ (175 = 173 ∧ z = 8 * z + k) by omega), wI_ne (show ¬ (175 = 174 ∧ z = 8 * z + k) by omega)]; exact hk) ?_
  refine v_bipush cx (tk_dc d_M_shift 19 rfl) (8) (by decide) ?_
  refine v_icmp_ne cx (tk_dc d_M_shift 20 rfl) 46 (by decide) (fun h41 => ?_) (fun h41 => ?_)
  · have g41 : ¬ k = 8 := fun q => h41 (by rw [q]; rfl)
    refine v_aload_n cx (tk_dc d_M_shift 23 rfl) rfl ?_
    refine v_getC cx 175 (tk_dc d_M_shift 24 rfl) f_M_16 o_M (by decide) (by rfl) ?_
    refine v_iload_n cx (tk_dc d_M_shift 25 rfl) rfl ?_
    refine w_iald cx (tk_dc d_M_shift 26 rfl) a_175 z (rfl) (by omega) (by decide) ?_
    refine v_eqi (nI k) (by simp only [wI_ne (show ¬ (175 = 172 ∧ z = 0) by omega), wI_ne (show ¬ (175 = 173 ∧ z = 8 * z + k) by omega), wI_ne (show ¬ (175 = 174 ∧ z = 8 * z + k) by omega)]; exact hk) ?_
    refine v_if_le cx (tk_dc d_M_shift 27 rfl) 79 (by decide) (fun h52 => ?_) (fun h52 => ?_)
    · have g52 : ¬ 0 < k := fun q => absurd h52 (nI_nle q (by omega))
      have g74 : True := trivial
      refine v_aload_n cx (tk_dc d_M_shift 45 rfl) rfl ?_
      refine v_getC cx 173 (tk_dc d_M_shift 46 rfl) f_M_7 o_M (by decide) (by rfl) ?_
      refine v_bipush cx (tk_dc d_M_shift 47 rfl) (8) (by decide) ?_
      refine v_iload_n cx (tk_dc d_M_shift 48 rfl) rfl ?_
      refine v_imul cx (tk_dc d_M_shift 49 rfl) ?_
      refine v_aload_n cx (tk_dc d_M_shift 50 rfl) rfl ?_
      refine v_getC cx 175 (tk_dc d_M_shift 51 rfl) f_M_16 o_M (by decide) (by rfl) ?_
      refine v_iload_n cx (tk_dc d_M_shift 52 rfl) rfl ?_
      refine w_iald cx (tk_dc d_M_shift 53 rfl) a_175 z (rfl) (by omega) (by decide) ?_
      refine v_eqi (nI k) (by simp only [wI_ne (show ¬ (175 = 172 ∧ z = 0) by omega), wI_ne (show ¬ (175 = 173 ∧ z = 8 * z + k) by omega), wI_ne (show ¬ (175 = 174 ∧ z = 8 * z + k) by omega)]; exact hk) ?_
      refine v_iadd cx (tk_dc d_M_shift 54 rfl) ?_
      refine v_iload_n cx (tk_dc d_M_shift 55 rfl) rfl ?_
      refine w_iast cx (tk_dc d_M_shift 56 rfl) a_173 (8 * z + k) (by rw [show (8 : Int32) = nI 8 from rfl, pk_mul, nI_add]) (by omega) (by decide) ?_
      refine v_aload_n cx (tk_dc d_M_shift 57 rfl) rfl ?_
      refine v_getC cx 174 (tk_dc d_M_shift 58 rfl) f_M_13 o_M (by decide) (by rfl) ?_
      refine v_bipush cx (tk_dc d_M_shift 59 rfl) (8) (by decide) ?_
      refine v_iload_n cx (tk_dc d_M_shift 60 rfl) rfl ?_
      refine v_imul cx (tk_dc d_M_shift 61 rfl) ?_
      refine v_aload_n cx (tk_dc d_M_shift 62 rfl) rfl ?_
      refine v_getC cx 175 (tk_dc d_M_shift 63 rfl) f_M_16 o_M (by decide) (by rfl) ?_
      refine v_iload_n cx (tk_dc d_M_shift 64 rfl) rfl ?_
      refine w_iald cx (tk_dc d_M_shift 65 rfl) a_175 z (rfl) (by omega) (by decide) ?_
      refine v_eqi (nI k) (by simp only [wI_ne (show ¬ (175 = 172 ∧ z = 0) by omega), wI_ne (show ¬ (175 = 173 ∧ z = 8 * z + k) by omega), wI_ne (show ¬ (175 = 174 ∧ z = 8 * z + k) by omega)]; exact hk) ?_
      refine v_iadd cx (tk_dc d_M_shift 66 rfl) ?_
      refine v_iload_n cx (tk_dc d_M_shift 67 rfl) rfl ?_
      refine w_iast cx (tk_dc d_M_shift 68 rfl) a_174 (8 * z + k) (by rw [show (8 : Int32) = nI 8 from rfl, pk_mul, nI_add]) (by omega) (by decide) ?_
      refine v_aload_n cx (tk_dc d_M_shift 69 rfl) rfl ?_
      refine v_getC cx 175 (tk_dc d_M_shift 70 rfl) f_M_16 o_M (by decide) (by rfl) ?_
      refine v_iload_n cx (tk_dc d_M_shift 71 rfl) rfl ?_
      refine v_dup2 cx (tk_dc d_M_shift 72 rfl) rfl rfl ?_
      refine w_iald cx (tk_dc d_M_shift 73 rfl) a_175 z (rfl) (by omega) (by decide) ?_
      refine v_eqi (nI k) (by simp only [wI_ne (show ¬ (175 = 172 ∧ z = 0) by omega), wI_ne (show ¬ (175 = 173 ∧ z = 8 * z + k) by omega), wI_ne (show ¬ (175 = 174 ∧ z = 8 * z + k) by omega)]; exact hk) ?_
      refine v_iconst cx (tk_dc d_M_shift 74 rfl) (1) (by decide) ?_
      refine v_iadd cx (tk_dc d_M_shift 75 rfl) ?_
      refine v_eqi (nI (k + 1)) (nI_succ k).symm ?_
      refine w_iast cx (tk_dc d_M_shift 76 rfl) a_175 z (rfl) (by omega) (by decide) ?_
      refine v_iconst cx (tk_dc d_M_shift 77 rfl) (1) (by decide) ?_
      exact v_zret cx hB (tk_dc d_M_shift 78 rfl) (by first | exact Or.inl rfl | exact Or.inr rfl | exact b01_01 _ | assumption) (by simp [g41, g52, g74]) (by simp [g41, g52, g74, cz])
    · have g52 : 0 < k := by rcases Nat.eq_zero_or_pos k with q | q; (exact absurd (by rw [q]; decide) h52); exact q
      refine v_aload_n cx (tk_dc d_M_shift 28 rfl) rfl ?_
      refine v_getC cx 173 (tk_dc d_M_shift 29 rfl) f_M_7 o_M (by decide) (by rfl) ?_
      refine v_bipush cx (tk_dc d_M_shift 30 rfl) (8) (by decide) ?_
      refine v_iload_n cx (tk_dc d_M_shift 31 rfl) rfl ?_
      refine v_imul cx (tk_dc d_M_shift 32 rfl) ?_
      refine v_aload_n cx (tk_dc d_M_shift 33 rfl) rfl ?_
      refine v_getC cx 175 (tk_dc d_M_shift 34 rfl) f_M_16 o_M (by decide) (by rfl) ?_
      refine v_iload_n cx (tk_dc d_M_shift 35 rfl) rfl ?_
      refine w_iald cx (tk_dc d_M_shift 36 rfl) a_175 z (rfl) (by omega) (by decide) ?_
      refine v_eqi (nI k) (by simp only [wI_ne (show ¬ (175 = 172 ∧ z = 0) by omega), wI_ne (show ¬ (175 = 173 ∧ z = 8 * z + k) by omega), wI_ne (show ¬ (175 = 174 ∧ z = 8 * z + k) by omega)]; exact hk) ?_
      refine v_iadd cx (tk_dc d_M_shift 37 rfl) ?_
      refine v_iconst cx (tk_dc d_M_shift 38 rfl) (1) (by decide) ?_
      refine v_isub cx (tk_dc d_M_shift 39 rfl) ?_
      refine w_iald cx (tk_dc d_M_shift 40 rfl) a_173 (8 * z + (k - 1)) (by rw [show (8 : Int32) = nI 8 from rfl, pk_mul, nI_add, nI_sub1 (by omega)]; congr 1; omega) (by omega) (by decide) ?_
      refine v_eqi (M.1 173 (8 * z + (k - 1))) (wI_ne (by omega)) ?_
      refine v_iload_n cx (tk_dc d_M_shift 41 rfl) rfl ?_
      refine v_icmp_lt cx (tk_dc d_M_shift 42 rfl) 79 (by decide) (fun h74 => ?_) (fun h74 => ?_)
      · have g74 : ¬ iI a ≤ M.1 173 (8 * z + (k - 1)) := Int32.not_le.mpr h74
        refine v_aload_n cx (tk_dc d_M_shift 45 rfl) rfl ?_
        refine v_getC cx 173 (tk_dc d_M_shift 46 rfl) f_M_7 o_M (by decide) (by rfl) ?_
        refine v_bipush cx (tk_dc d_M_shift 47 rfl) (8) (by decide) ?_
        refine v_iload_n cx (tk_dc d_M_shift 48 rfl) rfl ?_
        refine v_imul cx (tk_dc d_M_shift 49 rfl) ?_
        refine v_aload_n cx (tk_dc d_M_shift 50 rfl) rfl ?_
        refine v_getC cx 175 (tk_dc d_M_shift 51 rfl) f_M_16 o_M (by decide) (by rfl) ?_
        refine v_iload_n cx (tk_dc d_M_shift 52 rfl) rfl ?_
        refine w_iald cx (tk_dc d_M_shift 53 rfl) a_175 z (rfl) (by omega) (by decide) ?_
        refine v_eqi (nI k) (by simp only [wI_ne (show ¬ (175 = 172 ∧ z = 0) by omega), wI_ne (show ¬ (175 = 173 ∧ z = 8 * z + k) by omega), wI_ne (show ¬ (175 = 174 ∧ z = 8 * z + k) by omega)]; exact hk) ?_
        refine v_iadd cx (tk_dc d_M_shift 54 rfl) ?_
        refine v_iload_n cx (tk_dc d_M_shift 55 rfl) rfl ?_
        refine w_iast cx (tk_dc d_M_shift 56 rfl) a_173 (8 * z + k) (by rw [show (8 : Int32) = nI 8 from rfl, pk_mul, nI_add]) (by omega) (by decide) ?_
        refine v_aload_n cx (tk_dc d_M_shift 57 rfl) rfl ?_
        refine v_getC cx 174 (tk_dc d_M_shift 58 rfl) f_M_13 o_M (by decide) (by rfl) ?_
        refine v_bipush cx (tk_dc d_M_shift 59 rfl) (8) (by decide) ?_
        refine v_iload_n cx (tk_dc d_M_shift 60 rfl) rfl ?_
        refine v_imul cx (tk_dc d_M_shift 61 rfl) ?_
        refine v_aload_n cx (tk_dc d_M_shift 62 rfl) rfl ?_
        refine v_getC cx 175 (tk_dc d_M_shift 63 rfl) f_M_16 o_M (by decide) (by rfl) ?_
        refine v_iload_n cx (tk_dc d_M_shift 64 rfl) rfl ?_
        refine w_iald cx (tk_dc d_M_shift 65 rfl) a_175 z (rfl) (by omega) (by decide) ?_
        refine v_eqi (nI k) (by simp only [wI_ne (show ¬ (175 = 172 ∧ z = 0) by omega), wI_ne (show ¬ (175 = 173 ∧ z = 8 * z + k) by omega), wI_ne (show ¬ (175 = 174 ∧ z = 8 * z + k) by omega)]; exact hk) ?_
        refine v_iadd cx (tk_dc d_M_shift 66 rfl) ?_
        refine v_iload_n cx (tk_dc d_M_shift 67 rfl) rfl ?_
        refine w_iast cx (tk_dc d_M_shift 68 rfl) a_174 (8 * z + k) (by rw [show (8 : Int32) = nI 8 from rfl, pk_mul, nI_add]) (by omega) (by decide) ?_
        refine v_aload_n cx (tk_dc d_M_shift 69 rfl) rfl ?_
        refine v_getC cx 175 (tk_dc d_M_shift 70 rfl) f_M_16 o_M (by decide) (by rfl) ?_
        refine v_iload_n cx (tk_dc d_M_shift 71 rfl) rfl ?_
        refine v_dup2 cx (tk_dc d_M_shift 72 rfl) rfl rfl ?_
        refine w_iald cx (tk_dc d_M_shift 73 rfl) a_175 z (rfl) (by omega) (by decide) ?_
        refine v_eqi (nI k) (by simp only [wI_ne (show ¬ (175 = 172 ∧ z = 0) by omega), wI_ne (show ¬ (175 = 173 ∧ z = 8 * z + k) by omega), wI_ne (show ¬ (175 = 174 ∧ z = 8 * z + k) by omega)]; exact hk) ?_
        refine v_iconst cx (tk_dc d_M_shift 74 rfl) (1) (by decide) ?_
        refine v_iadd cx (tk_dc d_M_shift 75 rfl) ?_
        refine v_eqi (nI (k + 1)) (nI_succ k).symm ?_
        refine w_iast cx (tk_dc d_M_shift 76 rfl) a_175 z (rfl) (by omega) (by decide) ?_
        refine v_iconst cx (tk_dc d_M_shift 77 rfl) (1) (by decide) ?_
        exact v_zret cx hB (tk_dc d_M_shift 78 rfl) (by first | exact Or.inl rfl | exact Or.inr rfl | exact b01_01 _ | assumption) (by simp [g41, g52, g74]) (by simp [g41, g52, g74, cz])
      · have g74 : iI a ≤ M.1 173 (8 * z + (k - 1)) := Int32.not_lt.mp h74
        refine v_iconst cx (tk_dc d_M_shift 43 rfl) (0) (by decide) ?_
        exact v_zret cx hB (tk_dc d_M_shift 44 rfl) (by first | exact Or.inl rfl | exact Or.inr rfl | exact b01_01 _ | assumption) (by simp [g52, g74]) (by simp [g52, g74, cz])
  · have g41 : k = 8 := nI_inj (by omega) (by decide) (show nI k = nI 8 from h41)
    have g52 : True := trivial
    have g74 : True := trivial
    refine v_iconst cx (tk_dc d_M_shift 21 rfl) (0) (by decide) ?_
    exact v_zret cx hB (tk_dc d_M_shift 22 rfl) (by first | exact Or.inl rfl | exact Or.inr rfl | exact b01_01 _ | assumption) (by simp [g41]) (by simp [g41, cz])

set_option maxHeartbeats 4000000 in
set_option maxRecDepth 100000 in
theorem n_M_holiday {l : Launch} {E : tk_E} {M : tk_M} {x y : Int32} (hbad : ¬ ((¬ x < 0 ∧ x < 4) ∧ (¬ y < 0) ∧ (¬ 36524 < y))) : tk_Mt l y_M_holiday b_M_holiday 3 (some .boolean) 1 E [.ref (E.1 + 172), .int x, .int y] M (cz M) (some (.int 0)) := by
  refine tk_ofV (by decide +kernel) [some (.ref (E.1 + 172)), some (.int x), some (.int y)] rfl (Nat.le_of_ble_eq_true rfl) ?_
  intro p e s m args below meth c cx hB
  refine v_aload_n cx (tk_dc d_M_holiday 0 rfl) rfl ?_
  refine v_iconst cx (tk_dc d_M_holiday 1 rfl) (0) (by decide) ?_
  refine v_putI cx (tk_dc d_M_holiday 2 rfl) f_M_120 o_M (by decide) (by rfl) ⟨rfl, rfl⟩ ?_
  refine v_iload_n cx (tk_dc d_M_holiday 3 rfl) rfl ?_
  refine v_callS (rest := _) cx (tk_dc d_M_holiday 4 rfl) m_M_132 ks_M_isZone k_M_isZone (c_M_isZone) rfl rfl (Nat.le_of_ble_eq_true rfl) (by decide) ?_
  refine v_if_eq cx (tk_dc d_M_holiday 5 rfl) 42 (by decide) (fun h9 => ?_) (fun h9 => ?_)
  · refine v_iconst cx (tk_dc d_M_holiday 22 rfl) (0) (by decide) ?_
    exact v_zret cx hB (tk_dc d_M_holiday 23 rfl) (by first | exact Or.inl rfl | exact Or.inr rfl | exact b01_01 _ | assumption) (rfl) (rfl)
  · have g9 := of_decide_eq_true (b01_nz h9)
    refine v_iload_n cx (tk_dc d_M_holiday 6 rfl) rfl ?_
    refine v_if_lt cx (tk_dc d_M_holiday 7 rfl) 42 (by decide) (fun h13 => ?_) (fun h13 => ?_)
    · refine v_iconst cx (tk_dc d_M_holiday 22 rfl) (0) (by decide) ?_
      exact v_zret cx hB (tk_dc d_M_holiday 23 rfl) (by first | exact Or.inl rfl | exact Or.inr rfl | exact b01_01 _ | assumption) (rfl) (rfl)
    · refine v_iload_n cx (tk_dc d_M_holiday 8 rfl) rfl ?_
      refine v_ldc cx (tk_dc d_M_holiday 9 rfl) c_M_139 ?_
      refine v_icmp_gt cx (tk_dc d_M_holiday 10 rfl) 42 (by decide) (fun h19 => ?_) (fun h19 => ?_)
      · refine v_iconst cx (tk_dc d_M_holiday 22 rfl) (0) (by decide) ?_
        exact v_zret cx hB (tk_dc d_M_holiday 23 rfl) (by first | exact Or.inl rfl | exact Or.inr rfl | exact b01_01 _ | assumption) (rfl) (rfl)
      · exact absurd ⟨g9, h13, h19⟩ hbad

set_option maxHeartbeats 4000000 in
set_option maxRecDepth 100000 in
theorem c_M_holiday {l : Launch} {E : tk_E} {M : tk_M} {z k : Nat} {y : Int32} (hz : z < 4) (h1 : ¬ y < 0) (h2 : ¬ 36524 < y) (hk8 : k ≤ 16) (hk : M.1 177 z = nI k) : tk_Mt l y_M_holiday b_M_holiday 3 (some .boolean) 1 E [.ref (E.1 + 172), .int (nI z), .int y] M (if k = 16 ∨ m_hol M z k y = true then cz M else wI (wI (cz M) 176 (16 * z + k) y) 177 z (nI (k + 1))) (some (.int (if k = 16 ∨ m_hol M z k y = true then 0 else 1))) := by
  refine tk_ofV (by decide +kernel) [some (.ref (E.1 + 172)), some (.int (nI z)), some (.int y)] rfl (Nat.le_of_ble_eq_true rfl) ?_
  intro p e s m args below meth c cx hB
  refine v_aload_n cx (tk_dc d_M_holiday 0 rfl) rfl ?_
  refine v_iconst cx (tk_dc d_M_holiday 1 rfl) (0) (by decide) ?_
  refine v_putI cx (tk_dc d_M_holiday 2 rfl) f_M_120 o_M (by decide) (by rfl) ⟨rfl, rfl⟩ ?_
  refine v_iload_n cx (tk_dc d_M_holiday 3 rfl) rfl ?_
  refine v_callS (rest := _) cx (tk_dc d_M_holiday 4 rfl) m_M_132 ks_M_isZone k_M_isZone (c_M_isZone) rfl rfl (Nat.le_of_ble_eq_true rfl) (by decide) ?_
  refine v_if_eq cx (tk_dc d_M_holiday 5 rfl) 42 (by decide) (fun h => absurd h (b01_d (inN (n := 4) (by decide) hz))) (fun _ => ?_)
  refine v_iload_n cx (tk_dc d_M_holiday 6 rfl) rfl ?_
  refine v_if_lt cx (tk_dc d_M_holiday 7 rfl) 42 (by decide) (fun h => absurd h (h1)) (fun _ => ?_)
  refine v_iload_n cx (tk_dc d_M_holiday 8 rfl) rfl ?_
  refine v_ldc cx (tk_dc d_M_holiday 9 rfl) c_M_139 ?_
  refine v_icmp_gt cx (tk_dc d_M_holiday 10 rfl) 42 (by decide) (fun h => absurd h (h2)) (fun _ => ?_)
  refine v_aload_n cx (tk_dc d_M_holiday 11 rfl) rfl ?_
  refine v_getC cx 177 (tk_dc d_M_holiday 12 rfl) f_M_22 o_M (by decide) (by rfl) ?_
  refine v_iload_n cx (tk_dc d_M_holiday 13 rfl) rfl ?_
  refine w_iald cx (tk_dc d_M_holiday 14 rfl) a_177 z (rfl) (by omega) (by decide) ?_
  refine v_eqi (nI k) (by simp only [wI_ne (show ¬ (177 = 172 ∧ z = 0) by omega), wI_ne (show ¬ (177 = 176 ∧ z = 16 * z + k) by omega)]; exact hk) ?_
  refine v_bipush cx (tk_dc d_M_holiday 15 rfl) (16) (by decide) ?_
  refine v_icmp_eq cx (tk_dc d_M_holiday 16 rfl) 42 (by decide) (fun h30 => ?_) (fun h30 => ?_)
  · have g30 : k = 16 := nI_inj (by omega) (by decide) (show nI k = nI 16 from h30)
    have g39 : True := trivial
    refine v_iconst cx (tk_dc d_M_holiday 22 rfl) (0) (by decide) ?_
    exact v_zret cx hB (tk_dc d_M_holiday 23 rfl) (by first | exact Or.inl rfl | exact Or.inr rfl | exact b01_01 _ | assumption) (by simp [g30, g39]) (by simp [g30, g39, cz])
  · have g30 : ¬ k = 16 := fun q => h30 (by rw [q]; rfl)
    refine v_aload_n cx (tk_dc d_M_holiday 17 rfl) rfl ?_
    refine v_iload_n cx (tk_dc d_M_holiday 18 rfl) rfl ?_
    refine v_iload_n cx (tk_dc d_M_holiday 19 rfl) rfl ?_
    refine v_callV (rest := _) cx (tk_dc d_M_holiday 20 rfl) m_M_140 kn_M_isHoliday kv_M_isHoliday k_M_isHoliday o_M (by decide) rfl (c_M_isHoliday hz hk8 (by rw [wI_ne (by omega)]; exact hk)) rfl rfl (Nat.le_of_ble_eq_true rfl) (by decide) ?_
    refine v_eqi (b01 (m_hol M z k y)) (by congr 1) ?_
    refine v_if_eq cx (tk_dc d_M_holiday 21 rfl) 44 (by decide) (fun h39 => ?_) (fun h39 => ?_)
    · have g39 := b01_z h39
      refine v_aload_n cx (tk_dc d_M_holiday 24 rfl) rfl ?_
      refine v_getC cx 176 (tk_dc d_M_holiday 25 rfl) f_M_19 o_M (by decide) (by rfl) ?_
      refine v_bipush cx (tk_dc d_M_holiday 26 rfl) (16) (by decide) ?_
      refine v_iload_n cx (tk_dc d_M_holiday 27 rfl) rfl ?_
      refine v_imul cx (tk_dc d_M_holiday 28 rfl) ?_
      refine v_aload_n cx (tk_dc d_M_holiday 29 rfl) rfl ?_
      refine v_getC cx 177 (tk_dc d_M_holiday 30 rfl) f_M_22 o_M (by decide) (by rfl) ?_
      refine v_iload_n cx (tk_dc d_M_holiday 31 rfl) rfl ?_
      refine w_iald cx (tk_dc d_M_holiday 32 rfl) a_177 z (rfl) (by omega) (by decide) ?_
      refine v_eqi (nI k) (by simp only [wI_ne (show ¬ (177 = 172 ∧ z = 0) by omega), wI_ne (show ¬ (177 = 176 ∧ z = 16 * z + k) by omega)]; exact hk) ?_
      refine v_iadd cx (tk_dc d_M_holiday 33 rfl) ?_
      refine v_iload_n cx (tk_dc d_M_holiday 34 rfl) rfl ?_
      refine w_iast cx (tk_dc d_M_holiday 35 rfl) a_176 (16 * z + k) (by rw [show (16 : Int32) = nI 16 from rfl, pk_mul, nI_add]) (by omega) (by decide) ?_
      refine v_aload_n cx (tk_dc d_M_holiday 36 rfl) rfl ?_
      refine v_getC cx 177 (tk_dc d_M_holiday 37 rfl) f_M_22 o_M (by decide) (by rfl) ?_
      refine v_iload_n cx (tk_dc d_M_holiday 38 rfl) rfl ?_
      refine v_dup2 cx (tk_dc d_M_holiday 39 rfl) rfl rfl ?_
      refine w_iald cx (tk_dc d_M_holiday 40 rfl) a_177 z (rfl) (by omega) (by decide) ?_
      refine v_eqi (nI k) (by simp only [wI_ne (show ¬ (177 = 172 ∧ z = 0) by omega), wI_ne (show ¬ (177 = 176 ∧ z = 16 * z + k) by omega)]; exact hk) ?_
      refine v_iconst cx (tk_dc d_M_holiday 41 rfl) (1) (by decide) ?_
      refine v_iadd cx (tk_dc d_M_holiday 42 rfl) ?_
      refine v_eqi (nI (k + 1)) (nI_succ k).symm ?_
      refine w_iast cx (tk_dc d_M_holiday 43 rfl) a_177 z (rfl) (by omega) (by decide) ?_
      refine v_iconst cx (tk_dc d_M_holiday 44 rfl) (1) (by decide) ?_
      exact v_zret cx hB (tk_dc d_M_holiday 45 rfl) (by first | exact Or.inl rfl | exact Or.inr rfl | exact b01_01 _ | assumption) (by simp [g30, g39]) (by simp [g30, g39, cz])
    · have g39 := b01_nz h39
      refine v_iconst cx (tk_dc d_M_holiday 22 rfl) (0) (by decide) ?_
      exact v_zret cx hB (tk_dc d_M_holiday 23 rfl) (by first | exact Or.inl rfl | exact Or.inr rfl | exact b01_01 _ | assumption) (by simp [g30, g39]) (by simp [g30, g39, cz])

set_option maxHeartbeats 4000000 in
set_option maxRecDepth 100000 in
theorem n_M_mask {l : Launch} {E : tk_E} {M : tk_M} {x y w v : Int32} (hbad : ¬ ((¬ x < 0 ∧ x < 8) ∧ (¬ y < 0) ∧ (y ≤ 4))) : tk_Mt l y_M_mask b_M_mask 5 (some .boolean) 1 E [.ref (E.1 + 172), .int x, .int y, .int w, .int v] M (cz M) (some (.int 0)) := by
  refine tk_ofV (by decide +kernel) [some (.ref (E.1 + 172)), some (.int x), some (.int y), some (.int w), some (.int v)] rfl (Nat.le_of_ble_eq_true rfl) ?_
  intro p e s m args below meth c cx hB
  refine v_aload_n cx (tk_dc d_M_mask 0 rfl) rfl ?_
  refine v_iconst cx (tk_dc d_M_mask 1 rfl) (0) (by decide) ?_
  refine v_putI cx (tk_dc d_M_mask 2 rfl) f_M_120 o_M (by decide) (by rfl) ⟨rfl, rfl⟩ ?_
  refine v_iload_n cx (tk_dc d_M_mask 3 rfl) rfl ?_
  refine v_callS (rest := _) cx (tk_dc d_M_mask 4 rfl) m_M_144 ks_M_isJob k_M_isJob (c_M_isJob) rfl rfl (Nat.le_of_ble_eq_true rfl) (by decide) ?_
  refine v_if_eq cx (tk_dc d_M_mask 5 rfl) 21 (by decide) (fun h9 => ?_) (fun h9 => ?_)
  · refine v_iconst cx (tk_dc d_M_mask 11 rfl) (0) (by decide) ?_
    exact v_zret cx hB (tk_dc d_M_mask 12 rfl) (by first | exact Or.inl rfl | exact Or.inr rfl | exact b01_01 _ | assumption) (rfl) (rfl)
  · have g9 := of_decide_eq_true (b01_nz h9)
    refine v_iload_n cx (tk_dc d_M_mask 6 rfl) rfl ?_
    refine v_if_lt cx (tk_dc d_M_mask 7 rfl) 21 (by decide) (fun h13 => ?_) (fun h13 => ?_)
    · refine v_iconst cx (tk_dc d_M_mask 11 rfl) (0) (by decide) ?_
      exact v_zret cx hB (tk_dc d_M_mask 12 rfl) (by first | exact Or.inl rfl | exact Or.inr rfl | exact b01_01 _ | assumption) (rfl) (rfl)
    · refine v_iload_n cx (tk_dc d_M_mask 8 rfl) rfl ?_
      refine v_iconst cx (tk_dc d_M_mask 9 rfl) (4) (by decide) ?_
      refine v_icmp_le cx (tk_dc d_M_mask 10 rfl) 23 (by decide) (fun h18 => ?_) (fun h18 => ?_)
      · exact absurd ⟨g9, h13, h18⟩ hbad
      · refine v_iconst cx (tk_dc d_M_mask 11 rfl) (0) (by decide) ?_
        exact v_zret cx hB (tk_dc d_M_mask 12 rfl) (by first | exact Or.inl rfl | exact Or.inr rfl | exact b01_01 _ | assumption) (rfl) (rfl)

/-- which of five, of the other side's masks -/
def m_msk (M : tk_M) (j k : Nat) (a b : Int32) : tk_M := match k with
  | 0 => wL (cz M) 178 j (((a &&& 1073741823).toInt64 <<< ((30 : Int32).toInt64 &&& 63)) ||| (b &&& 1073741823).toInt64)
  | 1 => wI (cz M) 179 j b
  | 2 => wI (cz M) 180 j b
  | 3 => wI (cz M) 181 j b
  | _ => wI (cz M) 182 j b
set_option maxHeartbeats 4000000 in
set_option maxRecDepth 100000 in
theorem c_M_mask0 {l : Launch} {E : tk_E} {M : tk_M} {j : Nat} {w v : Int32} (hj : j < 8) : tk_Mt l y_M_mask b_M_mask 5 (some .boolean) 1 E [.ref (E.1 + 172), .int (nI j), .int (nI 0), .int w, .int v] M (m_msk M j 0 w v) (some (.int 1)) := by
  refine tk_ofV (by decide +kernel) [some (.ref (E.1 + 172)), some (.int (nI j)), some (.int (nI 0)), some (.int w), some (.int v)] rfl (Nat.le_of_ble_eq_true rfl) ?_
  intro p e s m args below meth c cx hB
  refine v_aload_n cx (tk_dc d_M_mask 0 rfl) rfl ?_
  refine v_iconst cx (tk_dc d_M_mask 1 rfl) (0) (by decide) ?_
  refine v_putI cx (tk_dc d_M_mask 2 rfl) f_M_120 o_M (by decide) (by rfl) ⟨rfl, rfl⟩ ?_
  refine v_iload_n cx (tk_dc d_M_mask 3 rfl) rfl ?_
  refine v_callS (rest := _) cx (tk_dc d_M_mask 4 rfl) m_M_144 ks_M_isJob k_M_isJob (c_M_isJob) rfl rfl (Nat.le_of_ble_eq_true rfl) (by decide) ?_
  refine v_if_eq cx (tk_dc d_M_mask 5 rfl) 21 (by decide) (fun h => absurd h (b01_d (inN (n := 8) (by decide) hj))) (fun _ => ?_)
  refine v_iload_n cx (tk_dc d_M_mask 6 rfl) rfl ?_
  refine v_if_lt cx (tk_dc d_M_mask 7 rfl) 21 (by decide) (fun h => absurd h (by decide)) (fun _ => ?_)
  refine v_iload_n cx (tk_dc d_M_mask 8 rfl) rfl ?_
  refine v_iconst cx (tk_dc d_M_mask 9 rfl) (4) (by decide) ?_
  refine v_icmp_le cx (tk_dc d_M_mask 10 rfl) 23 (by decide) (fun _ => ?_) (fun h => absurd (by decide) h)
  refine v_iload_n cx (tk_dc d_M_mask 13 rfl) rfl ?_
  refine v_if_ne cx (tk_dc d_M_mask 14 rfl) 51 (by decide) (fun h => absurd (rfl) h) (fun _ => ?_)
  refine v_aload_n cx (tk_dc d_M_mask 15 rfl) rfl ?_
  refine v_getC cx 178 (tk_dc d_M_mask 16 rfl) f_M_25 o_M (by decide) (by rfl) ?_
  refine v_iload_n cx (tk_dc d_M_mask 17 rfl) rfl ?_
  refine v_iload_n cx (tk_dc d_M_mask 18 rfl) rfl ?_
  refine v_ldc cx (tk_dc d_M_mask 19 rfl) c_M_147 ?_
  refine v_iand cx (tk_dc d_M_mask 20 rfl) ?_
  refine v_i2l cx (tk_dc d_M_mask 21 rfl) ?_
  refine v_bipush cx (tk_dc d_M_mask 22 rfl) (30) (by decide) ?_
  refine v_lshl cx (tk_dc d_M_mask 23 rfl) ?_
  refine v_iload cx (tk_dc d_M_mask 24 rfl) rfl ?_
  refine v_ldc cx (tk_dc d_M_mask 25 rfl) c_M_147 ?_
  refine v_iand cx (tk_dc d_M_mask 26 rfl) ?_
  refine v_i2l cx (tk_dc d_M_mask 27 rfl) ?_
  refine v_lor cx (tk_dc d_M_mask 28 rfl) ?_
  refine w_last cx (tk_dc d_M_mask 29 rfl) a_178 j (rfl) (by omega) (by decide) ?_
  refine v_goto cx (tk_dc d_M_mask 30 rfl) 107 (by decide) ?_
  refine v_iconst cx (tk_dc d_M_mask 63 rfl) (1) (by decide) ?_
  exact v_zret cx hB (tk_dc d_M_mask 64 rfl) (by first | exact Or.inl rfl | exact Or.inr rfl | exact b01_01 _ | assumption) (rfl) (rfl)

set_option maxHeartbeats 4000000 in
set_option maxRecDepth 100000 in
theorem c_M_mask1 {l : Launch} {E : tk_E} {M : tk_M} {j : Nat} {w v : Int32} (hj : j < 8) : tk_Mt l y_M_mask b_M_mask 5 (some .boolean) 1 E [.ref (E.1 + 172), .int (nI j), .int (nI 1), .int w, .int v] M (m_msk M j 1 w v) (some (.int 1)) := by
  refine tk_ofV (by decide +kernel) [some (.ref (E.1 + 172)), some (.int (nI j)), some (.int (nI 1)), some (.int w), some (.int v)] rfl (Nat.le_of_ble_eq_true rfl) ?_
  intro p e s m args below meth c cx hB
  refine v_aload_n cx (tk_dc d_M_mask 0 rfl) rfl ?_
  refine v_iconst cx (tk_dc d_M_mask 1 rfl) (0) (by decide) ?_
  refine v_putI cx (tk_dc d_M_mask 2 rfl) f_M_120 o_M (by decide) (by rfl) ⟨rfl, rfl⟩ ?_
  refine v_iload_n cx (tk_dc d_M_mask 3 rfl) rfl ?_
  refine v_callS (rest := _) cx (tk_dc d_M_mask 4 rfl) m_M_144 ks_M_isJob k_M_isJob (c_M_isJob) rfl rfl (Nat.le_of_ble_eq_true rfl) (by decide) ?_
  refine v_if_eq cx (tk_dc d_M_mask 5 rfl) 21 (by decide) (fun h => absurd h (b01_d (inN (n := 8) (by decide) hj))) (fun _ => ?_)
  refine v_iload_n cx (tk_dc d_M_mask 6 rfl) rfl ?_
  refine v_if_lt cx (tk_dc d_M_mask 7 rfl) 21 (by decide) (fun h => absurd h (by decide)) (fun _ => ?_)
  refine v_iload_n cx (tk_dc d_M_mask 8 rfl) rfl ?_
  refine v_iconst cx (tk_dc d_M_mask 9 rfl) (4) (by decide) ?_
  refine v_icmp_le cx (tk_dc d_M_mask 10 rfl) 23 (by decide) (fun _ => ?_) (fun h => absurd (by decide) h)
  refine v_iload_n cx (tk_dc d_M_mask 13 rfl) rfl ?_
  refine v_if_ne cx (tk_dc d_M_mask 14 rfl) 51 (by decide) (fun _ => ?_) (fun h => absurd h (by decide))
  refine v_iload_n cx (tk_dc d_M_mask 31 rfl) rfl ?_
  refine v_iconst cx (tk_dc d_M_mask 32 rfl) (1) (by decide) ?_
  refine v_icmp_ne cx (tk_dc d_M_mask 33 rfl) 67 (by decide) (fun h => absurd (rfl) h) (fun _ => ?_)
  refine v_aload_n cx (tk_dc d_M_mask 34 rfl) rfl ?_
  refine v_getC cx 179 (tk_dc d_M_mask 35 rfl) f_M_29 o_M (by decide) (by rfl) ?_
  refine v_iload_n cx (tk_dc d_M_mask 36 rfl) rfl ?_
  refine v_iload cx (tk_dc d_M_mask 37 rfl) rfl ?_
  refine w_iast cx (tk_dc d_M_mask 38 rfl) a_179 j (rfl) (by omega) (by decide) ?_
  refine v_goto cx (tk_dc d_M_mask 39 rfl) 107 (by decide) ?_
  refine v_iconst cx (tk_dc d_M_mask 63 rfl) (1) (by decide) ?_
  exact v_zret cx hB (tk_dc d_M_mask 64 rfl) (by first | exact Or.inl rfl | exact Or.inr rfl | exact b01_01 _ | assumption) (rfl) (rfl)

set_option maxHeartbeats 4000000 in
set_option maxRecDepth 100000 in
theorem c_M_mask2 {l : Launch} {E : tk_E} {M : tk_M} {j : Nat} {w v : Int32} (hj : j < 8) : tk_Mt l y_M_mask b_M_mask 5 (some .boolean) 1 E [.ref (E.1 + 172), .int (nI j), .int (nI 2), .int w, .int v] M (m_msk M j 2 w v) (some (.int 1)) := by
  refine tk_ofV (by decide +kernel) [some (.ref (E.1 + 172)), some (.int (nI j)), some (.int (nI 2)), some (.int w), some (.int v)] rfl (Nat.le_of_ble_eq_true rfl) ?_
  intro p e s m args below meth c cx hB
  refine v_aload_n cx (tk_dc d_M_mask 0 rfl) rfl ?_
  refine v_iconst cx (tk_dc d_M_mask 1 rfl) (0) (by decide) ?_
  refine v_putI cx (tk_dc d_M_mask 2 rfl) f_M_120 o_M (by decide) (by rfl) ⟨rfl, rfl⟩ ?_
  refine v_iload_n cx (tk_dc d_M_mask 3 rfl) rfl ?_
  refine v_callS (rest := _) cx (tk_dc d_M_mask 4 rfl) m_M_144 ks_M_isJob k_M_isJob (c_M_isJob) rfl rfl (Nat.le_of_ble_eq_true rfl) (by decide) ?_
  refine v_if_eq cx (tk_dc d_M_mask 5 rfl) 21 (by decide) (fun h => absurd h (b01_d (inN (n := 8) (by decide) hj))) (fun _ => ?_)
  refine v_iload_n cx (tk_dc d_M_mask 6 rfl) rfl ?_
  refine v_if_lt cx (tk_dc d_M_mask 7 rfl) 21 (by decide) (fun h => absurd h (by decide)) (fun _ => ?_)
  refine v_iload_n cx (tk_dc d_M_mask 8 rfl) rfl ?_
  refine v_iconst cx (tk_dc d_M_mask 9 rfl) (4) (by decide) ?_
  refine v_icmp_le cx (tk_dc d_M_mask 10 rfl) 23 (by decide) (fun _ => ?_) (fun h => absurd (by decide) h)
  refine v_iload_n cx (tk_dc d_M_mask 13 rfl) rfl ?_
  refine v_if_ne cx (tk_dc d_M_mask 14 rfl) 51 (by decide) (fun _ => ?_) (fun h => absurd h (by decide))
  refine v_iload_n cx (tk_dc d_M_mask 31 rfl) rfl ?_
  refine v_iconst cx (tk_dc d_M_mask 32 rfl) (1) (by decide) ?_
  refine v_icmp_ne cx (tk_dc d_M_mask 33 rfl) 67 (by decide) (fun _ => ?_) (fun h => absurd h (by decide))
  refine v_iload_n cx (tk_dc d_M_mask 40 rfl) rfl ?_
  refine v_iconst cx (tk_dc d_M_mask 41 rfl) (2) (by decide) ?_
  refine v_icmp_ne cx (tk_dc d_M_mask 42 rfl) 83 (by decide) (fun h => absurd (rfl) h) (fun _ => ?_)
  refine v_aload_n cx (tk_dc d_M_mask 43 rfl) rfl ?_
  refine v_getC cx 180 (tk_dc d_M_mask 44 rfl) f_M_32 o_M (by decide) (by rfl) ?_
  refine v_iload_n cx (tk_dc d_M_mask 45 rfl) rfl ?_
  refine v_iload cx (tk_dc d_M_mask 46 rfl) rfl ?_
  refine w_iast cx (tk_dc d_M_mask 47 rfl) a_180 j (rfl) (by omega) (by decide) ?_
  refine v_goto cx (tk_dc d_M_mask 48 rfl) 107 (by decide) ?_
  refine v_iconst cx (tk_dc d_M_mask 63 rfl) (1) (by decide) ?_
  exact v_zret cx hB (tk_dc d_M_mask 64 rfl) (by first | exact Or.inl rfl | exact Or.inr rfl | exact b01_01 _ | assumption) (rfl) (rfl)

set_option maxHeartbeats 4000000 in
set_option maxRecDepth 100000 in
theorem c_M_mask3 {l : Launch} {E : tk_E} {M : tk_M} {j : Nat} {w v : Int32} (hj : j < 8) : tk_Mt l y_M_mask b_M_mask 5 (some .boolean) 1 E [.ref (E.1 + 172), .int (nI j), .int (nI 3), .int w, .int v] M (m_msk M j 3 w v) (some (.int 1)) := by
  refine tk_ofV (by decide +kernel) [some (.ref (E.1 + 172)), some (.int (nI j)), some (.int (nI 3)), some (.int w), some (.int v)] rfl (Nat.le_of_ble_eq_true rfl) ?_
  intro p e s m args below meth c cx hB
  refine v_aload_n cx (tk_dc d_M_mask 0 rfl) rfl ?_
  refine v_iconst cx (tk_dc d_M_mask 1 rfl) (0) (by decide) ?_
  refine v_putI cx (tk_dc d_M_mask 2 rfl) f_M_120 o_M (by decide) (by rfl) ⟨rfl, rfl⟩ ?_
  refine v_iload_n cx (tk_dc d_M_mask 3 rfl) rfl ?_
  refine v_callS (rest := _) cx (tk_dc d_M_mask 4 rfl) m_M_144 ks_M_isJob k_M_isJob (c_M_isJob) rfl rfl (Nat.le_of_ble_eq_true rfl) (by decide) ?_
  refine v_if_eq cx (tk_dc d_M_mask 5 rfl) 21 (by decide) (fun h => absurd h (b01_d (inN (n := 8) (by decide) hj))) (fun _ => ?_)
  refine v_iload_n cx (tk_dc d_M_mask 6 rfl) rfl ?_
  refine v_if_lt cx (tk_dc d_M_mask 7 rfl) 21 (by decide) (fun h => absurd h (by decide)) (fun _ => ?_)
  refine v_iload_n cx (tk_dc d_M_mask 8 rfl) rfl ?_
  refine v_iconst cx (tk_dc d_M_mask 9 rfl) (4) (by decide) ?_
  refine v_icmp_le cx (tk_dc d_M_mask 10 rfl) 23 (by decide) (fun _ => ?_) (fun h => absurd (by decide) h)
  refine v_iload_n cx (tk_dc d_M_mask 13 rfl) rfl ?_
  refine v_if_ne cx (tk_dc d_M_mask 14 rfl) 51 (by decide) (fun _ => ?_) (fun h => absurd h (by decide))
  refine v_iload_n cx (tk_dc d_M_mask 31 rfl) rfl ?_
  refine v_iconst cx (tk_dc d_M_mask 32 rfl) (1) (by decide) ?_
  refine v_icmp_ne cx (tk_dc d_M_mask 33 rfl) 67 (by decide) (fun _ => ?_) (fun h => absurd h (by decide))
  refine v_iload_n cx (tk_dc d_M_mask 40 rfl) rfl ?_
  refine v_iconst cx (tk_dc d_M_mask 41 rfl) (2) (by decide) ?_
  refine v_icmp_ne cx (tk_dc d_M_mask 42 rfl) 83 (by decide) (fun _ => ?_) (fun h => absurd h (by decide))
  refine v_iload_n cx (tk_dc d_M_mask 49 rfl) rfl ?_
  refine v_iconst cx (tk_dc d_M_mask 50 rfl) (3) (by decide) ?_
  refine v_icmp_ne cx (tk_dc d_M_mask 51 rfl) 99 (by decide) (fun h => absurd (rfl) h) (fun _ => ?_)
  refine v_aload_n cx (tk_dc d_M_mask 52 rfl) rfl ?_
  refine v_getC cx 181 (tk_dc d_M_mask 53 rfl) f_M_35 o_M (by decide) (by rfl) ?_
  refine v_iload_n cx (tk_dc d_M_mask 54 rfl) rfl ?_
  refine v_iload cx (tk_dc d_M_mask 55 rfl) rfl ?_
  refine w_iast cx (tk_dc d_M_mask 56 rfl) a_181 j (rfl) (by omega) (by decide) ?_
  refine v_goto cx (tk_dc d_M_mask 57 rfl) 107 (by decide) ?_
  refine v_iconst cx (tk_dc d_M_mask 63 rfl) (1) (by decide) ?_
  exact v_zret cx hB (tk_dc d_M_mask 64 rfl) (by first | exact Or.inl rfl | exact Or.inr rfl | exact b01_01 _ | assumption) (rfl) (rfl)

set_option maxHeartbeats 4000000 in
set_option maxRecDepth 100000 in
theorem c_M_mask4 {l : Launch} {E : tk_E} {M : tk_M} {j : Nat} {w v : Int32} (hj : j < 8) : tk_Mt l y_M_mask b_M_mask 5 (some .boolean) 1 E [.ref (E.1 + 172), .int (nI j), .int (nI 4), .int w, .int v] M (m_msk M j 4 w v) (some (.int 1)) := by
  refine tk_ofV (by decide +kernel) [some (.ref (E.1 + 172)), some (.int (nI j)), some (.int (nI 4)), some (.int w), some (.int v)] rfl (Nat.le_of_ble_eq_true rfl) ?_
  intro p e s m args below meth c cx hB
  refine v_aload_n cx (tk_dc d_M_mask 0 rfl) rfl ?_
  refine v_iconst cx (tk_dc d_M_mask 1 rfl) (0) (by decide) ?_
  refine v_putI cx (tk_dc d_M_mask 2 rfl) f_M_120 o_M (by decide) (by rfl) ⟨rfl, rfl⟩ ?_
  refine v_iload_n cx (tk_dc d_M_mask 3 rfl) rfl ?_
  refine v_callS (rest := _) cx (tk_dc d_M_mask 4 rfl) m_M_144 ks_M_isJob k_M_isJob (c_M_isJob) rfl rfl (Nat.le_of_ble_eq_true rfl) (by decide) ?_
  refine v_if_eq cx (tk_dc d_M_mask 5 rfl) 21 (by decide) (fun h => absurd h (b01_d (inN (n := 8) (by decide) hj))) (fun _ => ?_)
  refine v_iload_n cx (tk_dc d_M_mask 6 rfl) rfl ?_
  refine v_if_lt cx (tk_dc d_M_mask 7 rfl) 21 (by decide) (fun h => absurd h (by decide)) (fun _ => ?_)
  refine v_iload_n cx (tk_dc d_M_mask 8 rfl) rfl ?_
  refine v_iconst cx (tk_dc d_M_mask 9 rfl) (4) (by decide) ?_
  refine v_icmp_le cx (tk_dc d_M_mask 10 rfl) 23 (by decide) (fun _ => ?_) (fun h => absurd (by decide) h)
  refine v_iload_n cx (tk_dc d_M_mask 13 rfl) rfl ?_
  refine v_if_ne cx (tk_dc d_M_mask 14 rfl) 51 (by decide) (fun _ => ?_) (fun h => absurd h (by decide))
  refine v_iload_n cx (tk_dc d_M_mask 31 rfl) rfl ?_
  refine v_iconst cx (tk_dc d_M_mask 32 rfl) (1) (by decide) ?_
  refine v_icmp_ne cx (tk_dc d_M_mask 33 rfl) 67 (by decide) (fun _ => ?_) (fun h => absurd h (by decide))
  refine v_iload_n cx (tk_dc d_M_mask 40 rfl) rfl ?_
  refine v_iconst cx (tk_dc d_M_mask 41 rfl) (2) (by decide) ?_
  refine v_icmp_ne cx (tk_dc d_M_mask 42 rfl) 83 (by decide) (fun _ => ?_) (fun h => absurd h (by decide))
  refine v_iload_n cx (tk_dc d_M_mask 49 rfl) rfl ?_
  refine v_iconst cx (tk_dc d_M_mask 50 rfl) (3) (by decide) ?_
  refine v_icmp_ne cx (tk_dc d_M_mask 51 rfl) 99 (by decide) (fun _ => ?_) (fun h => absurd h (by decide))
  refine v_aload_n cx (tk_dc d_M_mask 58 rfl) rfl ?_
  refine v_getC cx 182 (tk_dc d_M_mask 59 rfl) f_M_38 o_M (by decide) (by rfl) ?_
  refine v_iload_n cx (tk_dc d_M_mask 60 rfl) rfl ?_
  refine v_iload cx (tk_dc d_M_mask 61 rfl) rfl ?_
  refine w_iast cx (tk_dc d_M_mask 62 rfl) a_182 j (rfl) (by omega) (by decide) ?_
  refine v_iconst cx (tk_dc d_M_mask 63 rfl) (1) (by decide) ?_
  exact v_zret cx hB (tk_dc d_M_mask 64 rfl) (by first | exact Or.inl rfl | exact Or.inr rfl | exact b01_01 _ | assumption) (rfl) (rfl)

set_option maxHeartbeats 4000000 in
set_option maxRecDepth 100000 in
theorem n_M_nth {l : Launch} {E : tk_E} {M : tk_M} {x y w : Int32} (hbad : ¬ ((¬ x < 0 ∧ x < 8) ∧ (¬ y < 0) ∧ (¬ 6 < y) ∧ (¬ w < 0) ∧ (w ≤ 6))) : tk_Mt l y_M_nth b_M_nth 4 (some .boolean) 1 E [.ref (E.1 + 172), .int x, .int y, .int w] M (cz M) (some (.int 0)) := by
  refine tk_ofV (by decide +kernel) [some (.ref (E.1 + 172)), some (.int x), some (.int y), some (.int w)] rfl (Nat.le_of_ble_eq_true rfl) ?_
  intro p e s m args below meth c cx hB
  refine v_aload_n cx (tk_dc d_M_nth 0 rfl) rfl ?_
  refine v_iconst cx (tk_dc d_M_nth 1 rfl) (0) (by decide) ?_
  refine v_putI cx (tk_dc d_M_nth 2 rfl) f_M_120 o_M (by decide) (by rfl) ⟨rfl, rfl⟩ ?_
  refine v_iload_n cx (tk_dc d_M_nth 3 rfl) rfl ?_
  refine v_callS (rest := _) cx (tk_dc d_M_nth 4 rfl) m_M_144 ks_M_isJob k_M_isJob (c_M_isJob) rfl rfl (Nat.le_of_ble_eq_true rfl) (by decide) ?_
  refine v_if_eq cx (tk_dc d_M_nth 5 rfl) 32 (by decide) (fun h9 => ?_) (fun h9 => ?_)
  · refine v_iconst cx (tk_dc d_M_nth 16 rfl) (0) (by decide) ?_
    exact v_zret cx hB (tk_dc d_M_nth 17 rfl) (by first | exact Or.inl rfl | exact Or.inr rfl | exact b01_01 _ | assumption) (rfl) (rfl)
  · have g9 := of_decide_eq_true (b01_nz h9)
    refine v_iload_n cx (tk_dc d_M_nth 6 rfl) rfl ?_
    refine v_if_lt cx (tk_dc d_M_nth 7 rfl) 32 (by decide) (fun h13 => ?_) (fun h13 => ?_)
    · refine v_iconst cx (tk_dc d_M_nth 16 rfl) (0) (by decide) ?_
      exact v_zret cx hB (tk_dc d_M_nth 17 rfl) (by first | exact Or.inl rfl | exact Or.inr rfl | exact b01_01 _ | assumption) (rfl) (rfl)
    · refine v_iload_n cx (tk_dc d_M_nth 8 rfl) rfl ?_
      refine v_bipush cx (tk_dc d_M_nth 9 rfl) (6) (by decide) ?_
      refine v_icmp_gt cx (tk_dc d_M_nth 10 rfl) 32 (by decide) (fun h19 => ?_) (fun h19 => ?_)
      · refine v_iconst cx (tk_dc d_M_nth 16 rfl) (0) (by decide) ?_
        exact v_zret cx hB (tk_dc d_M_nth 17 rfl) (by first | exact Or.inl rfl | exact Or.inr rfl | exact b01_01 _ | assumption) (rfl) (rfl)
      · refine v_iload_n cx (tk_dc d_M_nth 11 rfl) rfl ?_
        refine v_if_lt cx (tk_dc d_M_nth 12 rfl) 32 (by decide) (fun h23 => ?_) (fun h23 => ?_)
        · refine v_iconst cx (tk_dc d_M_nth 16 rfl) (0) (by decide) ?_
          exact v_zret cx hB (tk_dc d_M_nth 17 rfl) (by first | exact Or.inl rfl | exact Or.inr rfl | exact b01_01 _ | assumption) (rfl) (rfl)
        · refine v_iload_n cx (tk_dc d_M_nth 13 rfl) rfl ?_
          refine v_bipush cx (tk_dc d_M_nth 14 rfl) (6) (by decide) ?_
          refine v_icmp_le cx (tk_dc d_M_nth 15 rfl) 34 (by decide) (fun h29 => ?_) (fun h29 => ?_)
          · exact absurd ⟨g9, h13, h19, h23, h29⟩ hbad
          · refine v_iconst cx (tk_dc d_M_nth 16 rfl) (0) (by decide) ?_
            exact v_zret cx hB (tk_dc d_M_nth 17 rfl) (by first | exact Or.inl rfl | exact Or.inr rfl | exact b01_01 _ | assumption) (rfl) (rfl)

set_option maxHeartbeats 4000000 in
set_option maxRecDepth 100000 in
theorem c_M_nth {l : Launch} {E : tk_E} {M : tk_M} {j : Nat} {y w : Int32} (hj : j < 8) (h1 : ¬ y < 0) (h2 : ¬ 6 < y) (h3 : ¬ w < 0) (h4 : w ≤ 6) : tk_Mt l y_M_nth b_M_nth 4 (some .boolean) 1 E [.ref (E.1 + 172), .int (nI j), .int y, .int w] M (wI (wI (cz M) 183 j y) 184 j w) (some (.int 1)) := by
  refine tk_ofV (by decide +kernel) [some (.ref (E.1 + 172)), some (.int (nI j)), some (.int y), some (.int w)] rfl (Nat.le_of_ble_eq_true rfl) ?_
  intro p e s m args below meth c cx hB
  refine v_aload_n cx (tk_dc d_M_nth 0 rfl) rfl ?_
  refine v_iconst cx (tk_dc d_M_nth 1 rfl) (0) (by decide) ?_
  refine v_putI cx (tk_dc d_M_nth 2 rfl) f_M_120 o_M (by decide) (by rfl) ⟨rfl, rfl⟩ ?_
  refine v_iload_n cx (tk_dc d_M_nth 3 rfl) rfl ?_
  refine v_callS (rest := _) cx (tk_dc d_M_nth 4 rfl) m_M_144 ks_M_isJob k_M_isJob (c_M_isJob) rfl rfl (Nat.le_of_ble_eq_true rfl) (by decide) ?_
  refine v_if_eq cx (tk_dc d_M_nth 5 rfl) 32 (by decide) (fun h => absurd h (b01_d (inN (n := 8) (by decide) hj))) (fun _ => ?_)
  refine v_iload_n cx (tk_dc d_M_nth 6 rfl) rfl ?_
  refine v_if_lt cx (tk_dc d_M_nth 7 rfl) 32 (by decide) (fun h => absurd h (h1)) (fun _ => ?_)
  refine v_iload_n cx (tk_dc d_M_nth 8 rfl) rfl ?_
  refine v_bipush cx (tk_dc d_M_nth 9 rfl) (6) (by decide) ?_
  refine v_icmp_gt cx (tk_dc d_M_nth 10 rfl) 32 (by decide) (fun h => absurd h (h2)) (fun _ => ?_)
  refine v_iload_n cx (tk_dc d_M_nth 11 rfl) rfl ?_
  refine v_if_lt cx (tk_dc d_M_nth 12 rfl) 32 (by decide) (fun h => absurd h (h3)) (fun _ => ?_)
  refine v_iload_n cx (tk_dc d_M_nth 13 rfl) rfl ?_
  refine v_bipush cx (tk_dc d_M_nth 14 rfl) (6) (by decide) ?_
  refine v_icmp_le cx (tk_dc d_M_nth 15 rfl) 34 (by decide) (fun _ => ?_) (fun h => absurd (h4) h)
  refine v_aload_n cx (tk_dc d_M_nth 18 rfl) rfl ?_
  refine v_getC cx 183 (tk_dc d_M_nth 19 rfl) f_M_41 o_M (by decide) (by rfl) ?_
  refine v_iload_n cx (tk_dc d_M_nth 20 rfl) rfl ?_
  refine v_iload_n cx (tk_dc d_M_nth 21 rfl) rfl ?_
  refine w_iast cx (tk_dc d_M_nth 22 rfl) a_183 j (rfl) (by omega) (by decide) ?_
  refine v_aload_n cx (tk_dc d_M_nth 23 rfl) rfl ?_
  refine v_getC cx 184 (tk_dc d_M_nth 24 rfl) f_M_44 o_M (by decide) (by rfl) ?_
  refine v_iload_n cx (tk_dc d_M_nth 25 rfl) rfl ?_
  refine v_iload_n cx (tk_dc d_M_nth 26 rfl) rfl ?_
  refine w_iast cx (tk_dc d_M_nth 27 rfl) a_184 j (rfl) (by omega) (by decide) ?_
  refine v_iconst cx (tk_dc d_M_nth 28 rfl) (1) (by decide) ?_
  exact v_zret cx hB (tk_dc d_M_nth 29 rfl) (by first | exact Or.inl rfl | exact Or.inr rfl | exact b01_01 _ | assumption) (rfl) (rfl)

set_option maxHeartbeats 4000000 in
set_option maxRecDepth 100000 in
theorem n_M_setj {l : Launch} {E : tk_E} {M : tk_M} {x y w : Int32} (hbad : ¬ ((¬ x < 0 ∧ x < 8))) : tk_Mt l y_M_set b_M_set 5 (some .boolean) 1 E [.ref (E.1 + 172), .int x, .int y, .int w] M (cz M) (some (.int 0)) := by
  refine tk_ofV (by decide +kernel) [some (.ref (E.1 + 172)), some (.int x), some (.int y), some (.int w), none] rfl (Nat.le_of_ble_eq_true rfl) ?_
  intro p e s m args below meth c cx hB
  refine v_aload_n cx (tk_dc d_M_set 0 rfl) rfl ?_
  refine v_iconst cx (tk_dc d_M_set 1 rfl) (0) (by decide) ?_
  refine v_putI cx (tk_dc d_M_set 2 rfl) f_M_120 o_M (by decide) (by rfl) ⟨rfl, rfl⟩ ?_
  refine v_iload_n cx (tk_dc d_M_set 3 rfl) rfl ?_
  refine v_callS (rest := _) cx (tk_dc d_M_set 4 rfl) m_M_144 ks_M_isJob k_M_isJob (c_M_isJob) rfl rfl (Nat.le_of_ble_eq_true rfl) (by decide) ?_
  refine v_if_eq cx (tk_dc d_M_set 5 rfl) 69 (by decide) (fun h9 => ?_) (fun h9 => ?_)
  · refine v_iconst cx (tk_dc d_M_set 36 rfl) (0) (by decide) ?_
    refine v_istore (lo' := [_, _, _, _, _]) cx (tk_dc d_M_set 37 rfl) (by decide) rfl ?_
    refine v_iload cx (tk_dc d_M_set 38 rfl) rfl ?_
    refine v_if_ne cx (tk_dc d_M_set 39 rfl) 79 (by decide) (fun h => absurd (by decide) h) (fun _ => ?_)
    refine v_iconst cx (tk_dc d_M_set 40 rfl) (0) (by decide) ?_
    exact v_zret cx hB (tk_dc d_M_set 41 rfl) (by first | exact Or.inl rfl | exact Or.inr rfl | exact b01_01 _ | assumption) (rfl) (rfl)
  · have g9 := of_decide_eq_true (b01_nz h9)
    exact absurd g9 hbad

set_option maxHeartbeats 4000000 in
set_option maxRecDepth 100000 in
theorem c_M_set0 {l : Launch} {E : tk_E} {M : tk_M} {j : Nat} {z : Nat} (hj : j < 8) (hz : z < 4) : tk_Mt l y_M_set b_M_set 5 (some .boolean) 1 E [.ref (E.1 + 172), .int (nI j), .int 0, .int (nI z)] M (wI (cz M) 185 j (nI z)) (some (.int 1)) := by
  refine tk_ofV (by decide +kernel) [some (.ref (E.1 + 172)), some (.int (nI j)), some (.int 0), some (.int (nI z)), none] rfl (Nat.le_of_ble_eq_true rfl) ?_
  intro p e s m args below meth c cx hB
  refine v_aload_n cx (tk_dc d_M_set 0 rfl) rfl ?_
  refine v_iconst cx (tk_dc d_M_set 1 rfl) (0) (by decide) ?_
  refine v_putI cx (tk_dc d_M_set 2 rfl) f_M_120 o_M (by decide) (by rfl) ⟨rfl, rfl⟩ ?_
  refine v_iload_n cx (tk_dc d_M_set 3 rfl) rfl ?_
  refine v_callS (rest := _) cx (tk_dc d_M_set 4 rfl) m_M_144 ks_M_isJob k_M_isJob (c_M_isJob) rfl rfl (Nat.le_of_ble_eq_true rfl) (by decide) ?_
  refine v_if_eq cx (tk_dc d_M_set 5 rfl) 69 (by decide) (fun h => absurd h (b01_d (inN (n := 8) (by decide) hj))) (fun _ => ?_)
  refine v_iload_n cx (tk_dc d_M_set 6 rfl) rfl ?_
  refine v_if_ne cx (tk_dc d_M_set 7 rfl) 26 (by decide) (fun h => absurd (rfl) h) (fun _ => ?_)
  refine v_iload_n cx (tk_dc d_M_set 8 rfl) rfl ?_
  refine v_callS (rest := _) cx (tk_dc d_M_set 9 rfl) m_M_132 ks_M_isZone k_M_isZone (c_M_isZone) rfl rfl (Nat.le_of_ble_eq_true rfl) (by decide) ?_
  refine v_if_eq cx (tk_dc d_M_set 10 rfl) 69 (by decide) (fun h => absurd h (b01_d (inN (n := 4) (by decide) hz))) (fun _ => ?_)
  refine v_goto cx (tk_dc d_M_set 11 rfl) 65 (by decide) ?_
  refine v_iconst cx (tk_dc d_M_set 34 rfl) (1) (by decide) ?_
  refine v_goto cx (tk_dc d_M_set 35 rfl) 70 (by decide) ?_
  refine v_istore (lo' := [_, _, _, _, _]) cx (tk_dc d_M_set 37 rfl) (by decide) rfl ?_
  refine v_iload cx (tk_dc d_M_set 38 rfl) rfl ?_
  refine v_if_ne cx (tk_dc d_M_set 39 rfl) 79 (by decide) (fun _ => ?_) (fun h => absurd h (by decide))
  refine v_iload_n cx (tk_dc d_M_set 42 rfl) rfl ?_
  refine v_if_ne cx (tk_dc d_M_set 43 rfl) 93 (by decide) (fun h => absurd (rfl) h) (fun _ => ?_)
  refine v_aload_n cx (tk_dc d_M_set 44 rfl) rfl ?_
  refine v_getC cx 185 (tk_dc d_M_set 45 rfl) f_M_47 o_M (by decide) (by rfl) ?_
  refine v_iload_n cx (tk_dc d_M_set 46 rfl) rfl ?_
  refine v_iload_n cx (tk_dc d_M_set 47 rfl) rfl ?_
  refine w_iast cx (tk_dc d_M_set 48 rfl) a_185 j (rfl) (by omega) (by decide) ?_
  refine v_goto cx (tk_dc d_M_set 49 rfl) 161 (by decide) ?_
  refine v_iconst cx (tk_dc d_M_set 90 rfl) (1) (by decide) ?_
  exact v_zret cx hB (tk_dc d_M_set 91 rfl) (by first | exact Or.inl rfl | exact Or.inr rfl | exact b01_01 _ | assumption) (rfl) (rfl)

set_option maxHeartbeats 4000000 in
set_option maxRecDepth 100000 in
theorem n_M_set0 {l : Launch} {E : tk_E} {M : tk_M} {j : Nat} {w : Int32} (hj : j < 8) (hb : ¬ (¬ w < 0 ∧ w < 4)) : tk_Mt l y_M_set b_M_set 5 (some .boolean) 1 E [.ref (E.1 + 172), .int (nI j), .int 0, .int w] M (cz M) (some (.int 0)) := by
  refine tk_ofV (by decide +kernel) [some (.ref (E.1 + 172)), some (.int (nI j)), some (.int 0), some (.int w), none] rfl (Nat.le_of_ble_eq_true rfl) ?_
  intro p e s m args below meth c cx hB
  refine v_aload_n cx (tk_dc d_M_set 0 rfl) rfl ?_
  refine v_iconst cx (tk_dc d_M_set 1 rfl) (0) (by decide) ?_
  refine v_putI cx (tk_dc d_M_set 2 rfl) f_M_120 o_M (by decide) (by rfl) ⟨rfl, rfl⟩ ?_
  refine v_iload_n cx (tk_dc d_M_set 3 rfl) rfl ?_
  refine v_callS (rest := _) cx (tk_dc d_M_set 4 rfl) m_M_144 ks_M_isJob k_M_isJob (c_M_isJob) rfl rfl (Nat.le_of_ble_eq_true rfl) (by decide) ?_
  refine v_if_eq cx (tk_dc d_M_set 5 rfl) 69 (by decide) (fun h => absurd h (b01_d (inN (n := 8) (by decide) hj))) (fun _ => ?_)
  refine v_iload_n cx (tk_dc d_M_set 6 rfl) rfl ?_
  refine v_if_ne cx (tk_dc d_M_set 7 rfl) 26 (by decide) (fun h => absurd (rfl) h) (fun _ => ?_)
  refine v_iload_n cx (tk_dc d_M_set 8 rfl) rfl ?_
  refine v_callS (rest := _) cx (tk_dc d_M_set 9 rfl) m_M_132 ks_M_isZone k_M_isZone (c_M_isZone) rfl rfl (Nat.le_of_ble_eq_true rfl) (by decide) ?_
  refine v_if_eq cx (tk_dc d_M_set 10 rfl) 69 (by decide) (fun _ => ?_) (fun h => absurd (by rw [decide_eq_false hb]; rfl) h)
  refine v_iconst cx (tk_dc d_M_set 36 rfl) (0) (by decide) ?_
  refine v_istore (lo' := [_, _, _, _, _]) cx (tk_dc d_M_set 37 rfl) (by decide) rfl ?_
  refine v_iload cx (tk_dc d_M_set 38 rfl) rfl ?_
  refine v_if_ne cx (tk_dc d_M_set 39 rfl) 79 (by decide) (fun h => absurd (by decide) h) (fun _ => ?_)
  refine v_iconst cx (tk_dc d_M_set 40 rfl) (0) (by decide) ?_
  exact v_zret cx hB (tk_dc d_M_set 41 rfl) (by first | exact Or.inl rfl | exact Or.inr rfl | exact b01_01 _ | assumption) (rfl) (rfl)

set_option maxHeartbeats 4000000 in
set_option maxRecDepth 100000 in
theorem c_M_set1z {l : Launch} {E : tk_E} {M : tk_M} {j : Nat} {w : Int32} (hj : j < 8) (hw : w = 0) : tk_Mt l y_M_set b_M_set 5 (some .boolean) 1 E [.ref (E.1 + 172), .int (nI j), .int 1, .int w] M (wI (cz M) 191 j 0) (some (.int 1)) := by
  refine tk_ofV (by decide +kernel) [some (.ref (E.1 + 172)), some (.int (nI j)), some (.int 1), some (.int w), none] rfl (Nat.le_of_ble_eq_true rfl) ?_
  intro p e s m args below meth c cx hB
  refine v_aload_n cx (tk_dc d_M_set 0 rfl) rfl ?_
  refine v_iconst cx (tk_dc d_M_set 1 rfl) (0) (by decide) ?_
  refine v_putI cx (tk_dc d_M_set 2 rfl) f_M_120 o_M (by decide) (by rfl) ⟨rfl, rfl⟩ ?_
  refine v_iload_n cx (tk_dc d_M_set 3 rfl) rfl ?_
  refine v_callS (rest := _) cx (tk_dc d_M_set 4 rfl) m_M_144 ks_M_isJob k_M_isJob (c_M_isJob) rfl rfl (Nat.le_of_ble_eq_true rfl) (by decide) ?_
  refine v_if_eq cx (tk_dc d_M_set 5 rfl) 69 (by decide) (fun h => absurd h (b01_d (inN (n := 8) (by decide) hj))) (fun _ => ?_)
  refine v_iload_n cx (tk_dc d_M_set 6 rfl) rfl ?_
  refine v_if_ne cx (tk_dc d_M_set 7 rfl) 26 (by decide) (fun _ => ?_) (fun h => absurd h (by decide))
  refine v_iload_n cx (tk_dc d_M_set 12 rfl) rfl ?_
  refine v_iconst cx (tk_dc d_M_set 13 rfl) (1) (by decide) ?_
  refine v_icmp_eq cx (tk_dc d_M_set 14 rfl) 65 (by decide) (fun _ => ?_) (fun h => absurd (rfl) h)
  refine v_iconst cx (tk_dc d_M_set 34 rfl) (1) (by decide) ?_
  refine v_goto cx (tk_dc d_M_set 35 rfl) 70 (by decide) ?_
  refine v_istore (lo' := [_, _, _, _, _]) cx (tk_dc d_M_set 37 rfl) (by decide) rfl ?_
  refine v_iload cx (tk_dc d_M_set 38 rfl) rfl ?_
  refine v_if_ne cx (tk_dc d_M_set 39 rfl) 79 (by decide) (fun _ => ?_) (fun h => absurd h (by decide))
  refine v_iload_n cx (tk_dc d_M_set 42 rfl) rfl ?_
  refine v_if_ne cx (tk_dc d_M_set 43 rfl) 93 (by decide) (fun _ => ?_) (fun h => absurd h (by decide))
  refine v_iload_n cx (tk_dc d_M_set 50 rfl) rfl ?_
  refine v_iconst cx (tk_dc d_M_set 51 rfl) (1) (by decide) ?_
  refine v_icmp_ne cx (tk_dc d_M_set 52 rfl) 116 (by decide) (fun h => absurd (rfl) h) (fun _ => ?_)
  refine v_aload_n cx (tk_dc d_M_set 53 rfl) rfl ?_
  refine v_getC cx 191 (tk_dc d_M_set 54 rfl) f_M_65 o_M (by decide) (by rfl) ?_
  refine v_iload_n cx (tk_dc d_M_set 55 rfl) rfl ?_
  refine v_iload_n cx (tk_dc d_M_set 56 rfl) rfl ?_
  refine v_if_eq cx (tk_dc d_M_set 57 rfl) 111 (by decide) (fun _ => ?_) (fun h => absurd (hw) h)
  refine v_iconst cx (tk_dc d_M_set 60 rfl) (0) (by decide) ?_
  refine w_zast cx (tk_dc d_M_set 61 rfl) a_191 j (rfl) (by omega) (by decide) (by first | exact Or.inl rfl | exact Or.inr rfl | assumption) ?_
  refine v_goto cx (tk_dc d_M_set 62 rfl) 161 (by decide) ?_
  refine v_iconst cx (tk_dc d_M_set 90 rfl) (1) (by decide) ?_
  exact v_zret cx hB (tk_dc d_M_set 91 rfl) (by first | exact Or.inl rfl | exact Or.inr rfl | exact b01_01 _ | assumption) (rfl) (rfl)

set_option maxHeartbeats 4000000 in
set_option maxRecDepth 100000 in
theorem c_M_set1n {l : Launch} {E : tk_E} {M : tk_M} {j : Nat} {w : Int32} (hj : j < 8) (hw : ¬ w = 0) : tk_Mt l y_M_set b_M_set 5 (some .boolean) 1 E [.ref (E.1 + 172), .int (nI j), .int 1, .int w] M (wI (cz M) 191 j 1) (some (.int 1)) := by
  refine tk_ofV (by decide +kernel) [some (.ref (E.1 + 172)), some (.int (nI j)), some (.int 1), some (.int w), none] rfl (Nat.le_of_ble_eq_true rfl) ?_
  intro p e s m args below meth c cx hB
  refine v_aload_n cx (tk_dc d_M_set 0 rfl) rfl ?_
  refine v_iconst cx (tk_dc d_M_set 1 rfl) (0) (by decide) ?_
  refine v_putI cx (tk_dc d_M_set 2 rfl) f_M_120 o_M (by decide) (by rfl) ⟨rfl, rfl⟩ ?_
  refine v_iload_n cx (tk_dc d_M_set 3 rfl) rfl ?_
  refine v_callS (rest := _) cx (tk_dc d_M_set 4 rfl) m_M_144 ks_M_isJob k_M_isJob (c_M_isJob) rfl rfl (Nat.le_of_ble_eq_true rfl) (by decide) ?_
  refine v_if_eq cx (tk_dc d_M_set 5 rfl) 69 (by decide) (fun h => absurd h (b01_d (inN (n := 8) (by decide) hj))) (fun _ => ?_)
  refine v_iload_n cx (tk_dc d_M_set 6 rfl) rfl ?_
  refine v_if_ne cx (tk_dc d_M_set 7 rfl) 26 (by decide) (fun _ => ?_) (fun h => absurd h (by decide))
  refine v_iload_n cx (tk_dc d_M_set 12 rfl) rfl ?_
  refine v_iconst cx (tk_dc d_M_set 13 rfl) (1) (by decide) ?_
  refine v_icmp_eq cx (tk_dc d_M_set 14 rfl) 65 (by decide) (fun _ => ?_) (fun h => absurd (rfl) h)
  refine v_iconst cx (tk_dc d_M_set 34 rfl) (1) (by decide) ?_
  refine v_goto cx (tk_dc d_M_set 35 rfl) 70 (by decide) ?_
  refine v_istore (lo' := [_, _, _, _, _]) cx (tk_dc d_M_set 37 rfl) (by decide) rfl ?_
  refine v_iload cx (tk_dc d_M_set 38 rfl) rfl ?_
  refine v_if_ne cx (tk_dc d_M_set 39 rfl) 79 (by decide) (fun _ => ?_) (fun h => absurd h (by decide))
  refine v_iload_n cx (tk_dc d_M_set 42 rfl) rfl ?_
  refine v_if_ne cx (tk_dc d_M_set 43 rfl) 93 (by decide) (fun _ => ?_) (fun h => absurd h (by decide))
  refine v_iload_n cx (tk_dc d_M_set 50 rfl) rfl ?_
  refine v_iconst cx (tk_dc d_M_set 51 rfl) (1) (by decide) ?_
  refine v_icmp_ne cx (tk_dc d_M_set 52 rfl) 116 (by decide) (fun h => absurd (rfl) h) (fun _ => ?_)
  refine v_aload_n cx (tk_dc d_M_set 53 rfl) rfl ?_
  refine v_getC cx 191 (tk_dc d_M_set 54 rfl) f_M_65 o_M (by decide) (by rfl) ?_
  refine v_iload_n cx (tk_dc d_M_set 55 rfl) rfl ?_
  refine v_iload_n cx (tk_dc d_M_set 56 rfl) rfl ?_
  refine v_if_eq cx (tk_dc d_M_set 57 rfl) 111 (by decide) (fun h => absurd h (hw)) (fun _ => ?_)
  refine v_iconst cx (tk_dc d_M_set 58 rfl) (1) (by decide) ?_
  refine v_goto cx (tk_dc d_M_set 59 rfl) 112 (by decide) ?_
  refine w_zast cx (tk_dc d_M_set 61 rfl) a_191 j (rfl) (by omega) (by decide) (by first | exact Or.inl rfl | exact Or.inr rfl | assumption) ?_
  refine v_goto cx (tk_dc d_M_set 62 rfl) 161 (by decide) ?_
  refine v_iconst cx (tk_dc d_M_set 90 rfl) (1) (by decide) ?_
  exact v_zret cx hB (tk_dc d_M_set 91 rfl) (by first | exact Or.inl rfl | exact Or.inr rfl | exact b01_01 _ | assumption) (rfl) (rfl)

set_option maxHeartbeats 4000000 in
set_option maxRecDepth 100000 in
theorem c_M_set4z {l : Launch} {E : tk_E} {M : tk_M} {j : Nat} {w : Int32} (hj : j < 8) (hw : w = 0) : tk_Mt l y_M_set b_M_set 5 (some .boolean) 1 E [.ref (E.1 + 172), .int (nI j), .int 4, .int w] M (wI (cz M) 192 j 0) (some (.int 1)) := by
  refine tk_ofV (by decide +kernel) [some (.ref (E.1 + 172)), some (.int (nI j)), some (.int 4), some (.int w), none] rfl (Nat.le_of_ble_eq_true rfl) ?_
  intro p e s m args below meth c cx hB
  refine v_aload_n cx (tk_dc d_M_set 0 rfl) rfl ?_
  refine v_iconst cx (tk_dc d_M_set 1 rfl) (0) (by decide) ?_
  refine v_putI cx (tk_dc d_M_set 2 rfl) f_M_120 o_M (by decide) (by rfl) ⟨rfl, rfl⟩ ?_
  refine v_iload_n cx (tk_dc d_M_set 3 rfl) rfl ?_
  refine v_callS (rest := _) cx (tk_dc d_M_set 4 rfl) m_M_144 ks_M_isJob k_M_isJob (c_M_isJob) rfl rfl (Nat.le_of_ble_eq_true rfl) (by decide) ?_
  refine v_if_eq cx (tk_dc d_M_set 5 rfl) 69 (by decide) (fun h => absurd h (b01_d (inN (n := 8) (by decide) hj))) (fun _ => ?_)
  refine v_iload_n cx (tk_dc d_M_set 6 rfl) rfl ?_
  refine v_if_ne cx (tk_dc d_M_set 7 rfl) 26 (by decide) (fun _ => ?_) (fun h => absurd h (by decide))
  refine v_iload_n cx (tk_dc d_M_set 12 rfl) rfl ?_
  refine v_iconst cx (tk_dc d_M_set 13 rfl) (1) (by decide) ?_
  refine v_icmp_eq cx (tk_dc d_M_set 14 rfl) 65 (by decide) (fun h => absurd h (by decide)) (fun _ => ?_)
  refine v_iload_n cx (tk_dc d_M_set 15 rfl) rfl ?_
  refine v_iconst cx (tk_dc d_M_set 16 rfl) (4) (by decide) ?_
  refine v_icmp_eq cx (tk_dc d_M_set 17 rfl) 65 (by decide) (fun _ => ?_) (fun h => absurd (rfl) h)
  refine v_iconst cx (tk_dc d_M_set 34 rfl) (1) (by decide) ?_
  refine v_goto cx (tk_dc d_M_set 35 rfl) 70 (by decide) ?_
  refine v_istore (lo' := [_, _, _, _, _]) cx (tk_dc d_M_set 37 rfl) (by decide) rfl ?_
  refine v_iload cx (tk_dc d_M_set 38 rfl) rfl ?_
  refine v_if_ne cx (tk_dc d_M_set 39 rfl) 79 (by decide) (fun _ => ?_) (fun h => absurd h (by decide))
  refine v_iload_n cx (tk_dc d_M_set 42 rfl) rfl ?_
  refine v_if_ne cx (tk_dc d_M_set 43 rfl) 93 (by decide) (fun _ => ?_) (fun h => absurd h (by decide))
  refine v_iload_n cx (tk_dc d_M_set 50 rfl) rfl ?_
  refine v_iconst cx (tk_dc d_M_set 51 rfl) (1) (by decide) ?_
  refine v_icmp_ne cx (tk_dc d_M_set 52 rfl) 116 (by decide) (fun _ => ?_) (fun h => absurd h (by decide))
  refine v_iload_n cx (tk_dc d_M_set 63 rfl) rfl ?_
  refine v_iconst cx (tk_dc d_M_set 64 rfl) (2) (by decide) ?_
  refine v_icmp_ne cx (tk_dc d_M_set 65 rfl) 131 (by decide) (fun _ => ?_) (fun h => absurd h (by decide))
  refine v_iload_n cx (tk_dc d_M_set 72 rfl) rfl ?_
  refine v_iconst cx (tk_dc d_M_set 73 rfl) (3) (by decide) ?_
  refine v_icmp_ne cx (tk_dc d_M_set 74 rfl) 146 (by decide) (fun _ => ?_) (fun h => absurd h (by decide))
  refine v_aload_n cx (tk_dc d_M_set 81 rfl) rfl ?_
  refine v_getC cx 192 (tk_dc d_M_set 82 rfl) f_M_69 o_M (by decide) (by rfl) ?_
  refine v_iload_n cx (tk_dc d_M_set 83 rfl) rfl ?_
  refine v_iload_n cx (tk_dc d_M_set 84 rfl) rfl ?_
  refine v_if_eq cx (tk_dc d_M_set 85 rfl) 159 (by decide) (fun _ => ?_) (fun h => absurd (hw) h)
  refine v_iconst cx (tk_dc d_M_set 88 rfl) (0) (by decide) ?_
  refine w_zast cx (tk_dc d_M_set 89 rfl) a_192 j (rfl) (by omega) (by decide) (by first | exact Or.inl rfl | exact Or.inr rfl | assumption) ?_
  refine v_iconst cx (tk_dc d_M_set 90 rfl) (1) (by decide) ?_
  exact v_zret cx hB (tk_dc d_M_set 91 rfl) (by first | exact Or.inl rfl | exact Or.inr rfl | exact b01_01 _ | assumption) (rfl) (rfl)

set_option maxHeartbeats 4000000 in
set_option maxRecDepth 100000 in
theorem c_M_set4n {l : Launch} {E : tk_E} {M : tk_M} {j : Nat} {w : Int32} (hj : j < 8) (hw : ¬ w = 0) : tk_Mt l y_M_set b_M_set 5 (some .boolean) 1 E [.ref (E.1 + 172), .int (nI j), .int 4, .int w] M (wI (cz M) 192 j 1) (some (.int 1)) := by
  refine tk_ofV (by decide +kernel) [some (.ref (E.1 + 172)), some (.int (nI j)), some (.int 4), some (.int w), none] rfl (Nat.le_of_ble_eq_true rfl) ?_
  intro p e s m args below meth c cx hB
  refine v_aload_n cx (tk_dc d_M_set 0 rfl) rfl ?_
  refine v_iconst cx (tk_dc d_M_set 1 rfl) (0) (by decide) ?_
  refine v_putI cx (tk_dc d_M_set 2 rfl) f_M_120 o_M (by decide) (by rfl) ⟨rfl, rfl⟩ ?_
  refine v_iload_n cx (tk_dc d_M_set 3 rfl) rfl ?_
  refine v_callS (rest := _) cx (tk_dc d_M_set 4 rfl) m_M_144 ks_M_isJob k_M_isJob (c_M_isJob) rfl rfl (Nat.le_of_ble_eq_true rfl) (by decide) ?_
  refine v_if_eq cx (tk_dc d_M_set 5 rfl) 69 (by decide) (fun h => absurd h (b01_d (inN (n := 8) (by decide) hj))) (fun _ => ?_)
  refine v_iload_n cx (tk_dc d_M_set 6 rfl) rfl ?_
  refine v_if_ne cx (tk_dc d_M_set 7 rfl) 26 (by decide) (fun _ => ?_) (fun h => absurd h (by decide))
  refine v_iload_n cx (tk_dc d_M_set 12 rfl) rfl ?_
  refine v_iconst cx (tk_dc d_M_set 13 rfl) (1) (by decide) ?_
  refine v_icmp_eq cx (tk_dc d_M_set 14 rfl) 65 (by decide) (fun h => absurd h (by decide)) (fun _ => ?_)
  refine v_iload_n cx (tk_dc d_M_set 15 rfl) rfl ?_
  refine v_iconst cx (tk_dc d_M_set 16 rfl) (4) (by decide) ?_
  refine v_icmp_eq cx (tk_dc d_M_set 17 rfl) 65 (by decide) (fun _ => ?_) (fun h => absurd (rfl) h)
  refine v_iconst cx (tk_dc d_M_set 34 rfl) (1) (by decide) ?_
  refine v_goto cx (tk_dc d_M_set 35 rfl) 70 (by decide) ?_
  refine v_istore (lo' := [_, _, _, _, _]) cx (tk_dc d_M_set 37 rfl) (by decide) rfl ?_
  refine v_iload cx (tk_dc d_M_set 38 rfl) rfl ?_
  refine v_if_ne cx (tk_dc d_M_set 39 rfl) 79 (by decide) (fun _ => ?_) (fun h => absurd h (by decide))
  refine v_iload_n cx (tk_dc d_M_set 42 rfl) rfl ?_
  refine v_if_ne cx (tk_dc d_M_set 43 rfl) 93 (by decide) (fun _ => ?_) (fun h => absurd h (by decide))
  refine v_iload_n cx (tk_dc d_M_set 50 rfl) rfl ?_
  refine v_iconst cx (tk_dc d_M_set 51 rfl) (1) (by decide) ?_
  refine v_icmp_ne cx (tk_dc d_M_set 52 rfl) 116 (by decide) (fun _ => ?_) (fun h => absurd h (by decide))
  refine v_iload_n cx (tk_dc d_M_set 63 rfl) rfl ?_
  refine v_iconst cx (tk_dc d_M_set 64 rfl) (2) (by decide) ?_
  refine v_icmp_ne cx (tk_dc d_M_set 65 rfl) 131 (by decide) (fun _ => ?_) (fun h => absurd h (by decide))
  refine v_iload_n cx (tk_dc d_M_set 72 rfl) rfl ?_
  refine v_iconst cx (tk_dc d_M_set 73 rfl) (3) (by decide) ?_
  refine v_icmp_ne cx (tk_dc d_M_set 74 rfl) 146 (by decide) (fun _ => ?_) (fun h => absurd h (by decide))
  refine v_aload_n cx (tk_dc d_M_set 81 rfl) rfl ?_
  refine v_getC cx 192 (tk_dc d_M_set 82 rfl) f_M_69 o_M (by decide) (by rfl) ?_
  refine v_iload_n cx (tk_dc d_M_set 83 rfl) rfl ?_
  refine v_iload_n cx (tk_dc d_M_set 84 rfl) rfl ?_
  refine v_if_eq cx (tk_dc d_M_set 85 rfl) 159 (by decide) (fun h => absurd h (hw)) (fun _ => ?_)
  refine v_iconst cx (tk_dc d_M_set 86 rfl) (1) (by decide) ?_
  refine v_goto cx (tk_dc d_M_set 87 rfl) 160 (by decide) ?_
  refine w_zast cx (tk_dc d_M_set 89 rfl) a_192 j (rfl) (by omega) (by decide) (by first | exact Or.inl rfl | exact Or.inr rfl | assumption) ?_
  refine v_iconst cx (tk_dc d_M_set 90 rfl) (1) (by decide) ?_
  exact v_zret cx hB (tk_dc d_M_set 91 rfl) (by first | exact Or.inl rfl | exact Or.inr rfl | exact b01_01 _ | assumption) (rfl) (rfl)

set_option maxHeartbeats 4000000 in
set_option maxRecDepth 100000 in
theorem c_M_set2 {l : Launch} {E : tk_E} {M : tk_M} {j : Nat} {w : Int32} (hj : j < 8) (h1 : ¬ w < 0) (h2 : w < 3) : tk_Mt l y_M_set b_M_set 5 (some .boolean) 1 E [.ref (E.1 + 172), .int (nI j), .int 2, .int w] M (wI (cz M) 186 j w) (some (.int 1)) := by
  refine tk_ofV (by decide +kernel) [some (.ref (E.1 + 172)), some (.int (nI j)), some (.int 2), some (.int w), none] rfl (Nat.le_of_ble_eq_true rfl) ?_
  intro p e s m args below meth c cx hB
  refine v_aload_n cx (tk_dc d_M_set 0 rfl) rfl ?_
  refine v_iconst cx (tk_dc d_M_set 1 rfl) (0) (by decide) ?_
  refine v_putI cx (tk_dc d_M_set 2 rfl) f_M_120 o_M (by decide) (by rfl) ⟨rfl, rfl⟩ ?_
  refine v_iload_n cx (tk_dc d_M_set 3 rfl) rfl ?_
  refine v_callS (rest := _) cx (tk_dc d_M_set 4 rfl) m_M_144 ks_M_isJob k_M_isJob (c_M_isJob) rfl rfl (Nat.le_of_ble_eq_true rfl) (by decide) ?_
  refine v_if_eq cx (tk_dc d_M_set 5 rfl) 69 (by decide) (fun h => absurd h (b01_d (inN (n := 8) (by decide) hj))) (fun _ => ?_)
  refine v_iload_n cx (tk_dc d_M_set 6 rfl) rfl ?_
  refine v_if_ne cx (tk_dc d_M_set 7 rfl) 26 (by decide) (fun _ => ?_) (fun h => absurd h (by decide))
  refine v_iload_n cx (tk_dc d_M_set 12 rfl) rfl ?_
  refine v_iconst cx (tk_dc d_M_set 13 rfl) (1) (by decide) ?_
  refine v_icmp_eq cx (tk_dc d_M_set 14 rfl) 65 (by decide) (fun h => absurd h (by decide)) (fun _ => ?_)
  refine v_iload_n cx (tk_dc d_M_set 15 rfl) rfl ?_
  refine v_iconst cx (tk_dc d_M_set 16 rfl) (4) (by decide) ?_
  refine v_icmp_eq cx (tk_dc d_M_set 17 rfl) 65 (by decide) (fun h => absurd h (by decide)) (fun _ => ?_)
  refine v_iload_n cx (tk_dc d_M_set 18 rfl) rfl ?_
  refine v_iconst cx (tk_dc d_M_set 19 rfl) (2) (by decide) ?_
  refine v_icmp_ne cx (tk_dc d_M_set 20 rfl) 50 (by decide) (fun h => absurd (rfl) h) (fun _ => ?_)
  refine v_iload_n cx (tk_dc d_M_set 21 rfl) rfl ?_
  refine v_if_lt cx (tk_dc d_M_set 22 rfl) 50 (by decide) (fun h => absurd h (h1)) (fun _ => ?_)
  refine v_iload_n cx (tk_dc d_M_set 23 rfl) rfl ?_
  refine v_iconst cx (tk_dc d_M_set 24 rfl) (3) (by decide) ?_
  refine v_icmp_lt cx (tk_dc d_M_set 25 rfl) 65 (by decide) (fun _ => ?_) (fun h => absurd (h2) h)
  refine v_iconst cx (tk_dc d_M_set 34 rfl) (1) (by decide) ?_
  refine v_goto cx (tk_dc d_M_set 35 rfl) 70 (by decide) ?_
  refine v_istore (lo' := [_, _, _, _, _]) cx (tk_dc d_M_set 37 rfl) (by decide) rfl ?_
  refine v_iload cx (tk_dc d_M_set 38 rfl) rfl ?_
  refine v_if_ne cx (tk_dc d_M_set 39 rfl) 79 (by decide) (fun _ => ?_) (fun h => absurd h (by decide))
  refine v_iload_n cx (tk_dc d_M_set 42 rfl) rfl ?_
  refine v_if_ne cx (tk_dc d_M_set 43 rfl) 93 (by decide) (fun _ => ?_) (fun h => absurd h (by decide))
  refine v_iload_n cx (tk_dc d_M_set 50 rfl) rfl ?_
  refine v_iconst cx (tk_dc d_M_set 51 rfl) (1) (by decide) ?_
  refine v_icmp_ne cx (tk_dc d_M_set 52 rfl) 116 (by decide) (fun _ => ?_) (fun h => absurd h (by decide))
  refine v_iload_n cx (tk_dc d_M_set 63 rfl) rfl ?_
  refine v_iconst cx (tk_dc d_M_set 64 rfl) (2) (by decide) ?_
  refine v_icmp_ne cx (tk_dc d_M_set 65 rfl) 131 (by decide) (fun h => absurd (rfl) h) (fun _ => ?_)
  refine v_aload_n cx (tk_dc d_M_set 66 rfl) rfl ?_
  refine v_getC cx 186 (tk_dc d_M_set 67 rfl) f_M_50 o_M (by decide) (by rfl) ?_
  refine v_iload_n cx (tk_dc d_M_set 68 rfl) rfl ?_
  refine v_iload_n cx (tk_dc d_M_set 69 rfl) rfl ?_
  refine w_iast cx (tk_dc d_M_set 70 rfl) a_186 j (rfl) (by omega) (by decide) ?_
  refine v_goto cx (tk_dc d_M_set 71 rfl) 161 (by decide) ?_
  refine v_iconst cx (tk_dc d_M_set 90 rfl) (1) (by decide) ?_
  exact v_zret cx hB (tk_dc d_M_set 91 rfl) (by first | exact Or.inl rfl | exact Or.inr rfl | exact b01_01 _ | assumption) (rfl) (rfl)

set_option maxHeartbeats 4000000 in
set_option maxRecDepth 100000 in
theorem n_M_set2 {l : Launch} {E : tk_E} {M : tk_M} {j : Nat} {w : Int32} (hj : j < 8) (hb : ¬ (¬ w < 0 ∧ w < 3)) : tk_Mt l y_M_set b_M_set 5 (some .boolean) 1 E [.ref (E.1 + 172), .int (nI j), .int 2, .int w] M (cz M) (some (.int 0)) := by
  refine tk_ofV (by decide +kernel) [some (.ref (E.1 + 172)), some (.int (nI j)), some (.int 2), some (.int w), none] rfl (Nat.le_of_ble_eq_true rfl) ?_
  intro p e s m args below meth c cx hB
  refine v_aload_n cx (tk_dc d_M_set 0 rfl) rfl ?_
  refine v_iconst cx (tk_dc d_M_set 1 rfl) (0) (by decide) ?_
  refine v_putI cx (tk_dc d_M_set 2 rfl) f_M_120 o_M (by decide) (by rfl) ⟨rfl, rfl⟩ ?_
  refine v_iload_n cx (tk_dc d_M_set 3 rfl) rfl ?_
  refine v_callS (rest := _) cx (tk_dc d_M_set 4 rfl) m_M_144 ks_M_isJob k_M_isJob (c_M_isJob) rfl rfl (Nat.le_of_ble_eq_true rfl) (by decide) ?_
  refine v_if_eq cx (tk_dc d_M_set 5 rfl) 69 (by decide) (fun h => absurd h (b01_d (inN (n := 8) (by decide) hj))) (fun _ => ?_)
  refine v_iload_n cx (tk_dc d_M_set 6 rfl) rfl ?_
  refine v_if_ne cx (tk_dc d_M_set 7 rfl) 26 (by decide) (fun _ => ?_) (fun h => absurd h (by decide))
  refine v_iload_n cx (tk_dc d_M_set 12 rfl) rfl ?_
  refine v_iconst cx (tk_dc d_M_set 13 rfl) (1) (by decide) ?_
  refine v_icmp_eq cx (tk_dc d_M_set 14 rfl) 65 (by decide) (fun h => absurd h (by decide)) (fun _ => ?_)
  refine v_iload_n cx (tk_dc d_M_set 15 rfl) rfl ?_
  refine v_iconst cx (tk_dc d_M_set 16 rfl) (4) (by decide) ?_
  refine v_icmp_eq cx (tk_dc d_M_set 17 rfl) 65 (by decide) (fun h => absurd h (by decide)) (fun _ => ?_)
  refine v_iload_n cx (tk_dc d_M_set 18 rfl) rfl ?_
  refine v_iconst cx (tk_dc d_M_set 19 rfl) (2) (by decide) ?_
  refine v_icmp_ne cx (tk_dc d_M_set 20 rfl) 50 (by decide) (fun h => absurd (rfl) h) (fun _ => ?_)
  refine v_iload_n cx (tk_dc d_M_set 21 rfl) rfl ?_
  refine v_if_lt cx (tk_dc d_M_set 22 rfl) 50 (by decide) (fun h42 => ?_) (fun h42 => ?_)
  · refine v_iload_n cx (tk_dc d_M_set 26 rfl) rfl ?_
    refine v_iconst cx (tk_dc d_M_set 27 rfl) (3) (by decide) ?_
    refine v_icmp_ne cx (tk_dc d_M_set 28 rfl) 69 (by decide) (fun _ => ?_) (fun h => absurd h (by decide))
    refine v_iconst cx (tk_dc d_M_set 36 rfl) (0) (by decide) ?_
    refine v_istore (lo' := [_, _, _, _, _]) cx (tk_dc d_M_set 37 rfl) (by decide) rfl ?_
    refine v_iload cx (tk_dc d_M_set 38 rfl) rfl ?_
    refine v_if_ne cx (tk_dc d_M_set 39 rfl) 79 (by decide) (fun h => absurd (by decide) h) (fun _ => ?_)
    refine v_iconst cx (tk_dc d_M_set 40 rfl) (0) (by decide) ?_
    exact v_zret cx hB (tk_dc d_M_set 41 rfl) (by first | exact Or.inl rfl | exact Or.inr rfl | exact b01_01 _ | assumption) (rfl) (rfl)
  · refine v_iload_n cx (tk_dc d_M_set 23 rfl) rfl ?_
    refine v_iconst cx (tk_dc d_M_set 24 rfl) (3) (by decide) ?_
    refine v_icmp_lt cx (tk_dc d_M_set 25 rfl) 65 (by decide) (fun h47 => ?_) (fun h47 => ?_)
    · exact absurd ⟨h42, h47⟩ hb
    · refine v_iload_n cx (tk_dc d_M_set 26 rfl) rfl ?_
      refine v_iconst cx (tk_dc d_M_set 27 rfl) (3) (by decide) ?_
      refine v_icmp_ne cx (tk_dc d_M_set 28 rfl) 69 (by decide) (fun _ => ?_) (fun h => absurd h (by decide))
      refine v_iconst cx (tk_dc d_M_set 36 rfl) (0) (by decide) ?_
      refine v_istore (lo' := [_, _, _, _, _]) cx (tk_dc d_M_set 37 rfl) (by decide) rfl ?_
      refine v_iload cx (tk_dc d_M_set 38 rfl) rfl ?_
      refine v_if_ne cx (tk_dc d_M_set 39 rfl) 79 (by decide) (fun h => absurd (by decide) h) (fun _ => ?_)
      refine v_iconst cx (tk_dc d_M_set 40 rfl) (0) (by decide) ?_
      exact v_zret cx hB (tk_dc d_M_set 41 rfl) (by first | exact Or.inl rfl | exact Or.inr rfl | exact b01_01 _ | assumption) (rfl) (rfl)

set_option maxHeartbeats 4000000 in
set_option maxRecDepth 100000 in
theorem c_M_set3 {l : Launch} {E : tk_E} {M : tk_M} {j : Nat} {w : Int32} (hj : j < 8) (h1 : ¬ w < 0) (h2 : ¬ 100000 < w) : tk_Mt l y_M_set b_M_set 5 (some .boolean) 1 E [.ref (E.1 + 172), .int (nI j), .int 3, .int w] M (wI (cz M) 187 j w) (some (.int 1)) := by
  refine tk_ofV (by decide +kernel) [some (.ref (E.1 + 172)), some (.int (nI j)), some (.int 3), some (.int w), none] rfl (Nat.le_of_ble_eq_true rfl) ?_
  intro p e s m args below meth c cx hB
  refine v_aload_n cx (tk_dc d_M_set 0 rfl) rfl ?_
  refine v_iconst cx (tk_dc d_M_set 1 rfl) (0) (by decide) ?_
  refine v_putI cx (tk_dc d_M_set 2 rfl) f_M_120 o_M (by decide) (by rfl) ⟨rfl, rfl⟩ ?_
  refine v_iload_n cx (tk_dc d_M_set 3 rfl) rfl ?_
  refine v_callS (rest := _) cx (tk_dc d_M_set 4 rfl) m_M_144 ks_M_isJob k_M_isJob (c_M_isJob) rfl rfl (Nat.le_of_ble_eq_true rfl) (by decide) ?_
  refine v_if_eq cx (tk_dc d_M_set 5 rfl) 69 (by decide) (fun h => absurd h (b01_d (inN (n := 8) (by decide) hj))) (fun _ => ?_)
  refine v_iload_n cx (tk_dc d_M_set 6 rfl) rfl ?_
  refine v_if_ne cx (tk_dc d_M_set 7 rfl) 26 (by decide) (fun _ => ?_) (fun h => absurd h (by decide))
  refine v_iload_n cx (tk_dc d_M_set 12 rfl) rfl ?_
  refine v_iconst cx (tk_dc d_M_set 13 rfl) (1) (by decide) ?_
  refine v_icmp_eq cx (tk_dc d_M_set 14 rfl) 65 (by decide) (fun h => absurd h (by decide)) (fun _ => ?_)
  refine v_iload_n cx (tk_dc d_M_set 15 rfl) rfl ?_
  refine v_iconst cx (tk_dc d_M_set 16 rfl) (4) (by decide) ?_
  refine v_icmp_eq cx (tk_dc d_M_set 17 rfl) 65 (by decide) (fun h => absurd h (by decide)) (fun _ => ?_)
  refine v_iload_n cx (tk_dc d_M_set 18 rfl) rfl ?_
  refine v_iconst cx (tk_dc d_M_set 19 rfl) (2) (by decide) ?_
  refine v_icmp_ne cx (tk_dc d_M_set 20 rfl) 50 (by decide) (fun _ => ?_) (fun h => absurd h (by decide))
  refine v_iload_n cx (tk_dc d_M_set 26 rfl) rfl ?_
  refine v_iconst cx (tk_dc d_M_set 27 rfl) (3) (by decide) ?_
  refine v_icmp_ne cx (tk_dc d_M_set 28 rfl) 69 (by decide) (fun h => absurd (rfl) h) (fun _ => ?_)
  refine v_iload_n cx (tk_dc d_M_set 29 rfl) rfl ?_
  refine v_if_lt cx (tk_dc d_M_set 30 rfl) 69 (by decide) (fun h => absurd h (h1)) (fun _ => ?_)
  refine v_iload_n cx (tk_dc d_M_set 31 rfl) rfl ?_
  refine v_ldc cx (tk_dc d_M_set 32 rfl) c_M_148 ?_
  refine v_icmp_gt cx (tk_dc d_M_set 33 rfl) 69 (by decide) (fun h => absurd h (h2)) (fun _ => ?_)
  refine v_iconst cx (tk_dc d_M_set 34 rfl) (1) (by decide) ?_
  refine v_goto cx (tk_dc d_M_set 35 rfl) 70 (by decide) ?_
  refine v_istore (lo' := [_, _, _, _, _]) cx (tk_dc d_M_set 37 rfl) (by decide) rfl ?_
  refine v_iload cx (tk_dc d_M_set 38 rfl) rfl ?_
  refine v_if_ne cx (tk_dc d_M_set 39 rfl) 79 (by decide) (fun _ => ?_) (fun h => absurd h (by decide))
  refine v_iload_n cx (tk_dc d_M_set 42 rfl) rfl ?_
  refine v_if_ne cx (tk_dc d_M_set 43 rfl) 93 (by decide) (fun _ => ?_) (fun h => absurd h (by decide))
  refine v_iload_n cx (tk_dc d_M_set 50 rfl) rfl ?_
  refine v_iconst cx (tk_dc d_M_set 51 rfl) (1) (by decide) ?_
  refine v_icmp_ne cx (tk_dc d_M_set 52 rfl) 116 (by decide) (fun _ => ?_) (fun h => absurd h (by decide))
  refine v_iload_n cx (tk_dc d_M_set 63 rfl) rfl ?_
  refine v_iconst cx (tk_dc d_M_set 64 rfl) (2) (by decide) ?_
  refine v_icmp_ne cx (tk_dc d_M_set 65 rfl) 131 (by decide) (fun _ => ?_) (fun h => absurd h (by decide))
  refine v_iload_n cx (tk_dc d_M_set 72 rfl) rfl ?_
  refine v_iconst cx (tk_dc d_M_set 73 rfl) (3) (by decide) ?_
  refine v_icmp_ne cx (tk_dc d_M_set 74 rfl) 146 (by decide) (fun h => absurd (rfl) h) (fun _ => ?_)
  refine v_aload_n cx (tk_dc d_M_set 75 rfl) rfl ?_
  refine v_getC cx 187 (tk_dc d_M_set 76 rfl) f_M_53 o_M (by decide) (by rfl) ?_
  refine v_iload_n cx (tk_dc d_M_set 77 rfl) rfl ?_
  refine v_iload_n cx (tk_dc d_M_set 78 rfl) rfl ?_
  refine w_iast cx (tk_dc d_M_set 79 rfl) a_187 j (rfl) (by omega) (by decide) ?_
  refine v_goto cx (tk_dc d_M_set 80 rfl) 161 (by decide) ?_
  refine v_iconst cx (tk_dc d_M_set 90 rfl) (1) (by decide) ?_
  exact v_zret cx hB (tk_dc d_M_set 91 rfl) (by first | exact Or.inl rfl | exact Or.inr rfl | exact b01_01 _ | assumption) (rfl) (rfl)

set_option maxHeartbeats 4000000 in
set_option maxRecDepth 100000 in
theorem n_M_set3 {l : Launch} {E : tk_E} {M : tk_M} {j : Nat} {w : Int32} (hj : j < 8) (hb : ¬ (¬ w < 0 ∧ ¬ 100000 < w)) : tk_Mt l y_M_set b_M_set 5 (some .boolean) 1 E [.ref (E.1 + 172), .int (nI j), .int 3, .int w] M (cz M) (some (.int 0)) := by
  refine tk_ofV (by decide +kernel) [some (.ref (E.1 + 172)), some (.int (nI j)), some (.int 3), some (.int w), none] rfl (Nat.le_of_ble_eq_true rfl) ?_
  intro p e s m args below meth c cx hB
  refine v_aload_n cx (tk_dc d_M_set 0 rfl) rfl ?_
  refine v_iconst cx (tk_dc d_M_set 1 rfl) (0) (by decide) ?_
  refine v_putI cx (tk_dc d_M_set 2 rfl) f_M_120 o_M (by decide) (by rfl) ⟨rfl, rfl⟩ ?_
  refine v_iload_n cx (tk_dc d_M_set 3 rfl) rfl ?_
  refine v_callS (rest := _) cx (tk_dc d_M_set 4 rfl) m_M_144 ks_M_isJob k_M_isJob (c_M_isJob) rfl rfl (Nat.le_of_ble_eq_true rfl) (by decide) ?_
  refine v_if_eq cx (tk_dc d_M_set 5 rfl) 69 (by decide) (fun h => absurd h (b01_d (inN (n := 8) (by decide) hj))) (fun _ => ?_)
  refine v_iload_n cx (tk_dc d_M_set 6 rfl) rfl ?_
  refine v_if_ne cx (tk_dc d_M_set 7 rfl) 26 (by decide) (fun _ => ?_) (fun h => absurd h (by decide))
  refine v_iload_n cx (tk_dc d_M_set 12 rfl) rfl ?_
  refine v_iconst cx (tk_dc d_M_set 13 rfl) (1) (by decide) ?_
  refine v_icmp_eq cx (tk_dc d_M_set 14 rfl) 65 (by decide) (fun h => absurd h (by decide)) (fun _ => ?_)
  refine v_iload_n cx (tk_dc d_M_set 15 rfl) rfl ?_
  refine v_iconst cx (tk_dc d_M_set 16 rfl) (4) (by decide) ?_
  refine v_icmp_eq cx (tk_dc d_M_set 17 rfl) 65 (by decide) (fun h => absurd h (by decide)) (fun _ => ?_)
  refine v_iload_n cx (tk_dc d_M_set 18 rfl) rfl ?_
  refine v_iconst cx (tk_dc d_M_set 19 rfl) (2) (by decide) ?_
  refine v_icmp_ne cx (tk_dc d_M_set 20 rfl) 50 (by decide) (fun _ => ?_) (fun h => absurd h (by decide))
  refine v_iload_n cx (tk_dc d_M_set 26 rfl) rfl ?_
  refine v_iconst cx (tk_dc d_M_set 27 rfl) (3) (by decide) ?_
  refine v_icmp_ne cx (tk_dc d_M_set 28 rfl) 69 (by decide) (fun h => absurd (rfl) h) (fun _ => ?_)
  refine v_iload_n cx (tk_dc d_M_set 29 rfl) rfl ?_
  refine v_if_lt cx (tk_dc d_M_set 30 rfl) 69 (by decide) (fun h56 => ?_) (fun h56 => ?_)
  · refine v_iconst cx (tk_dc d_M_set 36 rfl) (0) (by decide) ?_
    refine v_istore (lo' := [_, _, _, _, _]) cx (tk_dc d_M_set 37 rfl) (by decide) rfl ?_
    refine v_iload cx (tk_dc d_M_set 38 rfl) rfl ?_
    refine v_if_ne cx (tk_dc d_M_set 39 rfl) 79 (by decide) (fun h => absurd (by decide) h) (fun _ => ?_)
    refine v_iconst cx (tk_dc d_M_set 40 rfl) (0) (by decide) ?_
    exact v_zret cx hB (tk_dc d_M_set 41 rfl) (by first | exact Or.inl rfl | exact Or.inr rfl | exact b01_01 _ | assumption) (rfl) (rfl)
  · refine v_iload_n cx (tk_dc d_M_set 31 rfl) rfl ?_
    refine v_ldc cx (tk_dc d_M_set 32 rfl) c_M_148 ?_
    refine v_icmp_gt cx (tk_dc d_M_set 33 rfl) 69 (by decide) (fun h62 => ?_) (fun h62 => ?_)
    · refine v_iconst cx (tk_dc d_M_set 36 rfl) (0) (by decide) ?_
      refine v_istore (lo' := [_, _, _, _, _]) cx (tk_dc d_M_set 37 rfl) (by decide) rfl ?_
      refine v_iload cx (tk_dc d_M_set 38 rfl) rfl ?_
      refine v_if_ne cx (tk_dc d_M_set 39 rfl) 79 (by decide) (fun h => absurd (by decide) h) (fun _ => ?_)
      refine v_iconst cx (tk_dc d_M_set 40 rfl) (0) (by decide) ?_
      exact v_zret cx hB (tk_dc d_M_set 41 rfl) (by first | exact Or.inl rfl | exact Or.inr rfl | exact b01_01 _ | assumption) (rfl) (rfl)
    · exact absurd ⟨h56, h62⟩ hb

set_option maxHeartbeats 4000000 in
set_option maxRecDepth 100000 in
theorem n_M_setx {l : Launch} {E : tk_E} {M : tk_M} {j : Nat} {y w : Int32} (hj : j < 8) (h0 : ¬ y = 0) (h1 : ¬ y = 1) (h2 : ¬ y = 2) (h3 : ¬ y = 3) (h4 : ¬ y = 4) : tk_Mt l y_M_set b_M_set 5 (some .boolean) 1 E [.ref (E.1 + 172), .int (nI j), .int y, .int w] M (cz M) (some (.int 0)) := by
  refine tk_ofV (by decide +kernel) [some (.ref (E.1 + 172)), some (.int (nI j)), some (.int y), some (.int w), none] rfl (Nat.le_of_ble_eq_true rfl) ?_
  intro p e s m args below meth c cx hB
  refine v_aload_n cx (tk_dc d_M_set 0 rfl) rfl ?_
  refine v_iconst cx (tk_dc d_M_set 1 rfl) (0) (by decide) ?_
  refine v_putI cx (tk_dc d_M_set 2 rfl) f_M_120 o_M (by decide) (by rfl) ⟨rfl, rfl⟩ ?_
  refine v_iload_n cx (tk_dc d_M_set 3 rfl) rfl ?_
  refine v_callS (rest := _) cx (tk_dc d_M_set 4 rfl) m_M_144 ks_M_isJob k_M_isJob (c_M_isJob) rfl rfl (Nat.le_of_ble_eq_true rfl) (by decide) ?_
  refine v_if_eq cx (tk_dc d_M_set 5 rfl) 69 (by decide) (fun h => absurd h (b01_d (inN (n := 8) (by decide) hj))) (fun _ => ?_)
  refine v_iload_n cx (tk_dc d_M_set 6 rfl) rfl ?_
  refine v_if_ne cx (tk_dc d_M_set 7 rfl) 26 (by decide) (fun _ => ?_) (fun h => absurd h (h0))
  refine v_iload_n cx (tk_dc d_M_set 12 rfl) rfl ?_
  refine v_iconst cx (tk_dc d_M_set 13 rfl) (1) (by decide) ?_
  refine v_icmp_eq cx (tk_dc d_M_set 14 rfl) 65 (by decide) (fun h => absurd h (h1)) (fun _ => ?_)
  refine v_iload_n cx (tk_dc d_M_set 15 rfl) rfl ?_
  refine v_iconst cx (tk_dc d_M_set 16 rfl) (4) (by decide) ?_
  refine v_icmp_eq cx (tk_dc d_M_set 17 rfl) 65 (by decide) (fun h => absurd h (h4)) (fun _ => ?_)
  refine v_iload_n cx (tk_dc d_M_set 18 rfl) rfl ?_
  refine v_iconst cx (tk_dc d_M_set 19 rfl) (2) (by decide) ?_
  refine v_icmp_ne cx (tk_dc d_M_set 20 rfl) 50 (by decide) (fun _ => ?_) (fun h => absurd h (h2))
  refine v_iload_n cx (tk_dc d_M_set 26 rfl) rfl ?_
  refine v_iconst cx (tk_dc d_M_set 27 rfl) (3) (by decide) ?_
  refine v_icmp_ne cx (tk_dc d_M_set 28 rfl) 69 (by decide) (fun _ => ?_) (fun h => absurd h (h3))
  refine v_iconst cx (tk_dc d_M_set 36 rfl) (0) (by decide) ?_
  refine v_istore (lo' := [_, _, _, _, _]) cx (tk_dc d_M_set 37 rfl) (by decide) rfl ?_
  refine v_iload cx (tk_dc d_M_set 38 rfl) rfl ?_
  refine v_if_ne cx (tk_dc d_M_set 39 rfl) 79 (by decide) (fun h => absurd (by decide) h) (fun _ => ?_)
  refine v_iconst cx (tk_dc d_M_set 40 rfl) (0) (by decide) ?_
  exact v_zret cx hB (tk_dc d_M_set 41 rfl) (by first | exact Or.inl rfl | exact Or.inr rfl | exact b01_01 _ | assumption) (rfl) (rfl)

set_option maxHeartbeats 4000000 in
set_option maxRecDepth 100000 in
theorem n_M_except {l : Launch} {E : tk_E} {M : tk_M} {x y : Int32} (hbad : ¬ ((¬ x < 0 ∧ x < 8) ∧ (¬ y < 0 ∧ y ≤ 52595999))) : tk_Mt l y_M_except b_M_except 3 (some .boolean) 1 E [.ref (E.1 + 172), .int x, .int y] M (cz M) (some (.int 0)) := by
  refine tk_ofV (by decide +kernel) [some (.ref (E.1 + 172)), some (.int x), some (.int y)] rfl (Nat.le_of_ble_eq_true rfl) ?_
  intro p e s m args below meth c cx hB
  refine v_aload_n cx (tk_dc d_M_except 0 rfl) rfl ?_
  refine v_iconst cx (tk_dc d_M_except 1 rfl) (0) (by decide) ?_
  refine v_putI cx (tk_dc d_M_except 2 rfl) f_M_120 o_M (by decide) (by rfl) ⟨rfl, rfl⟩ ?_
  refine v_iload_n cx (tk_dc d_M_except 3 rfl) rfl ?_
  refine v_callS (rest := _) cx (tk_dc d_M_except 4 rfl) m_M_144 ks_M_isJob k_M_isJob (c_M_isJob) rfl rfl (Nat.le_of_ble_eq_true rfl) (by decide) ?_
  refine v_if_eq cx (tk_dc d_M_except 5 rfl) 39 (by decide) (fun h9 => ?_) (fun h9 => ?_)
  · refine v_iconst cx (tk_dc d_M_except 20 rfl) (0) (by decide) ?_
    exact v_zret cx hB (tk_dc d_M_except 21 rfl) (by first | exact Or.inl rfl | exact Or.inr rfl | exact b01_01 _ | assumption) (rfl) (rfl)
  · have g9 := of_decide_eq_true (b01_nz h9)
    refine v_iload_n cx (tk_dc d_M_except 6 rfl) rfl ?_
    refine v_callS (rest := _) cx (tk_dc d_M_except 7 rfl) m_M_136 ks_M_isMinute k_M_isMinute (c_M_isMinute) rfl rfl (Nat.le_of_ble_eq_true rfl) (by decide) ?_
    refine v_if_eq cx (tk_dc d_M_except 8 rfl) 39 (by decide) (fun h16 => ?_) (fun h16 => ?_)
    · refine v_iconst cx (tk_dc d_M_except 20 rfl) (0) (by decide) ?_
      exact v_zret cx hB (tk_dc d_M_except 21 rfl) (by first | exact Or.inl rfl | exact Or.inr rfl | exact b01_01 _ | assumption) (rfl) (rfl)
    · have g16 := of_decide_eq_true (b01_nz h16)
      exact absurd ⟨g9, g16⟩ hbad

set_option maxHeartbeats 4000000 in
set_option maxRecDepth 100000 in
theorem c_M_except {l : Launch} {E : tk_E} {M : tk_M} {j k : Nat} {y : Int32} (hj : j < 8) (h1 : ¬ y < 0 ∧ y ≤ 52595999) (hk8 : k ≤ 8) (hk : M.1 189 j = nI k) : tk_Mt l y_M_except b_M_except 3 (some .boolean) 1 E [.ref (E.1 + 172), .int (nI j), .int y] M (if k = 8 ∨ m_exc M j k y = true then cz M else wI (wI (cz M) 188 (8 * j + k) y) 189 j (nI (k + 1))) (some (.int (if k = 8 ∨ m_exc M j k y = true then 0 else 1))) := by
  refine tk_ofV (by decide +kernel) [some (.ref (E.1 + 172)), some (.int (nI j)), some (.int y)] rfl (Nat.le_of_ble_eq_true rfl) ?_
  intro p e s m args below meth c cx hB
  refine v_aload_n cx (tk_dc d_M_except 0 rfl) rfl ?_
  refine v_iconst cx (tk_dc d_M_except 1 rfl) (0) (by decide) ?_
  refine v_putI cx (tk_dc d_M_except 2 rfl) f_M_120 o_M (by decide) (by rfl) ⟨rfl, rfl⟩ ?_
  refine v_iload_n cx (tk_dc d_M_except 3 rfl) rfl ?_
  refine v_callS (rest := _) cx (tk_dc d_M_except 4 rfl) m_M_144 ks_M_isJob k_M_isJob (c_M_isJob) rfl rfl (Nat.le_of_ble_eq_true rfl) (by decide) ?_
  refine v_if_eq cx (tk_dc d_M_except 5 rfl) 39 (by decide) (fun h => absurd h (b01_d (inN (n := 8) (by decide) hj))) (fun _ => ?_)
  refine v_iload_n cx (tk_dc d_M_except 6 rfl) rfl ?_
  refine v_callS (rest := _) cx (tk_dc d_M_except 7 rfl) m_M_136 ks_M_isMinute k_M_isMinute (c_M_isMinute) rfl rfl (Nat.le_of_ble_eq_true rfl) (by decide) ?_
  refine v_if_eq cx (tk_dc d_M_except 8 rfl) 39 (by decide) (fun h => absurd h (b01_d (h1))) (fun _ => ?_)
  refine v_aload_n cx (tk_dc d_M_except 9 rfl) rfl ?_
  refine v_getC cx 189 (tk_dc d_M_except 10 rfl) f_M_59 o_M (by decide) (by rfl) ?_
  refine v_iload_n cx (tk_dc d_M_except 11 rfl) rfl ?_
  refine w_iald cx (tk_dc d_M_except 12 rfl) a_189 j (rfl) (by omega) (by decide) ?_
  refine v_eqi (nI k) (by simp only [wI_ne (show ¬ (189 = 172 ∧ j = 0) by omega), wI_ne (show ¬ (189 = 188 ∧ j = 8 * j + k) by omega)]; exact hk) ?_
  refine v_bipush cx (tk_dc d_M_except 13 rfl) (8) (by decide) ?_
  refine v_icmp_eq cx (tk_dc d_M_except 14 rfl) 39 (by decide) (fun h27 => ?_) (fun h27 => ?_)
  · have g30 : k = 8 := nI_inj (by omega) (by decide) (show nI k = nI 8 from h27)
    have g39 : True := trivial
    refine v_iconst cx (tk_dc d_M_except 20 rfl) (0) (by decide) ?_
    exact v_zret cx hB (tk_dc d_M_except 21 rfl) (by first | exact Or.inl rfl | exact Or.inr rfl | exact b01_01 _ | assumption) (by simp [g30, g39]) (by simp [g30, g39, cz])
  · have g30 : ¬ k = 8 := fun q => h27 (by rw [q]; rfl)
    refine v_aload_n cx (tk_dc d_M_except 15 rfl) rfl ?_
    refine v_iload_n cx (tk_dc d_M_except 16 rfl) rfl ?_
    refine v_iload_n cx (tk_dc d_M_except 17 rfl) rfl ?_
    refine v_callV (rest := _) cx (tk_dc d_M_except 18 rfl) m_M_149 kn_M_isException kv_M_isException k_M_isException o_M (by decide) rfl (c_M_isException hj hk8 (by rw [wI_ne (by omega)]; exact hk)) rfl rfl (Nat.le_of_ble_eq_true rfl) (by decide) ?_
    refine v_eqi (b01 (m_exc M j k y)) (by congr 1) ?_
    refine v_if_eq cx (tk_dc d_M_except 19 rfl) 41 (by decide) (fun h36 => ?_) (fun h36 => ?_)
    · have g39 := b01_z h36
      refine v_aload_n cx (tk_dc d_M_except 22 rfl) rfl ?_
      refine v_getC cx 188 (tk_dc d_M_except 23 rfl) f_M_56 o_M (by decide) (by rfl) ?_
      refine v_bipush cx (tk_dc d_M_except 24 rfl) (8) (by decide) ?_
      refine v_iload_n cx (tk_dc d_M_except 25 rfl) rfl ?_
      refine v_imul cx (tk_dc d_M_except 26 rfl) ?_
      refine v_aload_n cx (tk_dc d_M_except 27 rfl) rfl ?_
      refine v_getC cx 189 (tk_dc d_M_except 28 rfl) f_M_59 o_M (by decide) (by rfl) ?_
      refine v_iload_n cx (tk_dc d_M_except 29 rfl) rfl ?_
      refine w_iald cx (tk_dc d_M_except 30 rfl) a_189 j (rfl) (by omega) (by decide) ?_
      refine v_eqi (nI k) (by simp only [wI_ne (show ¬ (189 = 172 ∧ j = 0) by omega), wI_ne (show ¬ (189 = 188 ∧ j = 8 * j + k) by omega)]; exact hk) ?_
      refine v_iadd cx (tk_dc d_M_except 31 rfl) ?_
      refine v_iload_n cx (tk_dc d_M_except 32 rfl) rfl ?_
      refine w_iast cx (tk_dc d_M_except 33 rfl) a_188 (8 * j + k) (by rw [show (8 : Int32) = nI 8 from rfl, pk_mul, nI_add]) (by omega) (by decide) ?_
      refine v_aload_n cx (tk_dc d_M_except 34 rfl) rfl ?_
      refine v_getC cx 189 (tk_dc d_M_except 35 rfl) f_M_59 o_M (by decide) (by rfl) ?_
      refine v_iload_n cx (tk_dc d_M_except 36 rfl) rfl ?_
      refine v_dup2 cx (tk_dc d_M_except 37 rfl) rfl rfl ?_
      refine w_iald cx (tk_dc d_M_except 38 rfl) a_189 j (rfl) (by omega) (by decide) ?_
      refine v_eqi (nI k) (by simp only [wI_ne (show ¬ (189 = 172 ∧ j = 0) by omega), wI_ne (show ¬ (189 = 188 ∧ j = 8 * j + k) by omega)]; exact hk) ?_
      refine v_iconst cx (tk_dc d_M_except 39 rfl) (1) (by decide) ?_
      refine v_iadd cx (tk_dc d_M_except 40 rfl) ?_
      refine v_eqi (nI (k + 1)) (nI_succ k).symm ?_
      refine w_iast cx (tk_dc d_M_except 41 rfl) a_189 j (rfl) (by omega) (by decide) ?_
      refine v_iconst cx (tk_dc d_M_except 42 rfl) (1) (by decide) ?_
      exact v_zret cx hB (tk_dc d_M_except 43 rfl) (by first | exact Or.inl rfl | exact Or.inr rfl | exact b01_01 _ | assumption) (by simp [g30, g39]) (by simp [g30, g39, cz])
    · have g39 := b01_nz h36
      refine v_iconst cx (tk_dc d_M_except 20 rfl) (0) (by decide) ?_
      exact v_zret cx hB (tk_dc d_M_except 21 rfl) (by first | exact Or.inl rfl | exact Or.inr rfl | exact b01_01 _ | assumption) (by simp [g30, g39]) (by simp [g30, g39, cz])

set_option maxHeartbeats 4000000 in
set_option maxRecDepth 100000 in
theorem n_M_after {l : Launch} {E : tk_E} {M : tk_M} {x y w : Int32} (hbad : ¬ ((¬ x < 0 ∧ x < 8) ∧ (¬ y < 0 ∧ y < 8) ∧ (¬ x = y))) : tk_Mt l y_M_after b_M_after 4 (some .boolean) 1 E [.ref (E.1 + 172), .int x, .int y, .int w] M (cz M) (some (.int 0)) := by
  refine tk_ofV (by decide +kernel) [some (.ref (E.1 + 172)), some (.int x), some (.int y), some (.int w)] rfl (Nat.le_of_ble_eq_true rfl) ?_
  intro p e s m args below meth c cx hB
  refine v_aload_n cx (tk_dc d_M_after 0 rfl) rfl ?_
  refine v_iconst cx (tk_dc d_M_after 1 rfl) (0) (by decide) ?_
  refine v_putI cx (tk_dc d_M_after 2 rfl) f_M_120 o_M (by decide) (by rfl) ⟨rfl, rfl⟩ ?_
  refine v_iload_n cx (tk_dc d_M_after 3 rfl) rfl ?_
  refine v_callS (rest := _) cx (tk_dc d_M_after 4 rfl) m_M_144 ks_M_isJob k_M_isJob (c_M_isJob) rfl rfl (Nat.le_of_ble_eq_true rfl) (by decide) ?_
  refine v_if_eq cx (tk_dc d_M_after 5 rfl) 24 (by decide) (fun h9 => ?_) (fun h9 => ?_)
  · refine v_iconst cx (tk_dc d_M_after 12 rfl) (0) (by decide) ?_
    exact v_zret cx hB (tk_dc d_M_after 13 rfl) (by first | exact Or.inl rfl | exact Or.inr rfl | exact b01_01 _ | assumption) (rfl) (rfl)
  · have g9 := of_decide_eq_true (b01_nz h9)
    refine v_iload_n cx (tk_dc d_M_after 6 rfl) rfl ?_
    refine v_callS (rest := _) cx (tk_dc d_M_after 7 rfl) m_M_144 ks_M_isJob k_M_isJob (c_M_isJob) rfl rfl (Nat.le_of_ble_eq_true rfl) (by decide) ?_
    refine v_if_eq cx (tk_dc d_M_after 8 rfl) 24 (by decide) (fun h16 => ?_) (fun h16 => ?_)
    · refine v_iconst cx (tk_dc d_M_after 12 rfl) (0) (by decide) ?_
      exact v_zret cx hB (tk_dc d_M_after 13 rfl) (by first | exact Or.inl rfl | exact Or.inr rfl | exact b01_01 _ | assumption) (rfl) (rfl)
    · have g16 := of_decide_eq_true (b01_nz h16)
      refine v_iload_n cx (tk_dc d_M_after 9 rfl) rfl ?_
      refine v_iload_n cx (tk_dc d_M_after 10 rfl) rfl ?_
      refine v_icmp_ne cx (tk_dc d_M_after 11 rfl) 26 (by decide) (fun h21 => ?_) (fun h21 => ?_)
      · exact absurd ⟨g9, g16, h21⟩ hbad
      · refine v_iconst cx (tk_dc d_M_after 12 rfl) (0) (by decide) ?_
        exact v_zret cx hB (tk_dc d_M_after 13 rfl) (by first | exact Or.inl rfl | exact Or.inr rfl | exact b01_01 _ | assumption) (rfl) (rfl)

set_option maxHeartbeats 4000000 in
set_option maxRecDepth 100000 in
theorem c_M_aftert {l : Launch} {E : tk_E} {M : tk_M} {j i : Nat} {w : Int32} (hj : j < 8) (hi : i < 8) (hji : ¬ j = i) (hw : ¬ w = 0) : tk_Mt l y_M_after b_M_after 4 (some .boolean) 1 E [.ref (E.1 + 172), .int (nI j), .int (nI i), .int w] M (wI (cz M) 190 j (M.1 190 j ||| ((1 : Int32) <<< (nI i &&& 31)))) (some (.int 1)) := by
  refine tk_ofV (by decide +kernel) [some (.ref (E.1 + 172)), some (.int (nI j)), some (.int (nI i)), some (.int w)] rfl (Nat.le_of_ble_eq_true rfl) ?_
  intro p e s m args below meth c cx hB
  refine v_aload_n cx (tk_dc d_M_after 0 rfl) rfl ?_
  refine v_iconst cx (tk_dc d_M_after 1 rfl) (0) (by decide) ?_
  refine v_putI cx (tk_dc d_M_after 2 rfl) f_M_120 o_M (by decide) (by rfl) ⟨rfl, rfl⟩ ?_
  refine v_iload_n cx (tk_dc d_M_after 3 rfl) rfl ?_
  refine v_callS (rest := _) cx (tk_dc d_M_after 4 rfl) m_M_144 ks_M_isJob k_M_isJob (c_M_isJob) rfl rfl (Nat.le_of_ble_eq_true rfl) (by decide) ?_
  refine v_if_eq cx (tk_dc d_M_after 5 rfl) 24 (by decide) (fun h => absurd h (b01_d (inN (n := 8) (by decide) hj))) (fun _ => ?_)
  refine v_iload_n cx (tk_dc d_M_after 6 rfl) rfl ?_
  refine v_callS (rest := _) cx (tk_dc d_M_after 7 rfl) m_M_144 ks_M_isJob k_M_isJob (c_M_isJob) rfl rfl (Nat.le_of_ble_eq_true rfl) (by decide) ?_
  refine v_if_eq cx (tk_dc d_M_after 8 rfl) 24 (by decide) (fun h => absurd h (b01_d (inN (n := 8) (by decide) hi))) (fun _ => ?_)
  refine v_iload_n cx (tk_dc d_M_after 9 rfl) rfl ?_
  refine v_iload_n cx (tk_dc d_M_after 10 rfl) rfl ?_
  refine v_icmp_ne cx (tk_dc d_M_after 11 rfl) 26 (by decide) (fun _ => ?_) (fun h => absurd h (fun q => hji (nI_inj (by omega) (by omega) q)))
  refine v_aload_n cx (tk_dc d_M_after 14 rfl) rfl ?_
  refine v_getC cx 190 (tk_dc d_M_after 15 rfl) f_M_62 o_M (by decide) (by rfl) ?_
  refine v_iload_n cx (tk_dc d_M_after 16 rfl) rfl ?_
  refine v_iload_n cx (tk_dc d_M_after 17 rfl) rfl ?_
  refine v_if_eq cx (tk_dc d_M_after 18 rfl) 48 (by decide) (fun h => absurd h (hw)) (fun _ => ?_)
  refine v_aload_n cx (tk_dc d_M_after 19 rfl) rfl ?_
  refine v_getC cx 190 (tk_dc d_M_after 20 rfl) f_M_62 o_M (by decide) (by rfl) ?_
  refine v_iload_n cx (tk_dc d_M_after 21 rfl) rfl ?_
  refine w_iald cx (tk_dc d_M_after 22 rfl) a_190 j (rfl) (by omega) (by decide) ?_
  refine v_eqi (M.1 190 j) (wI_ne (by omega)) ?_
  refine v_iconst cx (tk_dc d_M_after 23 rfl) (1) (by decide) ?_
  refine v_iload_n cx (tk_dc d_M_after 24 rfl) rfl ?_
  refine v_ishl cx (tk_dc d_M_after 25 rfl) ?_
  refine v_ior cx (tk_dc d_M_after 26 rfl) ?_
  refine v_goto cx (tk_dc d_M_after 27 rfl) 60 (by decide) ?_
  refine w_iast cx (tk_dc d_M_after 38 rfl) a_190 j (rfl) (by omega) (by decide) ?_
  refine v_iconst cx (tk_dc d_M_after 39 rfl) (1) (by decide) ?_
  exact v_zret cx hB (tk_dc d_M_after 40 rfl) (by first | exact Or.inl rfl | exact Or.inr rfl | exact b01_01 _ | assumption) (rfl) (rfl)

set_option maxHeartbeats 4000000 in
set_option maxRecDepth 100000 in
theorem c_M_afterf {l : Launch} {E : tk_E} {M : tk_M} {j i : Nat} {w : Int32} (hj : j < 8) (hi : i < 8) (hji : ¬ j = i) (hw : w = 0) : tk_Mt l y_M_after b_M_after 4 (some .boolean) 1 E [.ref (E.1 + 172), .int (nI j), .int (nI i), .int w] M (wI (cz M) 190 j (M.1 190 j &&& (((1 : Int32) <<< (nI i &&& 31)) ^^^ -1))) (some (.int 1)) := by
  refine tk_ofV (by decide +kernel) [some (.ref (E.1 + 172)), some (.int (nI j)), some (.int (nI i)), some (.int w)] rfl (Nat.le_of_ble_eq_true rfl) ?_
  intro p e s m args below meth c cx hB
  refine v_aload_n cx (tk_dc d_M_after 0 rfl) rfl ?_
  refine v_iconst cx (tk_dc d_M_after 1 rfl) (0) (by decide) ?_
  refine v_putI cx (tk_dc d_M_after 2 rfl) f_M_120 o_M (by decide) (by rfl) ⟨rfl, rfl⟩ ?_
  refine v_iload_n cx (tk_dc d_M_after 3 rfl) rfl ?_
  refine v_callS (rest := _) cx (tk_dc d_M_after 4 rfl) m_M_144 ks_M_isJob k_M_isJob (c_M_isJob) rfl rfl (Nat.le_of_ble_eq_true rfl) (by decide) ?_
  refine v_if_eq cx (tk_dc d_M_after 5 rfl) 24 (by decide) (fun h => absurd h (b01_d (inN (n := 8) (by decide) hj))) (fun _ => ?_)
  refine v_iload_n cx (tk_dc d_M_after 6 rfl) rfl ?_
  refine v_callS (rest := _) cx (tk_dc d_M_after 7 rfl) m_M_144 ks_M_isJob k_M_isJob (c_M_isJob) rfl rfl (Nat.le_of_ble_eq_true rfl) (by decide) ?_
  refine v_if_eq cx (tk_dc d_M_after 8 rfl) 24 (by decide) (fun h => absurd h (b01_d (inN (n := 8) (by decide) hi))) (fun _ => ?_)
  refine v_iload_n cx (tk_dc d_M_after 9 rfl) rfl ?_
  refine v_iload_n cx (tk_dc d_M_after 10 rfl) rfl ?_
  refine v_icmp_ne cx (tk_dc d_M_after 11 rfl) 26 (by decide) (fun _ => ?_) (fun h => absurd h (fun q => hji (nI_inj (by omega) (by omega) q)))
  refine v_aload_n cx (tk_dc d_M_after 14 rfl) rfl ?_
  refine v_getC cx 190 (tk_dc d_M_after 15 rfl) f_M_62 o_M (by decide) (by rfl) ?_
  refine v_iload_n cx (tk_dc d_M_after 16 rfl) rfl ?_
  refine v_iload_n cx (tk_dc d_M_after 17 rfl) rfl ?_
  refine v_if_eq cx (tk_dc d_M_after 18 rfl) 48 (by decide) (fun _ => ?_) (fun h => absurd (hw) h)
  refine v_aload_n cx (tk_dc d_M_after 28 rfl) rfl ?_
  refine v_getC cx 190 (tk_dc d_M_after 29 rfl) f_M_62 o_M (by decide) (by rfl) ?_
  refine v_iload_n cx (tk_dc d_M_after 30 rfl) rfl ?_
  refine w_iald cx (tk_dc d_M_after 31 rfl) a_190 j (rfl) (by omega) (by decide) ?_
  refine v_eqi (M.1 190 j) (wI_ne (by omega)) ?_
  refine v_iconst cx (tk_dc d_M_after 32 rfl) (1) (by decide) ?_
  refine v_iload_n cx (tk_dc d_M_after 33 rfl) rfl ?_
  refine v_ishl cx (tk_dc d_M_after 34 rfl) ?_
  refine v_iconst cx (tk_dc d_M_after 35 rfl) (-1) (by decide) ?_
  refine v_ixor cx (tk_dc d_M_after 36 rfl) ?_
  refine v_iand cx (tk_dc d_M_after 37 rfl) ?_
  refine w_iast cx (tk_dc d_M_after 38 rfl) a_190 j (rfl) (by omega) (by decide) ?_
  refine v_iconst cx (tk_dc d_M_after 39 rfl) (1) (by decide) ?_
  exact v_zret cx hB (tk_dc d_M_after 40 rfl) (by first | exact Or.inl rfl | exact Or.inr rfl | exact b01_01 _ | assumption) (rfl) (rfl)
