/-! the other side: what was promised; at a desk; a waking -/
def m_clm (M : tk_M) (k : Nat) (b y g : Int32) : tk_M := wI (wI (wI (wI (wI (wI M 196 k b) 197 k y) 198 k g) 202 k y) 203 k g) 200 k 2
def m_pm3 (G : Nat → gJ) (M : tk_M) (cn x j : Nat) (b y be : Int32) : tk_M := if y = -1 ∨ ¬ M.1 192 j = 0 ∨ m_htw G M x j y.toInt 8 = true then m_ovr M (8 * x + j) else (m_oth (m_clm M (8 * x + j) b y (be + 1)) cn x (fun t => [nI 2, nI x, nI t, nI j, b, y, be + 1, 0]) 3).1
noncomputable def m_pm2 (G : Nat → gJ) (nw : Int) (M : tk_M) (cn x j : Nat) (b la be : Int32) : tk_M := m_pm3 G M cn x j b (if M.1 199 (8 * x + j) < la then la else iI (nxI (G j) nw la.toInt)) be
noncomputable def m_pmd (G : Nat → gJ) (nw : Int) (M : tk_M) (cn x j : Nat) (b mm g ab : Int32) : tk_M := if M.1 200 (8 * x + j) = 1 ∧ M.1 201 (8 * x + j) = b ∧ M.1 195 (8 * x + j) = b then m_pm2 G nw M cn x j b (if M.1 196 (8 * x + j) < ab then mm else M.1 197 (8 * x + j)) (if M.1 196 (8 * x + j) < ab then g else M.1 198 (8 * x + j)) else M
theorem m_clm_c {M : tk_M} {k : Nat} {b y g : Int32} : (m_clm M k b y g).1 172 = M.1 172 := by
  funext q
  simp [m_clm, wI]
theorem SC.clm {M M1 : tk_M} (h : SC M M1) (k : Nat) (b y g : Int32) : SC (m_clm M k b y g) (m_clm M1 k b y g) := (((((h.wI _ _ _).wI _ _ _).wI _ _ _).wI _ _ _).wI _ _ _).wI _ _ _
set_option maxHeartbeats 4000000 in
set_option maxRecDepth 100000 in
theorem c_M_promised {l : Launch} {E : tk_E} {M : tk_M} {G : Nat → gJ} {nw : Int} {cn x j : Nat} {b mm g ab : Int32} (hM : M.1 172 38 = nI cn) (hc : cn ≤ 60) (hG : ∀ i, i < 8 → calM M i (G i)) (hkn : ∀ i, i < 8 → -1 ≤ (M.1 199 (8 * x + i)).toInt ∧ (M.1 199 (8 * x + i)).toInt ≤ 52595999) (hnw : M.1 172 1 = iI nw) (hn0 : 0 ≤ nw) (hn1 : nw ≤ 52595999) (hx : x < 3) (hj : j < 8) (hmm : -1 ≤ mm.toInt ∧ mm.toInt ≤ 52595999) (hmo : -1 ≤ (M.1 197 (8 * x + j)).toInt ∧ (M.1 197 (8 * x + j)).toInt ≤ 52595999) : tk_MR l y_M_promised b_M_promised 12 none 10 E [.ref (E.1 + 172), .int (nI x), .int (nI j), .int (b), .int (mm), .int (g), .int (ab)] M  (NR none (m_pmd G nw M cn x j b mm g ab)) := by
  refine tk_ofVR (by decide +kernel) [some (.ref (E.1 + 172)), some (.int (nI x)), some (.int (nI j)), some (.int (b)), some (.int (mm)), some (.int (g)), some (.int (ab)), none, none, none, none, none] rfl (Nat.le_of_ble_eq_true rfl) ?_
  intro p e s m args below meth c cx hB
  have tail3 : ∀ (M1 : tk_M) (w8 : Option Value) (la be y : Int32), SC M M1 → -1 ≤ y.toInt ∧ y.toInt ≤ 52595999 → m_pmd G nw M cn x j b mm g ab = m_pm3 G M cn x j b y be → tk_V p l e (tk_rm 10 0 0) s m args below meth c (MQ below (tk_QR E (NR none (m_pmd G nw M cn x j b mm g ab))) args s 0 0 (tk_A E)) E 12 209 (tk_ct E M1) 0 0 125 [some (.ref (E.1 + 172)), some (.int (nI x)), some (.int (nI j)), some (.int (b)), some (.int (mm)), some (.int (g)), some (.int (ab)), some (.int (nI (8 * x + j))), w8, some (.int la), some (.int be), some (.int y)] [] := by
    intro M1 w8 la be y sc ry hfin
    rw [hfin]
    refine v_iload cx (tk_dc d_M_promised 66 rfl) rfl ?_
    refine v_iconst cx (tk_dc d_M_promised 67 rfl) (-1) (by decide) ?_
    refine v_icmp_eq cx (tk_dc d_M_promised 68 rfl) 151 (by decide) (fun h128 => ?_) (fun h128 => ?_)
    · have g1 : y = -1 := h128
      refine v_aload_n cx (tk_dc d_M_promised 80 rfl) rfl ?_
      refine v_iload cx (tk_dc d_M_promised 81 rfl) rfl ?_
      refine v_callV (rest := _) cx (tk_dc d_M_promised 82 rfl) m_M_235 kn_M_over kv_M_over k_M_over o_M (by decide) rfl (c_M_over (by omega)) rfl rfl (Nat.le_of_ble_eq_true rfl) (by decide) ?_
      exact v_vretR cx hB (tk_dc d_M_promised 83 rfl) (⟨rfl, by unfold m_pm3; rw [if_pos (Or.inl g1)]; exact sc.ovr _⟩)
    · refine v_aload_n cx (tk_dc d_M_promised 69 rfl) rfl ?_
      refine v_getC cx 192 (tk_dc d_M_promised 70 rfl) f_M_69 o_M (by decide) (by rfl) ?_
      refine v_iload_n cx (tk_dc d_M_promised 71 rfl) rfl ?_
      refine w_zald cx (tk_dc d_M_promised 72 rfl) a_192 j (rfl) (by omega) (by decide) ?_
      refine v_eqi (M.1 192 j) (sc.at _ rfl) ?_
      refine v_if_ne cx (tk_dc d_M_promised 73 rfl) 151 (by decide) (fun h137 => ?_) (fun h137 => ?_)
      · refine v_aload_n cx (tk_dc d_M_promised 80 rfl) rfl ?_
        refine v_iload cx (tk_dc d_M_promised 81 rfl) rfl ?_
        refine v_callV (rest := _) cx (tk_dc d_M_promised 82 rfl) m_M_235 kn_M_over kv_M_over k_M_over o_M (by decide) rfl (c_M_over (by omega)) rfl rfl (Nat.le_of_ble_eq_true rfl) (by decide) ?_
        exact v_vretR cx hB (tk_dc d_M_promised 83 rfl) (⟨rfl, by unfold m_pm3; rw [if_pos (Or.inr (Or.inl h137))]; exact sc.ovr _⟩)
      · refine v_aload_n cx (tk_dc d_M_promised 74 rfl) rfl ?_
        refine v_iload_n cx (tk_dc d_M_promised 75 rfl) rfl ?_
        refine v_iload_n cx (tk_dc d_M_promised 76 rfl) rfl ?_
        refine v_iload cx (tk_dc d_M_promised 77 rfl) rfl ?_
        have yz : 0 ≤ y.toInt := by by_cases w : y.toInt < 0; (exact absurd (iI_ext (z := -1) (by omega)) h128); omega
        obtain ⟨yi, hyi⟩ : ∃ yi, yi = y.toInt := ⟨_, rfl⟩
        have hy2 : y = iI yi := by rw [hyi]; exact iI_of y
        rw [hy2]
        refine v_callV (rest := _) cx (tk_dc d_M_promised 78 rfl) m_M_238 kn_M_hasToWait kv_M_hasToWait k_M_hasToWait o_M (by decide) rfl (c_M_hasToWait (G := G) (a := yi) (fun i hi => (hG i hi).sc sc) (fun i hi => by rw [sc.at _ rfl]; exact hkn i hi) hx hj (by omega) (by omega)) rfl rfl (Nat.le_of_ble_eq_true rfl) (by decide) ?_
        refine v_eqi (b01 (m_htw G M x j yi 8)) (by rw [m_htw_sc sc]) ?_
        refine v_if_eq cx (tk_dc d_M_promised 79 rfl) 158 (by decide) (fun h148 => ?_) (fun h148 => ?_)
        · have g148 := b01_z h148
          refine v_aload_n cx (tk_dc d_M_promised 84 rfl) rfl ?_
          refine v_getC cx 196 (tk_dc d_M_promised 85 rfl) f_M_81 o_M (by decide) (by rfl) ?_
          refine v_iload cx (tk_dc d_M_promised 86 rfl) rfl ?_
          refine v_iload_n cx (tk_dc d_M_promised 87 rfl) rfl ?_
          refine w_iast cx (tk_dc d_M_promised 88 rfl) a_196 (8 * x + j) (rfl) (by omega) (by decide) ?_
          refine v_aload_n cx (tk_dc d_M_promised 89 rfl) rfl ?_
          refine v_getC cx 197 (tk_dc d_M_promised 90 rfl) f_M_84 o_M (by decide) (by rfl) ?_
          refine v_iload cx (tk_dc d_M_promised 91 rfl) rfl ?_
          refine v_iload cx (tk_dc d_M_promised 92 rfl) rfl ?_
          refine w_iast cx (tk_dc d_M_promised 93 rfl) a_197 (8 * x + j) (rfl) (by omega) (by decide) ?_
          refine v_aload_n cx (tk_dc d_M_promised 94 rfl) rfl ?_
          refine v_getC cx 198 (tk_dc d_M_promised 95 rfl) f_M_87 o_M (by decide) (by rfl) ?_
          refine v_iload cx (tk_dc d_M_promised 96 rfl) rfl ?_
          refine v_iload cx (tk_dc d_M_promised 97 rfl) rfl ?_
          refine v_iconst cx (tk_dc d_M_promised 98 rfl) (1) (by decide) ?_
          refine v_iadd cx (tk_dc d_M_promised 99 rfl) ?_
          refine w_iast cx (tk_dc d_M_promised 100 rfl) a_198 (8 * x + j) (rfl) (by omega) (by decide) ?_
          refine v_aload_n cx (tk_dc d_M_promised 101 rfl) rfl ?_
          refine v_getC cx 202 (tk_dc d_M_promised 102 rfl) f_M_99 o_M (by decide) (by rfl) ?_
          refine v_iload cx (tk_dc d_M_promised 103 rfl) rfl ?_
          refine v_iload cx (tk_dc d_M_promised 104 rfl) rfl ?_
          refine w_iast cx (tk_dc d_M_promised 105 rfl) a_202 (8 * x + j) (rfl) (by omega) (by decide) ?_
          refine v_aload_n cx (tk_dc d_M_promised 106 rfl) rfl ?_
          refine v_getC cx 203 (tk_dc d_M_promised 107 rfl) f_M_102 o_M (by decide) (by rfl) ?_
          refine v_iload cx (tk_dc d_M_promised 108 rfl) rfl ?_
          refine v_iload cx (tk_dc d_M_promised 109 rfl) rfl ?_
          refine v_iconst cx (tk_dc d_M_promised 110 rfl) (1) (by decide) ?_
          refine v_iadd cx (tk_dc d_M_promised 111 rfl) ?_
          refine w_iast cx (tk_dc d_M_promised 112 rfl) a_203 (8 * x + j) (rfl) (by omega) (by decide) ?_
          refine v_aload_n cx (tk_dc d_M_promised 113 rfl) rfl ?_
          refine v_getC cx 200 (tk_dc d_M_promised 114 rfl) f_M_93 o_M (by decide) (by rfl) ?_
          refine v_iload cx (tk_dc d_M_promised 115 rfl) rfl ?_
          refine v_iconst cx (tk_dc d_M_promised 116 rfl) (2) (by decide) ?_
          refine w_iast cx (tk_dc d_M_promised 117 rfl) a_200 (8 * x + j) (rfl) (by omega) (by decide) ?_
          refine v_aload_n cx (tk_dc d_M_promised 118 rfl) rfl ?_
          refine v_iconst cx (tk_dc d_M_promised 119 rfl) (2) (by decide) ?_
          refine v_iload_n cx (tk_dc d_M_promised 120 rfl) rfl ?_
          refine v_iload_n cx (tk_dc d_M_promised 121 rfl) rfl ?_
          refine v_iload_n cx (tk_dc d_M_promised 122 rfl) rfl ?_
          refine v_iload cx (tk_dc d_M_promised 123 rfl) rfl ?_
          refine v_iload cx (tk_dc d_M_promised 124 rfl) rfl ?_
          refine v_iconst cx (tk_dc d_M_promised 125 rfl) (1) (by decide) ?_
          refine v_iadd cx (tk_dc d_M_promised 126 rfl) ?_
          refine v_callV (rest := _) cx (tk_dc d_M_promised 127 rfl) m_M_231 kn_M_toOthers kv_M_toOthers k_M_toOthers o_M (by decide) rfl (c_M_toOthers (M := m_clm M1 (8 * x + j) b (iI yi) (be + 1)) (k := 2) hc (by rw [m_clm_c, sc.2 172 38 (by omega)]; exact hM) (by decide) hx) rfl rfl (Nat.le_of_ble_eq_true rfl) (by decide) ?_
          exact v_vretR cx hB (tk_dc d_M_promised 128 rfl) (⟨rfl, by unfold m_pm3; rw [if_neg (by rw [← hy2]; rintro (w | w | w); (exact h128 w); (exact w h137); (rw [← hyi, g148] at w; cases w))]; exact ((sc.clm _ _ _ _).oth _ _ _ 3).1⟩)
        · have g148 := b01_nz h148
          refine v_aload_n cx (tk_dc d_M_promised 80 rfl) rfl ?_
          refine v_iload cx (tk_dc d_M_promised 81 rfl) rfl ?_
          refine v_callV (rest := _) cx (tk_dc d_M_promised 82 rfl) m_M_235 kn_M_over kv_M_over k_M_over o_M (by decide) rfl (c_M_over (by omega)) rfl rfl (Nat.le_of_ble_eq_true rfl) (by decide) ?_
          exact v_vretR cx hB (tk_dc d_M_promised 83 rfl) (⟨rfl, by unfold m_pm3; rw [if_pos (Or.inr (Or.inr (by rw [iI_toInt (by omega) (by omega)]; exact g148)))]; exact sc.ovr _⟩)
  have tail2 : ∀ (w8 : Option Value) (la be : Int32), -1 ≤ la.toInt ∧ la.toInt ≤ 52595999 → m_pmd G nw M cn x j b mm g ab = m_pm2 G nw M cn x j b la be → tk_V p l e (tk_rm 10 0 0) s m args below meth c (MQ below (tk_QR E (NR none (m_pmd G nw M cn x j b mm g ab))) args s 0 0 (tk_A E)) E 12 209 (tk_ct E M) 0 0 99 [some (.ref (E.1 + 172)), some (.int (nI x)), some (.int (nI j)), some (.int (b)), some (.int (mm)), some (.int (g)), some (.int (ab)), some (.int (nI (8 * x + j))), w8, some (.int la), some (.int be), none] [] := by
    intro w8 la be rl hfin
    refine v_iload cx (tk_dc d_M_promised 53 rfl) rfl ?_
    refine v_aload_n cx (tk_dc d_M_promised 54 rfl) rfl ?_
    refine v_getC cx 199 (tk_dc d_M_promised 55 rfl) f_M_90 o_M (by decide) (by rfl) ?_
    refine v_iload cx (tk_dc d_M_promised 56 rfl) rfl ?_
    refine w_iald cx (tk_dc d_M_promised 57 rfl) a_199 (8 * x + j) (rfl) (by omega) (by decide) ?_
    refine v_icmp_le cx (tk_dc d_M_promised 58 rfl) 116 (by decide) (fun h108 => ?_) (fun h108 => ?_)
    · have g108 : ¬ M.1 199 (8 * x + j) < la := Int32.not_lt.mpr h108
      refine v_aload_n cx (tk_dc d_M_promised 61 rfl) rfl ?_
      refine v_iload_n cx (tk_dc d_M_promised 62 rfl) rfl ?_
      refine v_iload cx (tk_dc d_M_promised 63 rfl) rfl ?_
      obtain ⟨z, h, ne, n, ρ, mv, st, os, hd, ex, e1, e2, e3, e4, e5, e6, e7, e8⟩ := hG j hj
      refine v_eqi (iI la.toInt) (iI_of la) ?_
      refine v_callVS (rest := _) cx (tk_dc d_M_promised 64 rfl) m_M_228 kn_M_nextOf kv_M_nextOf k_M_nextOf o_M (by decide) rfl (c_M_nextOf e1 hnw e5 e3 e4 rl.1 rl.2 hn0 hn1 e6 e7) rfl rfl (Nat.le_of_ble_eq_true rfl) (by decide) (fun x9 M2 hx9 sc2 => ?_)
      obtain ⟨r9, rfl, hr9⟩ := hx9
      rw [e2] at hr9
      have hr8 := NXT_r hr9 hn0
      refine v_istore (lo' := [_, _, _, _, _, _, _, _, _, _, _, _]) cx (tk_dc d_M_promised 65 rfl) (by decide) rfl ?_
      exact tail3 M2 w8 la be (iI r9) sc2 (by rw [iI_toInt (by omega) (by omega)]; omega) (by rw [hfin]; unfold m_pm2; rw [if_neg g108, nx_eq hr9])
    · have g108 : M.1 199 (8 * x + j) < la := Int32.not_le.mp h108
      refine v_iload cx (tk_dc d_M_promised 59 rfl) rfl ?_
      refine v_goto cx (tk_dc d_M_promised 60 rfl) 123 (by decide) ?_
      refine v_istore (lo' := [_, _, _, _, _, _, _, _, _, _, _, _]) cx (tk_dc d_M_promised 65 rfl) (by decide) rfl ?_
      exact tail3 M w8 la be la SC.rf rl (by rw [hfin]; unfold m_pm2; rw [if_pos g108])
  refine v_bipush cx (tk_dc d_M_promised 0 rfl) (8) (by decide) ?_
  refine v_iload_n cx (tk_dc d_M_promised 1 rfl) rfl ?_
  refine v_imul cx (tk_dc d_M_promised 2 rfl) ?_
  refine v_iload_n cx (tk_dc d_M_promised 3 rfl) rfl ?_
  refine v_iadd cx (tk_dc d_M_promised 4 rfl) ?_
  refine v_eqi (nI (8 * x + j)) (by rw [show (8 : Int32) = nI 8 from rfl, pk_mul, nI_add]) ?_
  refine v_istore (lo' := [_, _, _, _, _, _, _, _, _, _, _, _]) cx (tk_dc d_M_promised 5 rfl) (by decide) rfl ?_
  refine v_aload_n cx (tk_dc d_M_promised 6 rfl) rfl ?_
  refine v_getC cx 200 (tk_dc d_M_promised 7 rfl) f_M_93 o_M (by decide) (by rfl) ?_
  refine v_iload cx (tk_dc d_M_promised 8 rfl) rfl ?_
  refine w_iald cx (tk_dc d_M_promised 9 rfl) a_200 (8 * x + j) (rfl) (by omega) (by decide) ?_
  refine v_iconst cx (tk_dc d_M_promised 10 rfl) (1) (by decide) ?_
  refine v_icmp_ne cx (tk_dc d_M_promised 11 rfl) 41 (by decide) (fun h16 => ?_) (fun h16 => ?_)
  · exact v_vretR cx hB (tk_dc d_M_promised 24 rfl) (⟨rfl, by unfold m_pmd; rw [if_neg (fun w => h16 w.1)]; exact SC.rf⟩)
  · refine v_aload_n cx (tk_dc d_M_promised 12 rfl) rfl ?_
    refine v_getC cx 201 (tk_dc d_M_promised 13 rfl) f_M_96 o_M (by decide) (by rfl) ?_
    refine v_iload cx (tk_dc d_M_promised 14 rfl) rfl ?_
    refine w_iald cx (tk_dc d_M_promised 15 rfl) a_201 (8 * x + j) (rfl) (by omega) (by decide) ?_
    refine v_iload_n cx (tk_dc d_M_promised 16 rfl) rfl ?_
    refine v_icmp_ne cx (tk_dc d_M_promised 17 rfl) 41 (by decide) (fun h27 => ?_) (fun h27 => ?_)
    · exact v_vretR cx hB (tk_dc d_M_promised 24 rfl) (⟨rfl, by unfold m_pmd; rw [if_neg (fun w => h27 w.2.1)]; exact SC.rf⟩)
    · refine v_aload_n cx (tk_dc d_M_promised 18 rfl) rfl ?_
      refine v_getC cx 195 (tk_dc d_M_promised 19 rfl) f_M_78 o_M (by decide) (by rfl) ?_
      refine v_iload cx (tk_dc d_M_promised 20 rfl) rfl ?_
      refine w_iald cx (tk_dc d_M_promised 21 rfl) a_195 (8 * x + j) (rfl) (by omega) (by decide) ?_
      refine v_iload_n cx (tk_dc d_M_promised 22 rfl) rfl ?_
      refine v_icmp_eq cx (tk_dc d_M_promised 23 rfl) 42 (by decide) (fun h38 => ?_) (fun h38 => ?_)
      · refine v_iload cx (tk_dc d_M_promised 25 rfl) rfl ?_
        refine v_aload_n cx (tk_dc d_M_promised 26 rfl) rfl ?_
        refine v_getC cx 196 (tk_dc d_M_promised 27 rfl) f_M_81 o_M (by decide) (by rfl) ?_
        refine v_iload cx (tk_dc d_M_promised 28 rfl) rfl ?_
        refine w_iald cx (tk_dc d_M_promised 29 rfl) a_196 (8 * x + j) (rfl) (by omega) (by decide) ?_
        refine v_icmp_le cx (tk_dc d_M_promised 30 rfl) 58 (by decide) (fun h51 => ?_) (fun h51 => ?_)
        · have g51 : ¬ M.1 196 (8 * x + j) < ab := Int32.not_lt.mpr h51
          refine v_iconst cx (tk_dc d_M_promised 33 rfl) (0) (by decide) ?_
          refine v_istore (lo' := [_, _, _, _, _, _, _, _, _, _, _, _]) cx (tk_dc d_M_promised 34 rfl) (by decide) rfl ?_
          refine v_iload cx (tk_dc d_M_promised 35 rfl) rfl ?_
          refine v_if_eq cx (tk_dc d_M_promised 36 rfl) 71 (by decide) (fun _ => ?_) (fun h => absurd (by decide) h)
          refine v_aload_n cx (tk_dc d_M_promised 39 rfl) rfl ?_
          refine v_getC cx 197 (tk_dc d_M_promised 40 rfl) f_M_84 o_M (by decide) (by rfl) ?_
          refine v_iload cx (tk_dc d_M_promised 41 rfl) rfl ?_
          refine w_iald cx (tk_dc d_M_promised 42 rfl) a_197 (8 * x + j) (rfl) (by omega) (by decide) ?_
          refine v_istore (lo' := [_, _, _, _, _, _, _, _, _, _, _, _]) cx (tk_dc d_M_promised 43 rfl) (by decide) rfl ?_
          refine v_iload cx (tk_dc d_M_promised 44 rfl) rfl ?_
          refine v_if_eq cx (tk_dc d_M_promised 45 rfl) 90 (by decide) (fun _ => ?_) (fun h => absurd (by decide) h)
          refine v_aload_n cx (tk_dc d_M_promised 48 rfl) rfl ?_
          refine v_getC cx 198 (tk_dc d_M_promised 49 rfl) f_M_87 o_M (by decide) (by rfl) ?_
          refine v_iload cx (tk_dc d_M_promised 50 rfl) rfl ?_
          refine w_iald cx (tk_dc d_M_promised 51 rfl) a_198 (8 * x + j) (rfl) (by omega) (by decide) ?_
          refine v_istore (lo' := [_, _, _, _, _, _, _, _, _, _, _, _]) cx (tk_dc d_M_promised 52 rfl) (by decide) rfl ?_
          exact tail2 _ _ _ hmo (by unfold m_pmd; rw [if_pos ⟨h16, h27, h38⟩, if_neg g51, if_neg g51])
        · have g51 : M.1 196 (8 * x + j) < ab := Int32.not_le.mp h51
          refine v_iconst cx (tk_dc d_M_promised 31 rfl) (1) (by decide) ?_
          refine v_goto cx (tk_dc d_M_promised 32 rfl) 59 (by decide) ?_
          refine v_istore (lo' := [_, _, _, _, _, _, _, _, _, _, _, _]) cx (tk_dc d_M_promised 34 rfl) (by decide) rfl ?_
          refine v_iload cx (tk_dc d_M_promised 35 rfl) rfl ?_
          refine v_if_eq cx (tk_dc d_M_promised 36 rfl) 71 (by decide) (fun h => absurd h (by decide)) (fun _ => ?_)
          refine v_iload cx (tk_dc d_M_promised 37 rfl) rfl ?_
          refine v_goto cx (tk_dc d_M_promised 38 rfl) 78 (by decide) ?_
          refine v_istore (lo' := [_, _, _, _, _, _, _, _, _, _, _, _]) cx (tk_dc d_M_promised 43 rfl) (by decide) rfl ?_
          refine v_iload cx (tk_dc d_M_promised 44 rfl) rfl ?_
          refine v_if_eq cx (tk_dc d_M_promised 45 rfl) 90 (by decide) (fun h => absurd h (by decide)) (fun _ => ?_)
          refine v_iload cx (tk_dc d_M_promised 46 rfl) rfl ?_
          refine v_goto cx (tk_dc d_M_promised 47 rfl) 97 (by decide) ?_
          refine v_istore (lo' := [_, _, _, _, _, _, _, _, _, _, _, _]) cx (tk_dc d_M_promised 52 rfl) (by decide) rfl ?_
          exact tail2 _ _ _ hmm (by unfold m_pmd; rw [if_pos ⟨h16, h27, h38⟩, if_pos g51, if_pos g51])
      · exact v_vretR cx hB (tk_dc d_M_promised 24 rfl) (⟨rfl, by unfold m_pmd; rw [if_neg (fun w => h38 w.2.2)]; exact SC.rf⟩)

def m_dk2 (M : tk_M) (cn d j ec : Nat) : tk_M := if ec = 0 then M else (m_oth M cn 3 (fun t => [nI 5, nI d, nI t, nI j, 0, M.1 206 (40 * j + (ec - 1)), 0, 0]) 3).1
def m_gr (M : tk_M) (j : Nat) (g : Int32) : tk_M := if M.1 204 j < g then wI M 204 j g else M
def m_add (M : tk_M) (j ec : Nat) (mm g : Int32) : Bool := decide (M.1 204 j < g) && (decide (ec < 40) && (decide (ec = 0) || decide (M.1 206 (40 * j + (ec - 1)) < mm)))
def m_ctd (M : tk_M) (cn d j ec : Nat) (mm g : Int32) : tk_M := if m_add M j ec mm g = true then m_dk2 (wI (wI (wI (m_gr M j g) 206 (40 * j + ec) mm) 207 (40 * j + ec) g) 205 j (nI (ec + 1))) cn d j (ec + 1) else m_dk2 (m_gr M j g) cn d j ec
set_option maxHeartbeats 4000000 in
set_option maxRecDepth 100000 in
theorem c_M_comeToDesk {l : Launch} {E : tk_E} {M : tk_M} {cn dd j ec : Nat} {mm g : Int32} (hM : M.1 172 38 = nI cn) (hc : cn ≤ 60) (hj : j < 8) (hec : ec ≤ 40) (he : M.1 205 j = nI ec) : tk_Mt l y_M_comeToDesk b_M_comeToDesk 8 none 1 E [.ref (E.1 + 172), .int (nI dd), .int (nI j), .int (mm), .int (g)] M (m_ctd M cn dd j ec mm g) none := by
  refine tk_ofV (by decide +kernel) [some (.ref (E.1 + 172)), some (.int (nI dd)), some (.int (nI j)), some (.int (mm)), some (.int (g)), none, none, none] rfl (Nat.le_of_ble_eq_true rfl) ?_
  intro p e s m args below meth c cx hB
  have tail : ∀ (N : tk_M) (en : Nat) (w6 : Int32), en ≤ 40 → N.1 205 j = nI en → N.1 172 38 = nI cn → m_dk2 N cn dd j en = m_ctd M cn dd j ec mm g → tk_V p l e (tk_rm 1 0 0) s m args below meth c (MQ below (tk_Q E 209 (tk_ct E (m_ctd M cn dd j ec mm g)) none) args s 0 0 (tk_A E)) E 8 209 (tk_ct E N) 0 0 117 [some (.ref (E.1 + 172)), some (.int (nI dd)), some (.int (nI j)), some (.int (mm)), some (.int (g)), some (.int (nI ec)), some (.int w6), none] [] := by
    intro N en w6 hen hn5 hnc hfin
    rw [← hfin]
    have loop : 0 < en → ∀ (r t : Nat), t + r = 3 → tk_V p l e (tk_rm 1 0 0) s m args below meth c (MQ below (tk_Q E 209 (tk_ct E (m_dk2 N cn dd j en)) none) args s 0 0 (tk_A E)) E 8 209 (tk_ct E (m_oth N cn 3 (fun t => [nI 5, nI dd, nI t, nI j, 0, N.1 206 (40 * j + (en - 1)), 0, 0]) t).1) 0 0 130 [some (.ref (E.1 + 172)), some (.int (nI dd)), some (.int (nI j)), some (.int (mm)), some (.int (g)), some (.int (nI ec)), some (.int w6), some (.int (nI t))] [] := by
      intro hpos r
      induction r with
      | zero =>
        intro t ht
        have : t = 3 := by omega
        subst this
        refine v_iload cx (tk_dc d_M_comeToDesk 79 rfl) rfl ?_
        refine v_iconst cx (tk_dc d_M_comeToDesk 80 rfl) (3) (by decide) ?_
        refine v_icmp_ge cx (tk_dc d_M_comeToDesk 81 rfl) 171 (by decide) (fun _ => ?_) (fun h => absurd (by decide) h)
        exact v_vret cx hB (tk_dc d_M_comeToDesk 105 rfl) (by unfold m_dk2; rw [if_neg (by omega)])
      | succ r ih =>
        intro t ht
        have hq := m_oth_c (x := 3) (f := (fun t => [nI 5, nI dd, nI t, nI j, 0, N.1 206 (40 * j + (en - 1)), 0, 0])) hnc hc t
        refine v_iload cx (tk_dc d_M_comeToDesk 79 rfl) rfl ?_
        refine v_iconst cx (tk_dc d_M_comeToDesk 80 rfl) (3) (by decide) ?_
        refine v_icmp_ge cx (tk_dc d_M_comeToDesk 81 rfl) 171 (by decide) (fun h => absurd h (Int32.not_le.mpr (nI_lt (b := 3) (by omega) (by decide)))) (fun _ => ?_)
        refine v_aload_n cx (tk_dc d_M_comeToDesk 82 rfl) rfl ?_
        refine v_iconst cx (tk_dc d_M_comeToDesk 83 rfl) (5) (by decide) ?_
        refine v_iload_n cx (tk_dc d_M_comeToDesk 84 rfl) rfl ?_
        refine v_iload cx (tk_dc d_M_comeToDesk 85 rfl) rfl ?_
        refine v_iload_n cx (tk_dc d_M_comeToDesk 86 rfl) rfl ?_
        refine v_iconst cx (tk_dc d_M_comeToDesk 87 rfl) (0) (by decide) ?_
        refine v_aload_n cx (tk_dc d_M_comeToDesk 88 rfl) rfl ?_
        refine v_getC cx 206 (tk_dc d_M_comeToDesk 89 rfl) f_M_111 o_M (by decide) (by rfl) ?_
        refine v_bipush cx (tk_dc d_M_comeToDesk 90 rfl) (40) (by decide) ?_
        refine v_iload_n cx (tk_dc d_M_comeToDesk 91 rfl) rfl ?_
        refine v_imul cx (tk_dc d_M_comeToDesk 92 rfl) ?_
        refine v_aload_n cx (tk_dc d_M_comeToDesk 93 rfl) rfl ?_
        refine v_getC cx 205 (tk_dc d_M_comeToDesk 94 rfl) f_M_108 o_M (by decide) (by rfl) ?_
        refine v_iload_n cx (tk_dc d_M_comeToDesk 95 rfl) rfl ?_
        refine w_iald cx (tk_dc d_M_comeToDesk 96 rfl) a_205 j (rfl) (by omega) (by decide) ?_
        refine v_eqi (nI en) (by rw [m_oth_at (by decide) (by omega)]; exact hn5) ?_
        refine v_iadd cx (tk_dc d_M_comeToDesk 97 rfl) ?_
        refine v_iconst cx (tk_dc d_M_comeToDesk 98 rfl) (1) (by decide) ?_
        refine v_isub cx (tk_dc d_M_comeToDesk 99 rfl) ?_
        refine w_iald cx (tk_dc d_M_comeToDesk 100 rfl) a_206 (40 * j + (en - 1)) (by rw [show (40 : Int32) = nI 40 from rfl, pk_mul, nI_add, nI_sub1 (by omega)]; congr 1; omega) (by omega) (by decide) ?_
        refine v_eqi (N.1 206 (40 * j + (en - 1))) (m_oth_at (by decide) (by omega) t) ?_
        refine v_iconst cx (tk_dc d_M_comeToDesk 101 rfl) (0) (by decide) ?_
        refine v_callV (rest := _) cx (tk_dc d_M_comeToDesk 102 rfl) m_M_224 kn_M_send kv_M_send k_M_send o_M (by decide) rfl (c_M_send (k := 5) (ab := 0) hq.1 hq.2 (by decide) (by decide)) rfl rfl (Nat.le_of_ble_eq_true rfl) (by decide) ?_
        refine v_iinc (lo' := [_, _, _, _, _, _, _, _]) cx (tk_dc d_M_comeToDesk 103 rfl) rfl (nI (t + 1)) ((nI_succ t).symm) (by decide) rfl ?_
        refine v_goto cx (tk_dc d_M_comeToDesk 104 rfl) 130 (by decide) ?_
        exact v_eqM (show _ = (m_oth N cn 3 (fun t => [nI 5, nI dd, nI t, nI j, 0, N.1 206 (40 * j + (en - 1)), 0, 0]) (t + 1)).1 by rw [m_oth_n (by omega)]; rfl) (ih (t + 1) (by omega))
    refine v_aload_n cx (tk_dc d_M_comeToDesk 71 rfl) rfl ?_
    refine v_getC cx 205 (tk_dc d_M_comeToDesk 72 rfl) f_M_108 o_M (by decide) (by rfl) ?_
    refine v_iload_n cx (tk_dc d_M_comeToDesk 73 rfl) rfl ?_
    refine w_iald cx (tk_dc d_M_comeToDesk 74 rfl) a_205 j (rfl) (by omega) (by decide) ?_
    refine v_eqi (nI en) (hn5) ?_
    refine v_if_ne cx (tk_dc d_M_comeToDesk 75 rfl) 127 (by decide) (fun h123 => ?_) (fun h123 => ?_)
    · have g123 : 0 < en := by rcases Nat.eq_zero_or_pos en with w | w; (exact absurd (by rw [w]; rfl) h123); exact w
      refine v_iconst cx (tk_dc d_M_comeToDesk 77 rfl) (0) (by decide) ?_
      refine v_istore (lo' := [_, _, _, _, _, _, _, _]) cx (tk_dc d_M_comeToDesk 78 rfl) (by decide) rfl ?_
      exact loop g123 3 0 rfl
    · have g123 : en = 0 := nI_inj (b := 0) (by omega) (by decide) h123
      exact v_vret cx hB (tk_dc d_M_comeToDesk 76 rfl) (by unfold m_dk2; rw [if_pos g123])
  refine v_aload_n cx (tk_dc d_M_comeToDesk 0 rfl) rfl ?_
  refine v_getC cx 205 (tk_dc d_M_comeToDesk 1 rfl) f_M_108 o_M (by decide) (by rfl) ?_
  refine v_iload_n cx (tk_dc d_M_comeToDesk 2 rfl) rfl ?_
  refine w_iald cx (tk_dc d_M_comeToDesk 3 rfl) a_205 j (rfl) (by omega) (by decide) ?_
  refine v_eqi (nI ec) (he) ?_
  refine v_istore (lo' := [_, _, _, _, _, _, _, _]) cx (tk_dc d_M_comeToDesk 4 rfl) (by decide) rfl ?_
  refine v_iload cx (tk_dc d_M_comeToDesk 5 rfl) rfl ?_
  refine v_aload_n cx (tk_dc d_M_comeToDesk 6 rfl) rfl ?_
  refine v_getC cx 204 (tk_dc d_M_comeToDesk 7 rfl) f_M_105 o_M (by decide) (by rfl) ?_
  refine v_iload_n cx (tk_dc d_M_comeToDesk 8 rfl) rfl ?_
  refine w_iald cx (tk_dc d_M_comeToDesk 9 rfl) a_204 j (rfl) (by omega) (by decide) ?_
  refine v_icmp_le cx (tk_dc d_M_comeToDesk 10 rfl) 53 (by decide) (fun h16 => ?_) (fun h16 => ?_)
  · have g16 : ¬ M.1 204 j < g := Int32.not_lt.mpr h16
    refine v_iconst cx (tk_dc d_M_comeToDesk 30 rfl) (0) (by decide) ?_
    refine v_istore (lo' := [_, _, _, _, _, _, _, _]) cx (tk_dc d_M_comeToDesk 31 rfl) (by decide) rfl ?_
    refine v_iload cx (tk_dc d_M_comeToDesk 32 rfl) rfl ?_
    refine v_aload_n cx (tk_dc d_M_comeToDesk 33 rfl) rfl ?_
    refine v_getC cx 204 (tk_dc d_M_comeToDesk 34 rfl) f_M_105 o_M (by decide) (by rfl) ?_
    refine v_iload_n cx (tk_dc d_M_comeToDesk 35 rfl) rfl ?_
    refine w_iald cx (tk_dc d_M_comeToDesk 36 rfl) a_204 j (rfl) (by omega) (by decide) ?_
    refine v_icmp_le cx (tk_dc d_M_comeToDesk 37 rfl) 75 (by decide) (fun _ => ?_) (fun h => absurd (h16) h)
    refine v_iload cx (tk_dc d_M_comeToDesk 43 rfl) rfl ?_
    refine v_if_eq cx (tk_dc d_M_comeToDesk 44 rfl) 117 (by decide) (fun _ => ?_) (fun h => absurd (by decide) h)
    exact tail M ec _ hec he hM (by unfold m_ctd m_add m_gr; rw [decide_eq_false g16, if_neg g16]; simp)
  · have g16 : M.1 204 j < g := Int32.not_le.mp h16
    refine v_iload cx (tk_dc d_M_comeToDesk 11 rfl) rfl ?_
    refine v_bipush cx (tk_dc d_M_comeToDesk 12 rfl) (40) (by decide) ?_
    refine v_icmp_ge cx (tk_dc d_M_comeToDesk 13 rfl) 53 (by decide) (fun h23 => ?_) (fun h23 => ?_)
    · have g23 : ¬ ec < 40 := fun w => absurd h23 (Int32.not_le.mpr (nI_lt (b := 40) w (by decide)))
      refine v_iconst cx (tk_dc d_M_comeToDesk 30 rfl) (0) (by decide) ?_
      refine v_istore (lo' := [_, _, _, _, _, _, _, _]) cx (tk_dc d_M_comeToDesk 31 rfl) (by decide) rfl ?_
      refine v_iload cx (tk_dc d_M_comeToDesk 32 rfl) rfl ?_
      refine v_aload_n cx (tk_dc d_M_comeToDesk 33 rfl) rfl ?_
      refine v_getC cx 204 (tk_dc d_M_comeToDesk 34 rfl) f_M_105 o_M (by decide) (by rfl) ?_
      refine v_iload_n cx (tk_dc d_M_comeToDesk 35 rfl) rfl ?_
      refine w_iald cx (tk_dc d_M_comeToDesk 36 rfl) a_204 j (rfl) (by omega) (by decide) ?_
      refine v_icmp_le cx (tk_dc d_M_comeToDesk 37 rfl) 75 (by decide) (fun h => absurd h (h16)) (fun _ => ?_)
      refine v_aload_n cx (tk_dc d_M_comeToDesk 38 rfl) rfl ?_
      refine v_getC cx 204 (tk_dc d_M_comeToDesk 39 rfl) f_M_105 o_M (by decide) (by rfl) ?_
      refine v_iload_n cx (tk_dc d_M_comeToDesk 40 rfl) rfl ?_
      refine v_iload cx (tk_dc d_M_comeToDesk 41 rfl) rfl ?_
      refine w_iast cx (tk_dc d_M_comeToDesk 42 rfl) a_204 j (rfl) (by omega) (by decide) ?_
      refine v_iload cx (tk_dc d_M_comeToDesk 43 rfl) rfl ?_
      refine v_if_eq cx (tk_dc d_M_comeToDesk 44 rfl) 117 (by decide) (fun _ => ?_) (fun h => absurd (by decide) h)
      exact tail (wI M 204 j g) ec _ hec (by simp [wI, he]) (by simp [wI, hM]) (by unfold m_ctd m_add m_gr; rw [decide_eq_true g16, if_pos g16]; simp [g23])
    · have g23 : ec < 40 := by rcases Nat.lt_or_ge ec 40 with w | w; (exact w); exact absurd (nI_le (a := 40) w (by omega)) h23
      refine v_iload cx (tk_dc d_M_comeToDesk 14 rfl) rfl ?_
      refine v_if_eq cx (tk_dc d_M_comeToDesk 15 rfl) 49 (by decide) (fun h28 => ?_) (fun h28 => ?_)
      · have g28 : ec = 0 := nI_inj (b := 0) (by omega) (by decide) h28
        refine v_iconst cx (tk_dc d_M_comeToDesk 28 rfl) (1) (by decide) ?_
        refine v_goto cx (tk_dc d_M_comeToDesk 29 rfl) 54 (by decide) ?_
        refine v_istore (lo' := [_, _, _, _, _, _, _, _]) cx (tk_dc d_M_comeToDesk 31 rfl) (by decide) rfl ?_
        refine v_iload cx (tk_dc d_M_comeToDesk 32 rfl) rfl ?_
        refine v_aload_n cx (tk_dc d_M_comeToDesk 33 rfl) rfl ?_
        refine v_getC cx 204 (tk_dc d_M_comeToDesk 34 rfl) f_M_105 o_M (by decide) (by rfl) ?_
        refine v_iload_n cx (tk_dc d_M_comeToDesk 35 rfl) rfl ?_
        refine w_iald cx (tk_dc d_M_comeToDesk 36 rfl) a_204 j (rfl) (by omega) (by decide) ?_
        refine v_icmp_le cx (tk_dc d_M_comeToDesk 37 rfl) 75 (by decide) (fun h => absurd h (h16)) (fun _ => ?_)
        refine v_aload_n cx (tk_dc d_M_comeToDesk 38 rfl) rfl ?_
        refine v_getC cx 204 (tk_dc d_M_comeToDesk 39 rfl) f_M_105 o_M (by decide) (by rfl) ?_
        refine v_iload_n cx (tk_dc d_M_comeToDesk 40 rfl) rfl ?_
        refine v_iload cx (tk_dc d_M_comeToDesk 41 rfl) rfl ?_
        refine w_iast cx (tk_dc d_M_comeToDesk 42 rfl) a_204 j (rfl) (by omega) (by decide) ?_
        refine v_iload cx (tk_dc d_M_comeToDesk 43 rfl) rfl ?_
        refine v_if_eq cx (tk_dc d_M_comeToDesk 44 rfl) 117 (by decide) (fun h => absurd h (by decide)) (fun _ => ?_)
        refine v_aload_n cx (tk_dc d_M_comeToDesk 45 rfl) rfl ?_
        refine v_getC cx 206 (tk_dc d_M_comeToDesk 46 rfl) f_M_111 o_M (by decide) (by rfl) ?_
        refine v_bipush cx (tk_dc d_M_comeToDesk 47 rfl) (40) (by decide) ?_
        refine v_iload_n cx (tk_dc d_M_comeToDesk 48 rfl) rfl ?_
        refine v_imul cx (tk_dc d_M_comeToDesk 49 rfl) ?_
        refine v_iload cx (tk_dc d_M_comeToDesk 50 rfl) rfl ?_
        refine v_iadd cx (tk_dc d_M_comeToDesk 51 rfl) ?_
        refine v_iload_n cx (tk_dc d_M_comeToDesk 52 rfl) rfl ?_
        refine w_iast cx (tk_dc d_M_comeToDesk 53 rfl) a_206 (40 * j + ec) (by rw [show (40 : Int32) = nI 40 from rfl, pk_mul, nI_add]) (by omega) (by decide) ?_
        refine v_aload_n cx (tk_dc d_M_comeToDesk 54 rfl) rfl ?_
        refine v_getC cx 207 (tk_dc d_M_comeToDesk 55 rfl) f_M_114 o_M (by decide) (by rfl) ?_
        refine v_bipush cx (tk_dc d_M_comeToDesk 56 rfl) (40) (by decide) ?_
        refine v_iload_n cx (tk_dc d_M_comeToDesk 57 rfl) rfl ?_
        refine v_imul cx (tk_dc d_M_comeToDesk 58 rfl) ?_
        refine v_iload cx (tk_dc d_M_comeToDesk 59 rfl) rfl ?_
        refine v_iadd cx (tk_dc d_M_comeToDesk 60 rfl) ?_
        refine v_iload cx (tk_dc d_M_comeToDesk 61 rfl) rfl ?_
        refine w_iast cx (tk_dc d_M_comeToDesk 62 rfl) a_207 (40 * j + ec) (by rw [show (40 : Int32) = nI 40 from rfl, pk_mul, nI_add]) (by omega) (by decide) ?_
        refine v_aload_n cx (tk_dc d_M_comeToDesk 63 rfl) rfl ?_
        refine v_getC cx 205 (tk_dc d_M_comeToDesk 64 rfl) f_M_108 o_M (by decide) (by rfl) ?_
        refine v_iload_n cx (tk_dc d_M_comeToDesk 65 rfl) rfl ?_
        refine v_dup2 cx (tk_dc d_M_comeToDesk 66 rfl) rfl rfl ?_
        refine w_iald cx (tk_dc d_M_comeToDesk 67 rfl) a_205 j (rfl) (by omega) (by decide) ?_
        refine v_eqi (nI ec) (by simp [wI, he]) ?_
        refine v_iconst cx (tk_dc d_M_comeToDesk 68 rfl) (1) (by decide) ?_
        refine v_iadd cx (tk_dc d_M_comeToDesk 69 rfl) ?_
        refine v_eqi (nI (ec + 1)) ((nI_succ ec).symm) ?_
        refine w_iast cx (tk_dc d_M_comeToDesk 70 rfl) a_205 j (rfl) (by omega) (by decide) ?_
        exact tail (wI (wI (wI (wI M 204 j g) 206 (40 * j + ec) mm) 207 (40 * j + ec) g) 205 j (nI (ec + 1))) (ec + 1) _ (by omega) (wI_at _ _ _ _) (by simp [wI, hM]) (by unfold m_ctd m_add m_gr; rw [decide_eq_true g16, if_pos g16]; simp [g23, g28])
      · have g28 : ¬ ec = 0 := fun w => h28 (by rw [w]; rfl)
        refine v_iload_n cx (tk_dc d_M_comeToDesk 16 rfl) rfl ?_
        refine v_aload_n cx (tk_dc d_M_comeToDesk 17 rfl) rfl ?_
        refine v_getC cx 206 (tk_dc d_M_comeToDesk 18 rfl) f_M_111 o_M (by decide) (by rfl) ?_
        refine v_bipush cx (tk_dc d_M_comeToDesk 19 rfl) (40) (by decide) ?_
        refine v_iload_n cx (tk_dc d_M_comeToDesk 20 rfl) rfl ?_
        refine v_imul cx (tk_dc d_M_comeToDesk 21 rfl) ?_
        refine v_iload cx (tk_dc d_M_comeToDesk 22 rfl) rfl ?_
        refine v_iadd cx (tk_dc d_M_comeToDesk 23 rfl) ?_
        refine v_iconst cx (tk_dc d_M_comeToDesk 24 rfl) (1) (by decide) ?_
        refine v_isub cx (tk_dc d_M_comeToDesk 25 rfl) ?_
        refine w_iald cx (tk_dc d_M_comeToDesk 26 rfl) a_206 (40 * j + (ec - 1)) (by rw [show (40 : Int32) = nI 40 from rfl, pk_mul, nI_add, nI_sub1 (by omega)]; congr 1; omega) (by omega) (by decide) ?_
        refine v_icmp_le cx (tk_dc d_M_comeToDesk 27 rfl) 53 (by decide) (fun h46 => ?_) (fun h46 => ?_)
        · have g46 : ¬ M.1 206 (40 * j + (ec - 1)) < mm := Int32.not_lt.mpr h46
          refine v_iconst cx (tk_dc d_M_comeToDesk 30 rfl) (0) (by decide) ?_
          refine v_istore (lo' := [_, _, _, _, _, _, _, _]) cx (tk_dc d_M_comeToDesk 31 rfl) (by decide) rfl ?_
          refine v_iload cx (tk_dc d_M_comeToDesk 32 rfl) rfl ?_
          refine v_aload_n cx (tk_dc d_M_comeToDesk 33 rfl) rfl ?_
          refine v_getC cx 204 (tk_dc d_M_comeToDesk 34 rfl) f_M_105 o_M (by decide) (by rfl) ?_
          refine v_iload_n cx (tk_dc d_M_comeToDesk 35 rfl) rfl ?_
          refine w_iald cx (tk_dc d_M_comeToDesk 36 rfl) a_204 j (rfl) (by omega) (by decide) ?_
          refine v_icmp_le cx (tk_dc d_M_comeToDesk 37 rfl) 75 (by decide) (fun h => absurd h (h16)) (fun _ => ?_)
          refine v_aload_n cx (tk_dc d_M_comeToDesk 38 rfl) rfl ?_
          refine v_getC cx 204 (tk_dc d_M_comeToDesk 39 rfl) f_M_105 o_M (by decide) (by rfl) ?_
          refine v_iload_n cx (tk_dc d_M_comeToDesk 40 rfl) rfl ?_
          refine v_iload cx (tk_dc d_M_comeToDesk 41 rfl) rfl ?_
          refine w_iast cx (tk_dc d_M_comeToDesk 42 rfl) a_204 j (rfl) (by omega) (by decide) ?_
          refine v_iload cx (tk_dc d_M_comeToDesk 43 rfl) rfl ?_
          refine v_if_eq cx (tk_dc d_M_comeToDesk 44 rfl) 117 (by decide) (fun _ => ?_) (fun h => absurd (by decide) h)
          exact tail (wI M 204 j g) ec _ hec (by simp [wI, he]) (by simp [wI, hM]) (by unfold m_ctd m_add m_gr; rw [decide_eq_true g16, if_pos g16]; simp [g28, g46])
        · have g46 : M.1 206 (40 * j + (ec - 1)) < mm := Int32.not_le.mp h46
          refine v_iconst cx (tk_dc d_M_comeToDesk 28 rfl) (1) (by decide) ?_
          refine v_goto cx (tk_dc d_M_comeToDesk 29 rfl) 54 (by decide) ?_
          refine v_istore (lo' := [_, _, _, _, _, _, _, _]) cx (tk_dc d_M_comeToDesk 31 rfl) (by decide) rfl ?_
          refine v_iload cx (tk_dc d_M_comeToDesk 32 rfl) rfl ?_
          refine v_aload_n cx (tk_dc d_M_comeToDesk 33 rfl) rfl ?_
          refine v_getC cx 204 (tk_dc d_M_comeToDesk 34 rfl) f_M_105 o_M (by decide) (by rfl) ?_
          refine v_iload_n cx (tk_dc d_M_comeToDesk 35 rfl) rfl ?_
          refine w_iald cx (tk_dc d_M_comeToDesk 36 rfl) a_204 j (rfl) (by omega) (by decide) ?_
          refine v_icmp_le cx (tk_dc d_M_comeToDesk 37 rfl) 75 (by decide) (fun h => absurd h (h16)) (fun _ => ?_)
          refine v_aload_n cx (tk_dc d_M_comeToDesk 38 rfl) rfl ?_
          refine v_getC cx 204 (tk_dc d_M_comeToDesk 39 rfl) f_M_105 o_M (by decide) (by rfl) ?_
          refine v_iload_n cx (tk_dc d_M_comeToDesk 40 rfl) rfl ?_
          refine v_iload cx (tk_dc d_M_comeToDesk 41 rfl) rfl ?_
          refine w_iast cx (tk_dc d_M_comeToDesk 42 rfl) a_204 j (rfl) (by omega) (by decide) ?_
          refine v_iload cx (tk_dc d_M_comeToDesk 43 rfl) rfl ?_
          refine v_if_eq cx (tk_dc d_M_comeToDesk 44 rfl) 117 (by decide) (fun h => absurd h (by decide)) (fun _ => ?_)
          refine v_aload_n cx (tk_dc d_M_comeToDesk 45 rfl) rfl ?_
          refine v_getC cx 206 (tk_dc d_M_comeToDesk 46 rfl) f_M_111 o_M (by decide) (by rfl) ?_
          refine v_bipush cx (tk_dc d_M_comeToDesk 47 rfl) (40) (by decide) ?_
          refine v_iload_n cx (tk_dc d_M_comeToDesk 48 rfl) rfl ?_
          refine v_imul cx (tk_dc d_M_comeToDesk 49 rfl) ?_
          refine v_iload cx (tk_dc d_M_comeToDesk 50 rfl) rfl ?_
          refine v_iadd cx (tk_dc d_M_comeToDesk 51 rfl) ?_
          refine v_iload_n cx (tk_dc d_M_comeToDesk 52 rfl) rfl ?_
          refine w_iast cx (tk_dc d_M_comeToDesk 53 rfl) a_206 (40 * j + ec) (by rw [show (40 : Int32) = nI 40 from rfl, pk_mul, nI_add]) (by omega) (by decide) ?_
          refine v_aload_n cx (tk_dc d_M_comeToDesk 54 rfl) rfl ?_
          refine v_getC cx 207 (tk_dc d_M_comeToDesk 55 rfl) f_M_114 o_M (by decide) (by rfl) ?_
          refine v_bipush cx (tk_dc d_M_comeToDesk 56 rfl) (40) (by decide) ?_
          refine v_iload_n cx (tk_dc d_M_comeToDesk 57 rfl) rfl ?_
          refine v_imul cx (tk_dc d_M_comeToDesk 58 rfl) ?_
          refine v_iload cx (tk_dc d_M_comeToDesk 59 rfl) rfl ?_
          refine v_iadd cx (tk_dc d_M_comeToDesk 60 rfl) ?_
          refine v_iload cx (tk_dc d_M_comeToDesk 61 rfl) rfl ?_
          refine w_iast cx (tk_dc d_M_comeToDesk 62 rfl) a_207 (40 * j + ec) (by rw [show (40 : Int32) = nI 40 from rfl, pk_mul, nI_add]) (by omega) (by decide) ?_
          refine v_aload_n cx (tk_dc d_M_comeToDesk 63 rfl) rfl ?_
          refine v_getC cx 205 (tk_dc d_M_comeToDesk 64 rfl) f_M_108 o_M (by decide) (by rfl) ?_
          refine v_iload_n cx (tk_dc d_M_comeToDesk 65 rfl) rfl ?_
          refine v_dup2 cx (tk_dc d_M_comeToDesk 66 rfl) rfl rfl ?_
          refine w_iald cx (tk_dc d_M_comeToDesk 67 rfl) a_205 j (rfl) (by omega) (by decide) ?_
          refine v_eqi (nI ec) (by simp [wI, he]) ?_
          refine v_iconst cx (tk_dc d_M_comeToDesk 68 rfl) (1) (by decide) ?_
          refine v_iadd cx (tk_dc d_M_comeToDesk 69 rfl) ?_
          refine v_eqi (nI (ec + 1)) ((nI_succ ec).symm) ?_
          refine w_iast cx (tk_dc d_M_comeToDesk 70 rfl) a_205 j (rfl) (by omega) (by decide) ?_
          exact tail (wI (wI (wI (wI M 204 j g) 206 (40 * j + ec) mm) 207 (40 * j + ec) g) 205 j (nI (ec + 1))) (ec + 1) _ (by omega) (wI_at _ _ _ _) (by simp [wI, hM]) (by unfold m_ctd m_add m_gr; rw [decide_eq_true g16, if_pos g16]; simp [g23, g28, g46])
