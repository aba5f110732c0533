/-! the class's calls: what was promised, a waking, a letter comes -/
theorem CK.at {M M' : tk_M} (h : CK M M') (a b : Nat) (h1 : 70 ≤ a) (h2 : a < 142) (h3 : a < 86 ∨ (a - 86) % 7 < 4) : M'.1 a b = M.1 a b := h.2 a b h1 h2 (fun j => by unfold jN; omega)
theorem calK.ck {M M' : tk_M} {j : Nat} {g : gJ} (H : calK M j g) (w : CK M M') : calK M' j g := by
  obtain ⟨z, h, ne, n, ρ, mv, st, os, e1, e2, e3, e4, e5, e6, e7, e8, e9⟩ := H
  have hj := e1.1
  have hz := e1.2.1
  have aZ : ∀ r b, r < 4 → M'.1 (zN z + r) b = M.1 (zN z + r) b := fun r b hr => w.at _ _ (by unfold zN; omega) (by unfold zN; omega) (Or.inl (by unfold zN; omega))
  have aJ : ∀ r b, r < 4 → M'.1 (jN j + r) b = M.1 (jN j + r) b := fun r b hr => w.at _ _ (by unfold jN; omega) (by unfold jN; omega) (Or.inr (by unfold jN; omega))
  have f1 : M'.1 (zN z + 3) = M.1 (zN z + 3) := funext fun b => aZ 3 b (by omega)
  have f2 : M'.1 (jN j + 2) = M.1 (jN j + 2) := funext fun b => aJ 2 b (by omega)
  have ed : j_due M' j z h ne n ρ mv st os = j_due M j z h ne n ρ mv st os := by
    unfold j_due j_jd z_fr z_hol j_exc
    rw [f1, f2]
  refine ⟨z, h, ne, n, ρ, mv, st, os, ?_, ?_, e3, (aJ 0 4 (by omega)).trans e4, ed.trans e5, (aJ 0 6 (by omega)).trans e6, e7, (aJ 0 7 (by omega)).trans e8, e9⟩
  · unfold j_ok at e1 ⊢
    rw [w.1, aJ 1 1 (by omega), aJ 1 3 (by omega), aJ 1 4 (by omega), aJ 1 5 (by omega), aJ 1 6 (by omega), show M'.1 (zN z) 4 = M.1 (zN z) 4 from aZ 0 4 (by omega), show M'.1 (jN j) 5 = M.1 (jN j) 5 from aJ 0 5 (by omega)]
    exact e1
  · exact ⟨e2.1, (aZ 0 3 (by omega)).trans e2.2.1, fun i hi => ⟨(aZ 1 i (by omega)).trans (e2.2.2 i hi).1, (aZ 2 i (by omega)).trans (e2.2.2 i hi).2⟩⟩
theorem CK.rf {M : tk_M} : CK M M := ⟨rfl, fun _ _ _ _ _ => rfl⟩
theorem k_wk_ck {G : Nat → gJ} {nw : Int} {x : Nat} {M : tk_M} {c : Nat} (h : po M c) (j : Nat) : CK M (k_wk G nw x M c j).1 := ⟨k_wk_2 j, fun a b h1 h2 _ => k_wk_at h (Or.inr h1) (by omega) j (fun i _ => by have := eN_ge x i; omega)⟩
set_option maxHeartbeats 4000000 in
set_option maxRecDepth 100000 in
theorem c_K_hearPromised {l : Launch} {E : tk_E} {M : tk_M} {G : Nat → gJ} {nw : Int} {cn q t j : Nat} (hp : po M cn) (hq8 : 9 ≤ q) (hq7 : q < 70) (hl2 : M.1 q 2 = nI t) (hl3 : M.1 q 3 = nI j) (hs : t < 3) (hj : j < 8) (hrow : ∀ b, b < 60 → M.2.2 7 b ≠ q) (hG : ∀ i, i < 8 → calK M i (G i)) (hkn : ∀ i, i < 8 → -1 ≤ (M.1 (eN t i) 4).toInt ∧ (M.1 (eN t i) 4).toInt ≤ 52595999) (hnw : M.1 0 6 = iI nw) (hn0 : 0 ≤ nw) (hn1 : nw ≤ 52595999) (hmm : -1 ≤ (M.1 q 5).toInt ∧ (M.1 q 5).toInt ≤ 52595999) (hmo : -1 ≤ (M.1 (eN t j) 2).toInt ∧ (M.1 (eN t j) 2).toInt ≤ 52595999)  : tk_Mt l y_K_hearPromised b_K_hearPromised 8 none 6 E [.ref (E.1 + 0), .ref (E.1 + q)] M (k_h1 G nw M cn q t j) none := by
  refine tk_ofV (by decide +kernel) [some (.ref (E.1 + 0)), some (.ref (E.1 + q)), none, none, none, none, none, none] rfl (Nat.le_of_ble_eq_true rfl) ?_
  intro p e s m args below meth c cx hB
  have tail3 : ∀ (w3 : Option Value) (la be y : Int32), -1 ≤ y.toInt ∧ y.toInt ≤ 52595999 → k_h1 G nw M cn q t j = k_pm3 G M cn t j y be → tk_V p l e (tk_rm 6 0 0) s m args below meth c (MQ below (tk_Q E 209 (tk_ct E (k_h1 G nw M cn q t j)) none) args s 0 0 (tk_A E)) E 8 209 (tk_ct E M) 0 0 119 [some (.ref (E.1 + 0)), some (.ref (E.1 + q)), some (.ref (E.1 + eN t j)), w3, some (.int la), some (.int be), some (.ref (E.1 + jN j)), some (.int y)] [] := by
    intro w3 la be y ry hfin
    rw [hfin]
    refine v_iload cx (tk_dc d_K_hearPromised 59 rfl) rfl ?_
    refine v_iconst cx (tk_dc d_K_hearPromised 60 rfl) (-1) (by decide) ?_
    refine v_icmp_eq cx (tk_dc d_K_hearPromised 61 rfl) 153 (by decide) (fun h122 => ?_) (fun h122 => ?_)
    · have g1 : y = -1 := h122
      refine v_aload_n cx (tk_dc d_K_hearPromised 75 rfl) rfl ?_
      refine v_callV (rest := _) cx (tk_dc d_K_hearPromised 76 rfl) m_K_268 kn_E_endRound kv_E_endRound k_E_endRound (o_E hs hj) (by decide) rfl (c_E_endRound (o_E hs hj)) rfl rfl (Nat.le_of_ble_eq_true rfl) (by decide) ?_
      exact v_vret cx hB (tk_dc d_K_hearPromised 77 rfl) (by unfold k_pm3; rw [if_pos (Or.inl g1)])
    · refine v_aload cx (tk_dc d_K_hearPromised 62 rfl) rfl ?_
      refine v_getI cx (tk_dc d_K_hearPromised 63 rfl) f_K_107 (o_J hj) (by decide) (by rfl) ?_
      refine v_if_ne cx (tk_dc d_K_hearPromised 64 rfl) 153 (by decide) (fun h130 => ?_) (fun h130 => ?_)
      · refine v_aload_n cx (tk_dc d_K_hearPromised 75 rfl) rfl ?_
        refine v_callV (rest := _) cx (tk_dc d_K_hearPromised 76 rfl) m_K_268 kn_E_endRound kv_E_endRound k_E_endRound (o_E hs hj) (by decide) rfl (c_E_endRound (o_E hs hj)) rfl rfl (Nat.le_of_ble_eq_true rfl) (by decide) ?_
        exact v_vret cx hB (tk_dc d_K_hearPromised 77 rfl) (by unfold k_pm3; rw [if_pos (Or.inr (Or.inl h130))])
      · refine v_aload_n cx (tk_dc d_K_hearPromised 65 rfl) rfl ?_
        refine v_aload_n cx (tk_dc d_K_hearPromised 66 rfl) rfl ?_
        refine v_getC cx 3 (tk_dc d_K_hearPromised 67 rfl) f_K_23 o_K (by decide) (by rfl) ?_
        refine v_aload_n cx (tk_dc d_K_hearPromised 68 rfl) rfl ?_
        refine v_getI cx (tk_dc d_K_hearPromised 69 rfl) f_K_211 (o_L (by omega) hq7) (by decide) (by rfl) ?_
        refine v_eqi (nI t) (hl2) ?_
        refine w_aald cx (sN t) (tk_dc d_K_hearPromised 70 rfl) o_ss t (rfl) (by omega) (by decide) (rfl) ?_
        refine v_aload cx (tk_dc d_K_hearPromised 71 rfl) rfl ?_
        refine v_iload cx (tk_dc d_K_hearPromised 72 rfl) rfl ?_
        have yz : 0 ≤ y.toInt := by by_cases w : y.toInt < 0; (exact absurd (iI_ext (z := -1) (by omega)) h122); omega
        obtain ⟨yi, hyi⟩ : ∃ yi, yi = y.toInt := ⟨_, rfl⟩
        have hy2 : y = iI yi := by rw [hyi]; exact iI_of y
        rw [hy2]
        refine v_callV (rest := _) cx (tk_dc d_K_hearPromised 73 rfl) m_K_264 kn_K_hasToWait kv_K_hasToWait k_K_hasToWait o_K (by decide) rfl (c_K_hasToWait (G := G) (a := yi) hG hkn hs hj (by omega) (by omega)) rfl rfl (Nat.le_of_ble_eq_true rfl) (by decide) ?_
        refine v_if_eq cx (tk_dc d_K_hearPromised 74 rfl) 158 (by decide) (fun h150 => ?_) (fun h150 => ?_)
        · have g150 := b01_z h150
          refine v_aload_n cx (tk_dc d_K_hearPromised 78 rfl) rfl ?_
          refine v_iload cx (tk_dc d_K_hearPromised 79 rfl) rfl ?_
          refine v_iload cx (tk_dc d_K_hearPromised 80 rfl) rfl ?_
          refine v_iconst cx (tk_dc d_K_hearPromised 81 rfl) (1) (by decide) ?_
          refine v_iadd cx (tk_dc d_K_hearPromised 82 rfl) ?_
          refine v_callV (rest := _) cx (tk_dc d_K_hearPromised 83 rfl) m_K_271 kn_E_claim kv_E_claim k_E_claim (o_E hs hj) (by decide) rfl (c_E_claim (o_E hs hj)) rfl rfl (Nat.le_of_ble_eq_true rfl) (by decide) ?_
          refine v_aload_n cx (tk_dc d_K_hearPromised 84 rfl) rfl ?_
          refine v_iconst cx (tk_dc d_K_hearPromised 85 rfl) (2) (by decide) ?_
          refine v_aload_n cx (tk_dc d_K_hearPromised 86 rfl) rfl ?_
          refine v_getI cx (tk_dc d_K_hearPromised 87 rfl) f_K_211 (o_L (by omega) hq7) (by decide) (by rfl) ?_
          refine v_eqi (nI t) (by rw [e_clm_at (by have := eN_ge t j; omega)]; exact hl2) ?_
          refine v_aload_n cx (tk_dc d_K_hearPromised 88 rfl) rfl ?_
          refine v_getI cx (tk_dc d_K_hearPromised 89 rfl) f_K_214 (o_L (by omega) hq7) (by decide) (by rfl) ?_
          refine v_eqi (nI j) (by rw [e_clm_at (by have := eN_ge t j; omega)]; exact hl3) ?_
          refine v_callV (rest := _) cx (tk_dc d_K_hearPromised 90 rfl) m_K_140 kn_K_sendToOthers kv_K_sendToOthers k_K_sendToOthers o_K (by decide) rfl (c_K_sendToOthers (hp.clm (by have := eN_ge t j; omega)) hs hj) rfl rfl (Nat.le_of_ble_eq_true rfl) (by decide) ?_
          exact v_vret cx hB (tk_dc d_K_hearPromised 91 rfl) (by unfold k_pm3; rw [if_neg (by rw [← hy2]; rintro (w | w | w); (exact h122 w); (exact w h130); (rw [← hyi, g150] at w; cases w))]; rfl)
        · have g150 := b01_nz h150
          refine v_aload_n cx (tk_dc d_K_hearPromised 75 rfl) rfl ?_
          refine v_callV (rest := _) cx (tk_dc d_K_hearPromised 76 rfl) m_K_268 kn_E_endRound kv_E_endRound k_E_endRound (o_E hs hj) (by decide) rfl (c_E_endRound (o_E hs hj)) rfl rfl (Nat.le_of_ble_eq_true rfl) (by decide) ?_
          exact v_vret cx hB (tk_dc d_K_hearPromised 77 rfl) (by unfold k_pm3; rw [if_pos (Or.inr (Or.inr (by rw [iI_toInt (by omega) (by omega)]; exact g150)))])
  have tail2 : ∀ (w3 : Option Value) (la be : Int32), -1 ≤ la.toInt ∧ la.toInt ≤ 52595999 → k_h1 G nw M cn q t j = k_pm2 G nw M cn t j la be → tk_V p l e (tk_rm 6 0 0) s m args below meth c (MQ below (tk_Q E 209 (tk_ct E (k_h1 G nw M cn q t j)) none) args s 0 0 (tk_A E)) E 8 209 (tk_ct E M) 0 0 92 [some (.ref (E.1 + 0)), some (.ref (E.1 + q)), some (.ref (E.1 + eN t j)), w3, some (.int la), some (.int be), some (.ref (E.1 + jN j)), none] [] := by
    intro w3 la be rl hfin
    refine v_iload cx (tk_dc d_K_hearPromised 47 rfl) rfl ?_
    refine v_aload_n cx (tk_dc d_K_hearPromised 48 rfl) rfl ?_
    refine v_getI cx (tk_dc d_K_hearPromised 49 rfl) f_K_227 (o_E hs hj) (by decide) (by rfl) ?_
    refine v_icmp_le cx (tk_dc d_K_hearPromised 50 rfl) 106 (by decide) (fun h98 => ?_) (fun h98 => ?_)
    · have g98 : ¬ M.1 (eN t j) 4 < la := Int32.not_lt.mpr h98
      obtain ⟨z, h, ne, n, ρ, mv, st, os, e1, e2, e3, e4, e5, e6, e7, e8, e9, e10, e11⟩ := hG j hj
      refine v_aload cx (tk_dc d_K_hearPromised 53 rfl) rfl ?_
      refine v_iload cx (tk_dc d_K_hearPromised 54 rfl) rfl ?_
      refine v_eqi (iI la.toInt) (iI_of la) ?_
      refine v_aload_n cx (tk_dc d_K_hearPromised 55 rfl) rfl ?_
      refine v_getI cx (tk_dc d_K_hearPromised 56 rfl) f_K_44 o_K (by decide) (by rfl) ?_
      refine v_eqi (iI nw) (hnw) ?_
      refine v_callVI (rest := _) cx (tk_dc d_K_hearPromised 57 rfl) m_K_261 kn_J_nextMoment kv_J_nextMoment k_J_nextMoment (o_J hj) (by decide) rfl (c_J_nextMoment e1 e2 e3 e4 e6 e8 e7 rl.1 rl.2 hn0 hn1 e9 e10) rfl rfl (Nat.le_of_ble_eq_true rfl) (by decide) (fun x9 hx9 => ?_)
      obtain ⟨r9, rfl, hr9⟩ := hx9
      rw [e5] at hr9
      have hr8 := NXT_r hr9 hn0
      refine v_istore (lo' := [_, _, _, _, _, _, _, _]) cx (tk_dc d_K_hearPromised 58 rfl) (by decide) rfl ?_
      exact tail3 w3 la be (iI r9) (by rw [iI_toInt (by omega) (by omega)]; omega) (by rw [hfin]; unfold k_pm2; rw [if_neg g98, nx_eq hr9])
    · have g98 : M.1 (eN t j) 4 < la := Int32.not_le.mp h98
      refine v_iload cx (tk_dc d_K_hearPromised 51 rfl) rfl ?_
      refine v_goto cx (tk_dc d_K_hearPromised 52 rfl) 117 (by decide) ?_
      refine v_istore (lo' := [_, _, _, _, _, _, _, _]) cx (tk_dc d_K_hearPromised 58 rfl) (by decide) rfl ?_
      exact tail3 w3 la be la rl (by rw [hfin]; unfold k_pm2; rw [if_pos g98])
  refine v_aload_n cx (tk_dc d_K_hearPromised 0 rfl) rfl ?_
  refine v_aload_n cx (tk_dc d_K_hearPromised 1 rfl) rfl ?_
  refine v_callV (rest := _) cx (tk_dc d_K_hearPromised 2 rfl) m_K_193 kn_K_seatOf kv_K_seatOf k_K_seatOf o_K (by decide) rfl (c_K_seatOf hq8 hq7 hl2 hl3 hs hj) rfl rfl (Nat.le_of_ble_eq_true rfl) (by decide) ?_
  refine v_astore_n (lo' := [_, _, _, _, _, _, _, _]) cx (tk_dc d_K_hearPromised 3 rfl) (by decide) rfl ?_
  refine v_aload_n cx (tk_dc d_K_hearPromised 4 rfl) rfl ?_
  refine v_iconst cx (tk_dc d_K_hearPromised 5 rfl) (1) (by decide) ?_
  refine v_aload_n cx (tk_dc d_K_hearPromised 6 rfl) rfl ?_
  refine v_getI cx (tk_dc d_K_hearPromised 7 rfl) f_K_236 (o_L (by omega) hq7) (by decide) (by rfl) ?_
  refine v_callV (rest := _) cx (tk_dc d_K_hearPromised 8 rfl) m_K_258 kn_E_isAt kv_E_isAt k_E_isAt (o_E hs hj) (by decide) rfl (c_E_isAt (o_E hs hj)) rfl rfl (Nat.le_of_ble_eq_true rfl) (by decide) ?_
  refine v_if_eq cx (tk_dc d_K_hearPromised 9 rfl) 29 (by decide) (fun h15 => ?_) (fun h15 => ?_)
  · have g15 := of_decide_eq_false (b01_z h15)
    exact v_vret cx hB (tk_dc d_K_hearPromised 15 rfl) (by unfold k_h1; rw [if_neg (fun w => g15 w.1)])
  · have g15 := of_decide_eq_true (b01_nz h15)
    refine v_aload_n cx (tk_dc d_K_hearPromised 10 rfl) rfl ?_
    refine v_getI cx (tk_dc d_K_hearPromised 11 rfl) f_K_244 (o_E hs hj) (by decide) (by rfl) ?_
    refine v_aload_n cx (tk_dc d_K_hearPromised 12 rfl) rfl ?_
    refine v_getI cx (tk_dc d_K_hearPromised 13 rfl) f_K_236 (o_L (by omega) hq7) (by decide) (by rfl) ?_
    refine v_icmp_eq cx (tk_dc d_K_hearPromised 14 rfl) 30 (by decide) (fun h26 => ?_) (fun h26 => ?_)
    · refine v_aload_n cx (tk_dc d_K_hearPromised 16 rfl) rfl ?_
      refine v_getI cx (tk_dc d_K_hearPromised 17 rfl) f_K_254 (o_E hs hj) (by decide) (by rfl) ?_
      refine v_aload_n cx (tk_dc d_K_hearPromised 18 rfl) rfl ?_
      refine v_getI cx (tk_dc d_K_hearPromised 19 rfl) f_K_257 (o_L (by omega) hq7) (by decide) (by rfl) ?_
      refine v_icmp_lt cx (tk_dc d_K_hearPromised 20 rfl) 45 (by decide) (fun h38 => ?_) (fun h38 => ?_)
      · refine v_iconst cx (tk_dc d_K_hearPromised 23 rfl) (0) (by decide) ?_
        refine v_istore_n (lo' := [_, _, _, _, _, _, _, _]) cx (tk_dc d_K_hearPromised 24 rfl) (by decide) rfl ?_
        refine v_iload_n cx (tk_dc d_K_hearPromised 25 rfl) rfl ?_
        refine v_if_eq cx (tk_dc d_K_hearPromised 26 rfl) 58 (by decide) (fun _ => ?_) (fun h => absurd (by decide) h)
        refine v_aload_n cx (tk_dc d_K_hearPromised 30 rfl) rfl ?_
        refine v_getI cx (tk_dc d_K_hearPromised 31 rfl) f_K_197 (o_L (by omega) hq7) (by decide) (by rfl) ?_
        refine v_istore (lo' := [_, _, _, _, _, _, _, _]) cx (tk_dc d_K_hearPromised 32 rfl) (by decide) rfl ?_
        refine v_iload_n cx (tk_dc d_K_hearPromised 33 rfl) rfl ?_
        refine v_if_eq cx (tk_dc d_K_hearPromised 34 rfl) 75 (by decide) (fun _ => ?_) (fun h => absurd (by decide) h)
        refine v_aload_n cx (tk_dc d_K_hearPromised 38 rfl) rfl ?_
        refine v_getI cx (tk_dc d_K_hearPromised 39 rfl) f_K_243 (o_L (by omega) hq7) (by decide) (by rfl) ?_
        refine v_istore (lo' := [_, _, _, _, _, _, _, _]) cx (tk_dc d_K_hearPromised 40 rfl) (by decide) rfl ?_
        refine v_aload_n cx (tk_dc d_K_hearPromised 41 rfl) rfl ?_
        refine v_getC cx 2 (tk_dc d_K_hearPromised 42 rfl) f_K_17 o_K (by decide) (by rfl) ?_
        refine v_aload_n cx (tk_dc d_K_hearPromised 43 rfl) rfl ?_
        refine v_getI cx (tk_dc d_K_hearPromised 44 rfl) f_K_214 (o_L (by omega) hq7) (by decide) (by rfl) ?_
        refine v_eqi (nI j) (hl3) ?_
        refine w_aald cx (jN j) (tk_dc d_K_hearPromised 45 rfl) o_js j (rfl) (by omega) (by decide) (rfl) ?_
        refine v_astore (lo' := [_, _, _, _, _, _, _, _]) cx (tk_dc d_K_hearPromised 46 rfl) (by decide) rfl ?_
        exact tail2 _ _ _ hmm (by unfold k_h1; rw [if_pos ⟨g15, h26⟩, if_pos h38, if_pos h38])
      · refine v_iconst cx (tk_dc d_K_hearPromised 21 rfl) (1) (by decide) ?_
        refine v_goto cx (tk_dc d_K_hearPromised 22 rfl) 46 (by decide) ?_
        refine v_istore_n (lo' := [_, _, _, _, _, _, _, _]) cx (tk_dc d_K_hearPromised 24 rfl) (by decide) rfl ?_
        refine v_iload_n cx (tk_dc d_K_hearPromised 25 rfl) rfl ?_
        refine v_if_eq cx (tk_dc d_K_hearPromised 26 rfl) 58 (by decide) (fun h => absurd h (by decide)) (fun _ => ?_)
        refine v_aload_n cx (tk_dc d_K_hearPromised 27 rfl) rfl ?_
        refine v_getI cx (tk_dc d_K_hearPromised 28 rfl) f_K_224 (o_E hs hj) (by decide) (by rfl) ?_
        refine v_goto cx (tk_dc d_K_hearPromised 29 rfl) 62 (by decide) ?_
        refine v_istore (lo' := [_, _, _, _, _, _, _, _]) cx (tk_dc d_K_hearPromised 32 rfl) (by decide) rfl ?_
        refine v_iload_n cx (tk_dc d_K_hearPromised 33 rfl) rfl ?_
        refine v_if_eq cx (tk_dc d_K_hearPromised 34 rfl) 75 (by decide) (fun h => absurd h (by decide)) (fun _ => ?_)
        refine v_aload_n cx (tk_dc d_K_hearPromised 35 rfl) rfl ?_
        refine v_getI cx (tk_dc d_K_hearPromised 36 rfl) f_K_251 (o_E hs hj) (by decide) (by rfl) ?_
        refine v_goto cx (tk_dc d_K_hearPromised 37 rfl) 79 (by decide) ?_
        refine v_istore (lo' := [_, _, _, _, _, _, _, _]) cx (tk_dc d_K_hearPromised 40 rfl) (by decide) rfl ?_
        refine v_aload_n cx (tk_dc d_K_hearPromised 41 rfl) rfl ?_
        refine v_getC cx 2 (tk_dc d_K_hearPromised 42 rfl) f_K_17 o_K (by decide) (by rfl) ?_
        refine v_aload_n cx (tk_dc d_K_hearPromised 43 rfl) rfl ?_
        refine v_getI cx (tk_dc d_K_hearPromised 44 rfl) f_K_214 (o_L (by omega) hq7) (by decide) (by rfl) ?_
        refine v_eqi (nI j) (hl3) ?_
        refine w_aald cx (jN j) (tk_dc d_K_hearPromised 45 rfl) o_js j (rfl) (by omega) (by decide) (rfl) ?_
        refine v_astore (lo' := [_, _, _, _, _, _, _, _]) cx (tk_dc d_K_hearPromised 46 rfl) (by decide) rfl ?_
        exact tail2 _ _ _ hmo (by unfold k_h1; rw [if_pos ⟨g15, h26⟩, if_neg h38, if_neg h38])
    · exact v_vret cx hB (tk_dc d_K_hearPromised 15 rfl) (by unfold k_h1; rw [if_neg (fun w => h26 w.2)])

set_option maxHeartbeats 4000000 in
set_option maxRecDepth 100000 in
theorem n_K_wakes {l : Launch} {E : tk_E} {M : tk_M} {x : Int32} (hb : ¬ (¬ x < 0 ∧ x < 3)) : tk_Mt l y_K_wake b_K_wake 5 (some .int) 7 E [.ref (E.1 + 0), .int (x)] M M (some (.int (-1))) := by
  refine tk_ofV (by decide +kernel) [some (.ref (E.1 + 0)), some (.int (x)), none, none, none] rfl (Nat.le_of_ble_eq_true rfl) ?_
  intro p e s m args below meth c cx hB
  refine v_iload_n cx (tk_dc d_K_wake 0 rfl) rfl ?_
  refine v_callS (rest := _) cx (tk_dc d_K_wake 1 rfl) m_K_120 ks_K_isScheduler k_K_isScheduler (c_K_isScheduler) rfl rfl (Nat.le_of_ble_eq_true rfl) (by decide) ?_
  refine v_if_eq cx (tk_dc d_K_wake 2 rfl) 19 (by decide) (fun _ => ?_) (fun h => absurd (by rw [decide_eq_false hb]; rfl) h)
  refine v_iconst cx (tk_dc d_K_wake 9 rfl) (-1) (by decide) ?_
  exact v_iret cx hB (tk_dc d_K_wake 10 rfl) (rfl) (rfl)

set_option maxHeartbeats 4000000 in
set_option maxRecDepth 100000 in
theorem n_K_wake {l : Launch} {E : tk_E} {M : tk_M} {x : Nat} (hs : x < 3) (hu : M.1 (sN x) 1 = 0) : tk_Mt l y_K_wake b_K_wake 5 (some .int) 7 E [.ref (E.1 + 0), .int (nI x)] M M (some (.int (-1))) := by
  refine tk_ofV (by decide +kernel) [some (.ref (E.1 + 0)), some (.int (nI x)), none, none, none] rfl (Nat.le_of_ble_eq_true rfl) ?_
  intro p e s m args below meth c cx hB
  refine v_iload_n cx (tk_dc d_K_wake 0 rfl) rfl ?_
  refine v_callS (rest := _) cx (tk_dc d_K_wake 1 rfl) m_K_120 ks_K_isScheduler k_K_isScheduler (c_K_isScheduler) rfl rfl (Nat.le_of_ble_eq_true rfl) (by decide) ?_
  refine v_if_eq cx (tk_dc d_K_wake 2 rfl) 19 (by decide) (fun h => absurd h (b01_d (inN (n := 3) (by decide) hs))) (fun _ => ?_)
  refine v_aload_n cx (tk_dc d_K_wake 3 rfl) rfl ?_
  refine v_getC cx 3 (tk_dc d_K_wake 4 rfl) f_K_23 o_K (by decide) (by rfl) ?_
  refine v_iload_n cx (tk_dc d_K_wake 5 rfl) rfl ?_
  refine w_aald cx (sN x) (tk_dc d_K_wake 6 rfl) o_ss x (rfl) (by omega) (by decide) (rfl) ?_
  refine v_getI cx (tk_dc d_K_wake 7 rfl) f_K_123 (o_S (by assumption)) (by decide) (by rfl) ?_
  refine v_if_ne cx (tk_dc d_K_wake 8 rfl) 21 (by decide) (fun h => absurd (hu) h) (fun _ => ?_)
  refine v_iconst cx (tk_dc d_K_wake 9 rfl) (-1) (by decide) ?_
  exact v_iret cx hB (tk_dc d_K_wake 10 rfl) (rfl) (rfl)

set_option maxHeartbeats 4000000 in
set_option maxRecDepth 100000 in
theorem c_K_wake {l : Launch} {E : tk_E} {M : tk_M} {G : Nat → gJ} {nw : Int} {cn x : Nat} (hp : po M cn) (hG : ∀ i, i < 8 → calK M i (G i)) (hnw : M.1 0 6 = iI nw) (hn0 : 0 ≤ nw) (hn1 : nw ≤ 52595999) (hs : x < 3) (hu : ¬ M.1 (sN x) 1 = 0) (hmo : ∀ i, i < 8 → -1 ≤ (M.1 (eN x i) 2).toInt ∧ (M.1 (eN x i) 2).toInt ≤ 52595999) : tk_Mt l y_K_wake b_K_wake 5 (some .int) 7 E [.ref (E.1 + 0), .int (nI x)] M (k_wk G nw x M cn 8).1 (some (.int (nI (k_wk G nw x M cn 8).2.2))) := by
  refine tk_ofV (by decide +kernel) [some (.ref (E.1 + 0)), some (.int (nI x)), none, none, none] rfl (Nat.le_of_ble_eq_true rfl) ?_
  intro p e s m args below meth c cx hB
  obtain ⟨Z, hZ⟩ : ∃ Z, Z = k_wk G nw x M cn 8 := ⟨_, rfl⟩
  rw [← hZ]
  have loop : ∀ (r j ct : Nat) (M1 : tk_M) (w4 : Option Value), j + r = 8 → (k_wk G nw x M cn j).1 = M1 → ct = (k_wk G nw x M cn j).2.2 → tk_V p l e (tk_rm 7 0 0) s m args below meth c (MQ below (tk_Q E 209 (tk_ct E Z.1) (some (.int (nI Z.2.2)))) args s 0 0 (tk_A E)) E 5 209 (tk_ct E M1) 0 0 25 [some (.ref (E.1 + 0)), some (.int (nI x)), some (.int (nI ct)), some (.int (nI j)), w4] [] := by
    intro r
    induction r with
    | zero =>
      intro j ct M1 w4 hj hM1 hct
      have : j = 8 := by omega
      subst this
      rw [← hZ] at hM1 hct
      refine v_iload_n cx (tk_dc d_K_wake 15 rfl) rfl ?_
      refine v_bipush cx (tk_dc d_K_wake 16 rfl) (8) (by decide) ?_
      refine v_icmp_ge cx (tk_dc d_K_wake 17 rfl) 81 (by decide) (fun _ => ?_) (fun h => absurd (by decide) h)
      refine v_iload_n cx (tk_dc d_K_wake 45 rfl) rfl ?_
      exact v_iret cx hB (tk_dc d_K_wake 46 rfl) (by rw [hct]) (hM1.symm)
    | succ r ih =>
      intro j ct M1 w4 hj hM1 hct
      subst hM1
      have hj8 : j < 8 := by omega
      have hS := k_wk_p (G := G) (nw := nw) (x := x) hp j
      have hat := fun (a b : Nat) h0 h1 h2 => k_wk_at (G := G) (nw := nw) (x := x) (c := cn) (a := a) (b := b) hp h0 h1 j h2
      have hck := k_wk_ck (G := G) (nw := nw) (x := x) hp j
      have rm := hmo j hj8
      have hn := k_wk.eq_2 G nw x M cn j
      obtain ⟨S, hSe⟩ : ∃ S, S = k_wk G nw x M cn j := ⟨_, rfl⟩
      rw [← hSe] at hS hn hct hck ⊢
      subst hct
      rw [← hat (eN x j) 2 (Or.inr (by have := eN_ge x j; omega)) (by have := eN_ge x j; omega) (fun i hi => by unfold eN; omega), ← hSe] at rm
      have hnw1 : S.1.1 0 6 = iI nw := by rw [hSe, hat 0 6 (Or.inl (by omega)) (by omega) (fun i hi => by have := eN_ge x i; omega)]; exact hnw
      refine v_iload_n cx (tk_dc d_K_wake 15 rfl) rfl ?_
      refine v_bipush cx (tk_dc d_K_wake 16 rfl) (8) (by decide) ?_
      refine v_icmp_ge cx (tk_dc d_K_wake 17 rfl) 81 (by decide) (fun h => absurd h (Int32.not_le.mpr (nI_lt (b := 8) (by omega) (by decide)))) (fun _ => ?_)
      refine v_aload_n cx (tk_dc d_K_wake 18 rfl) rfl ?_
      refine v_getC cx 3 (tk_dc d_K_wake 19 rfl) f_K_23 o_K (by decide) (by rfl) ?_
      refine v_iload_n cx (tk_dc d_K_wake 20 rfl) rfl ?_
      refine w_aald cx (sN x) (tk_dc d_K_wake 21 rfl) o_ss x (rfl) (by omega) (by decide) (rfl) ?_
      refine v_getC cx (sN _ + 1) (tk_dc d_K_wake 22 rfl) f_K_126 (o_S (by assumption)) (by decide) (by rfl) ?_
      refine v_iload_n cx (tk_dc d_K_wake 23 rfl) rfl ?_
      refine w_aald cx (eN x j) (tk_dc d_K_wake 24 rfl) (o_S1 hs) j (rfl) (by omega) (by decide) (rfl) ?_
      refine v_astore (lo' := [_, _, _, _, _]) cx (tk_dc d_K_wake 25 rfl) (by decide) rfl ?_
      refine v_aload_n cx (tk_dc d_K_wake 26 rfl) rfl ?_
      refine v_aload cx (tk_dc d_K_wake 27 rfl) rfl ?_
      refine v_aload_n cx (tk_dc d_K_wake 28 rfl) rfl ?_
      refine v_getC cx 2 (tk_dc d_K_wake 29 rfl) f_K_17 o_K (by decide) (by rfl) ?_
      refine v_iload_n cx (tk_dc d_K_wake 30 rfl) rfl ?_
      refine w_aald cx (jN j) (tk_dc d_K_wake 31 rfl) o_js j (rfl) (by omega) (by decide) (rfl) ?_
      refine v_callV (rest := _) cx (tk_dc d_K_wake 32 rfl) m_K_130 kn_K_hasWork kv_K_hasWork k_K_hasWork o_K (by decide) rfl (c_K_hasWork hs hj8 ((hG j hj8).ck hck) hnw1 hn0 hn1 rm) rfl rfl (Nat.le_of_ble_eq_true rfl) (by decide) ?_
      refine v_if_eq cx (tk_dc d_K_wake 33 rfl) 75 (by decide) (fun h56 => ?_) (fun h56 => ?_)
      · have g56 := b01_z h56
        have ew : k_wk G nw x M cn (j + 1) = S := by rw [hn]; unfold k_wk1; rw [if_neg (by rw [g56]; decide)]
        refine v_iinc (lo' := [_, _, _, _, _]) cx (tk_dc d_K_wake 43 rfl) rfl (nI (j + 1)) ((nI_succ j).symm) (by decide) rfl ?_
        refine v_goto cx (tk_dc d_K_wake 44 rfl) 25 (by decide) ?_
        exact ih (j + 1) S.2.2 _ _ (by omega) (by rw [ew]) (by rw [ew])
      · have g56 := b01_nz h56
        refine v_aload cx (tk_dc d_K_wake 34 rfl) rfl ?_
        refine v_iload_n cx (tk_dc d_K_wake 35 rfl) rfl ?_
        refine v_callV (rest := _) cx (tk_dc d_K_wake 36 rfl) m_K_134 kn_E_beginRound kv_E_beginRound k_E_beginRound (o_E hs hj8) (by decide) rfl (c_E_beginRound (o_E hs hj8)) rfl rfl (Nat.le_of_ble_eq_true rfl) (by decide) ?_
        refine v_aload_n cx (tk_dc d_K_wake 37 rfl) rfl ?_
        refine v_iconst cx (tk_dc d_K_wake 38 rfl) (0) (by decide) ?_
        refine v_iload_n cx (tk_dc d_K_wake 39 rfl) rfl ?_
        refine v_iload_n cx (tk_dc d_K_wake 40 rfl) rfl ?_
        refine v_callV (rest := _) cx (tk_dc d_K_wake 41 rfl) m_K_140 kn_K_sendToOthers kv_K_sendToOthers k_K_sendToOthers o_K (by decide) rfl (c_K_sendToOthers (hS.beg (by have := eN_ge x j; omega)) hs hj8) rfl rfl (Nat.le_of_ble_eq_true rfl) (by decide) ?_
        refine v_iinc (lo' := [_, _, _, _, _]) cx (tk_dc d_K_wake 42 rfl) rfl (nI (S.2.2 + 1)) ((nI_succ _).symm) (by decide) rfl ?_
        refine v_iinc (lo' := [_, _, _, _, _]) cx (tk_dc d_K_wake 43 rfl) rfl (nI (j + 1)) ((nI_succ j).symm) (by decide) rfl ?_
        refine v_goto cx (tk_dc d_K_wake 44 rfl) 25 (by decide) ?_
        exact ih (j + 1) (S.2.2 + 1) _ _ (by omega) (by rw [hn]; unfold k_wk1; rw [if_pos g56]; rfl) (by rw [hn]; unfold k_wk1; rw [if_pos g56])
  refine v_iload_n cx (tk_dc d_K_wake 0 rfl) rfl ?_
  refine v_callS (rest := _) cx (tk_dc d_K_wake 1 rfl) m_K_120 ks_K_isScheduler k_K_isScheduler (c_K_isScheduler) rfl rfl (Nat.le_of_ble_eq_true rfl) (by decide) ?_
  refine v_if_eq cx (tk_dc d_K_wake 2 rfl) 19 (by decide) (fun h => absurd h (b01_d (inN (n := 3) (by decide) hs))) (fun _ => ?_)
  refine v_aload_n cx (tk_dc d_K_wake 3 rfl) rfl ?_
  refine v_getC cx 3 (tk_dc d_K_wake 4 rfl) f_K_23 o_K (by decide) (by rfl) ?_
  refine v_iload_n cx (tk_dc d_K_wake 5 rfl) rfl ?_
  refine w_aald cx (sN x) (tk_dc d_K_wake 6 rfl) o_ss x (rfl) (by omega) (by decide) (rfl) ?_
  refine v_getI cx (tk_dc d_K_wake 7 rfl) f_K_123 (o_S (by assumption)) (by decide) (by rfl) ?_
  refine v_if_ne cx (tk_dc d_K_wake 8 rfl) 21 (by decide) (fun _ => ?_) (fun h => absurd h (hu))
  refine v_iconst cx (tk_dc d_K_wake 11 rfl) (0) (by decide) ?_
  refine v_istore_n (lo' := [_, _, _, _, _]) cx (tk_dc d_K_wake 12 rfl) (by decide) rfl ?_
  refine v_iconst cx (tk_dc d_K_wake 13 rfl) (0) (by decide) ?_
  refine v_istore_n (lo' := [_, _, _, _, _]) cx (tk_dc d_K_wake 14 rfl) (by decide) rfl ?_
  exact loop 8 0 0 M _ rfl rfl rfl

theorem e_end_q {M : tk_M} {x j q b : Nat} (hq : q < 70) : (e_end M (eN x j)).1 q b = M.1 q b := e_end_at (by have := eN_ge x j; omega)
theorem k_h0_q {M : tk_M} {c q f t j : Nat} (hp : po M c) (hq8 : 9 ≤ q) (hq7 : q < 70) (hrow : ∀ b, b < 60 → M.2.2 7 b ≠ q) (b : Nat) : (k_h0 M c q f t j).1 q b = M.1 q b := by
  unfold k_h0
  split
  · exact (k_snd_q (M := wI M (eN t j) 0 (M.1 q 4)) (show q ≠ p_q M c from hp.ne (by omega) hrow) (by omega)).trans (wI_ne (by have := eN_ge t j; omega))
  · rfl
theorem k_h2_q {M : tk_M} {c q f t j : Nat} (hp : po M c) (hq8 : 9 ≤ q) (hq7 : q < 70) (hrow : ∀ b, b < 60 → M.2.2 7 b ≠ q) (b : Nat) : (k_h2 M c q f t j).1 q b = M.1 q b := by
  unfold k_h2
  split
  · exact (k_snd_q (M := e_acc M (eN t j) (M.1 q 4) (M.1 q 5) (M.1 q 6)) (show q ≠ p_q M c from hp.ne (by omega) hrow) (by omega)).trans (e_acc_at (by have := eN_ge t j; omega))
  · rfl
theorem k_h3_q {M : tk_M} {c q t j : Nat} (hp : po M c) (hq8 : 9 ≤ q) (hq7 : q < 70) (hrow : ∀ b, b < 60 → M.2.2 7 b ≠ q) (b : Nat) : (k_h3 M c q t j).1 q b = M.1 q b := by
  unfold k_h3
  split
  · exact (k_snd_q (M := wI M (eN t j) 5 3) (show q ≠ p_q M c from hp.ne (by omega) hrow) (by omega)).trans (wI_ne (by have := eN_ge t j; omega))
  · rfl
theorem k_h4_q {M : tk_M} {c q t j : Nat} (hp : po M c) (hq8 : 9 ≤ q) (hq7 : q < 70) (hrow : ∀ b, b < 60 → M.2.2 7 b ≠ q) (b : Nat) : (k_h4 M c q t j).1 q b = M.1 q b := by
  have e : (n_ent M (jN j + 4) (M.1 q 5) (M.1 q 6)).1 q b = M.1 q b := n_ent_at (by unfold jN; omega) (by unfold jN; omega) (by unfold jN; omega)
  unfold k_h4
  split
  · exact e
  · rw [k_oth_q (hp.ent (by unfold jN; omega)) (by omega) (by omega) (by rw [n_ent_2]; exact hrow)]
    exact e
theorem k_pm3_q {M : tk_M} {G : Nat → gJ} {c q t j : Nat} {y be : Int32} (hp : po M c) (hq8 : 9 ≤ q) (hq7 : q < 70) (hrow : ∀ b, b < 60 → M.2.2 7 b ≠ q) (b : Nat) : (k_pm3 G M c t j y be).1 q b = M.1 q b := by
  unfold k_pm3
  split
  · exact e_end_q hq7
  · rw [k_oth_q (hp.clm (by have := eN_ge t j; omega)) (by omega) (by omega) hrow, e_clm_at (by have := eN_ge t j; omega)]
theorem k_h1_q {M : tk_M} {G : Nat → gJ} {nw : Int} {c q t j : Nat} (hp : po M c) (hq8 : 9 ≤ q) (hq7 : q < 70) (hrow : ∀ b, b < 60 → M.2.2 7 b ≠ q) (b : Nat) : (k_h1 G nw M c q t j).1 q b = M.1 q b := by
  unfold k_h1
  split
  · exact k_pm3_q hp hq8 hq7 hrow b
  · rfl
def k_heard (M : tk_M) (i c t : Nat) (N : tk_M) : tk_M := if M.1 (sN t) 1 = 0 then p_tk M i c else N
set_option maxHeartbeats 4000000 in
set_option maxRecDepth 100000 in
theorem n_K_deliver {l : Launch} {E : tk_E} {M : tk_M} {cn : Nat} {x : Int32} (hp : po M cn) (hb : ¬ (¬ x < 0 ∧ x < nI cn)) : tk_Mt l y_K_deliver b_K_deliver 3 (some .int) 7 E [.ref (E.1 + 0), .int (x)] M M (some (.int (-1))) := by
  refine tk_ofV (by decide +kernel) [some (.ref (E.1 + 0)), some (.int (x)), none] rfl (Nat.le_of_ble_eq_true rfl) ?_
  intro p e s m args below meth c cx hB
  refine v_aload_n cx (tk_dc d_K_deliver 0 rfl) rfl ?_
  refine v_getC cx 6 (tk_dc d_K_deliver 1 rfl) f_K_40 o_K (by decide) (by rfl) ?_
  refine v_iload_n cx (tk_dc d_K_deliver 2 rfl) rfl ?_
  refine v_callV (rest := _) cx (tk_dc d_K_deliver 3 rfl) m_K_161 kn_P_holds kv_P_holds k_P_holds o_P (by decide) rfl (c_P_holds) rfl rfl (Nat.le_of_ble_eq_true rfl) (by decide) ?_
  rw [hp.2.1]
  refine v_if_ne cx (tk_dc d_K_deliver 4 rfl) 13 (by decide) (fun h8 => ?_) (fun h8 => ?_)
  · exact absurd (of_decide_eq_true (b01_nz h8)) hb
  · refine v_iconst cx (tk_dc d_K_deliver 5 rfl) (-1) (by decide) ?_
    exact v_iret cx hB (tk_dc d_K_deliver 6 rfl) (rfl) (rfl)

set_option maxHeartbeats 4000000 in
set_option maxRecDepth 100000 in
theorem c_K_deliver0 {l : Launch} {E : tk_E} {M : tk_M} {cn i q t j f : Nat}  (hp : po M cn) (hi : i < cn) (hq : M.2.2 7 i = q) (hl0 : M.1 q 0 = nI 0) (hl1 : M.1 q 1 = nI f) (hl2 : M.1 q 2 = nI t) (hl3 : M.1 q 3 = nI j) (hs : t < 3) (hj : j < 8) (h01 : M.1 (sN t) 1 = 0 ∨ M.1 (sN t) 1 = 1)  : tk_Mt l y_K_deliver b_K_deliver 3 (some .int) 7 E [.ref (E.1 + 0), .int (nI i)] M (if M.1 (sN t) 1 = 0 then (p_tk M i cn) else k_h0 (p_tk M i cn) (cn - 1) q f t j) (some (.int (nI 0))) := by
  refine tk_ofV (by decide +kernel) [some (.ref (E.1 + 0)), some (.int (nI i)), none] rfl (Nat.le_of_ble_eq_true rfl) ?_
  intro p e s m args below meth c cx hB
  have hc6 := hp.1
  have hq8 : 9 ≤ q := by rw [← hq]; exact (hp.2.2.1 i (by omega)).1
  have hq7 : q < 70 := by rw [← hq]; exact (hp.2.2.1 i (by omega)).2
  have hp1 := (hp.tk hi).1
  have hrow : ∀ b, b < 60 → (p_tk M i cn).2.2 7 b ≠ q := by rw [← hq]; exact (hp.tk hi).2
  refine v_aload_n cx (tk_dc d_K_deliver 0 rfl) rfl ?_
  refine v_getC cx 6 (tk_dc d_K_deliver 1 rfl) f_K_40 o_K (by decide) (by rfl) ?_
  refine v_iload_n cx (tk_dc d_K_deliver 2 rfl) rfl ?_
  refine v_callV (rest := _) cx (tk_dc d_K_deliver 3 rfl) m_K_161 kn_P_holds kv_P_holds k_P_holds o_P (by decide) rfl (c_P_holds) rfl rfl (Nat.le_of_ble_eq_true rfl) (by decide) ?_
  rw [hp.2.1]
  refine v_if_ne cx (tk_dc d_K_deliver 4 rfl) 13 (by decide) (fun _ => ?_) (fun h => absurd h (b01_d ⟨nI_pos (by omega), nI_lt hi (by omega)⟩))
  refine v_aload_n cx (tk_dc d_K_deliver 7 rfl) rfl ?_
  refine v_getC cx 6 (tk_dc d_K_deliver 8 rfl) f_K_40 o_K (by decide) (by rfl) ?_
  refine v_iload_n cx (tk_dc d_K_deliver 9 rfl) rfl ?_
  refine v_callV (rest := _) cx (tk_dc d_K_deliver 10 rfl) m_K_164 kn_P_take kv_P_take k_P_take o_P (by decide) rfl (c_P_take hp.1 hi hp.2.1 (fun b hb => by have := hp.2.2.1 b hb; omega) (fun b hb => (hp.2.2.1 b hb).2) (by have := hp.2.2.2.1; omega) hp.2.2.2.1.2) rfl rfl (Nat.le_of_ble_eq_true rfl) (by decide) ?_
  rw [hq]
  refine v_astore_n (lo' := [_, _, _]) cx (tk_dc d_K_deliver 11 rfl) (by decide) rfl ?_
  refine v_aload_n cx (tk_dc d_K_deliver 12 rfl) rfl ?_
  refine v_aload_n cx (tk_dc d_K_deliver 13 rfl) rfl ?_
  refine v_callV (rest := _) cx (tk_dc d_K_deliver 14 rfl) m_K_168 kn_K_isHeard kv_K_isHeard k_K_isHeard o_K (by decide) rfl (c_K_isHeard (M := (p_tk M i cn)) (kd := 0) hq8 hq7 ((p_tk_at (by omega)).trans hl0) (by decide) (by decide) ((p_tk_at (by omega)).trans hl2) hs (by rw [p_tk_at (by unfold sN; omega)]; exact h01)) rfl rfl (Nat.le_of_ble_eq_true rfl) (by decide) ?_
  refine v_eqi (M.1 (sN t) 1) (p_tk_at (by unfold sN; omega)) ?_
  refine v_if_ne cx (tk_dc d_K_deliver 15 rfl) 35 (by decide) (fun h27 => ?_) (fun h27 => ?_)
  · have g27 : ¬ M.1 (sN t) 1 = 0 := h27
    refine v_aload_n cx (tk_dc d_K_deliver 19 rfl) rfl ?_
    refine v_getI cx (tk_dc d_K_deliver 20 rfl) f_K_172 (o_L (by omega) hq7) (by decide) (by rfl) ?_
    refine v_eqi (nI 0) ((p_tk_at (by omega)).trans hl0) ?_
    refine v_tin cx (tk_dc d_K_deliver 21 rfl) 72 (by decide) (by decide) rfl (by decide) ?_
    refine v_aload_n cx (tk_dc d_K_deliver 22 rfl) rfl ?_
    refine v_aload_n cx (tk_dc d_K_deliver 23 rfl) rfl ?_
    refine v_callV (rest := _) cx (tk_dc d_K_deliver 24 rfl) m_K_177 kn_K_hearPrepare kv_K_hearPrepare k_K_hearPrepare o_K (by decide) rfl (c_K_hearPrepare hp1 hq8 hq7 ((p_tk_at (by omega)).trans hl1) ((p_tk_at (by omega)).trans hl2) ((p_tk_at (by omega)).trans hl3) hs hj hrow) rfl rfl (Nat.le_of_ble_eq_true rfl) (by decide) ?_
    refine v_goto cx (tk_dc d_K_deliver 25 rfl) 124 (by decide) ?_
    refine v_aload_n cx (tk_dc d_K_deliver 48 rfl) rfl ?_
    refine v_getI cx (tk_dc d_K_deliver 49 rfl) f_K_172 (o_L (by omega) hq7) (by decide) (by rfl) ?_
    refine v_eqi (nI 0) ((k_h0_q hp1 hq8 hq7 hrow 0).trans ((p_tk_at (by omega)).trans hl0)) ?_
    exact v_iret cx hB (tk_dc d_K_deliver 50 rfl) (rfl) (by rw [if_neg g27])
  · have g27 : M.1 (sN t) 1 = 0 := h27
    refine v_aload_n cx (tk_dc d_K_deliver 16 rfl) rfl ?_
    refine v_getI cx (tk_dc d_K_deliver 17 rfl) f_K_172 (o_L (by omega) hq7) (by decide) (by rfl) ?_
    refine v_eqi (nI 0) ((p_tk_at (by omega)).trans hl0) ?_
    exact v_iret cx hB (tk_dc d_K_deliver 18 rfl) (rfl) (by rw [if_pos g27])

set_option maxHeartbeats 4000000 in
set_option maxRecDepth 100000 in
theorem c_K_deliver2 {l : Launch} {E : tk_E} {M : tk_M} {cn i q t j f : Nat}  (hp : po M cn) (hi : i < cn) (hq : M.2.2 7 i = q) (hl0 : M.1 q 0 = nI 2) (hl1 : M.1 q 1 = nI f) (hl2 : M.1 q 2 = nI t) (hl3 : M.1 q 3 = nI j) (hs : t < 3) (hj : j < 8) (h01 : M.1 (sN t) 1 = 0 ∨ M.1 (sN t) 1 = 1)  : tk_Mt l y_K_deliver b_K_deliver 3 (some .int) 7 E [.ref (E.1 + 0), .int (nI i)] M (if M.1 (sN t) 1 = 0 then (p_tk M i cn) else k_h2 (p_tk M i cn) (cn - 1) q f t j) (some (.int (nI 2))) := by
  refine tk_ofV (by decide +kernel) [some (.ref (E.1 + 0)), some (.int (nI i)), none] rfl (Nat.le_of_ble_eq_true rfl) ?_
  intro p e s m args below meth c cx hB
  have hc6 := hp.1
  have hq8 : 9 ≤ q := by rw [← hq]; exact (hp.2.2.1 i (by omega)).1
  have hq7 : q < 70 := by rw [← hq]; exact (hp.2.2.1 i (by omega)).2
  have hp1 := (hp.tk hi).1
  have hrow : ∀ b, b < 60 → (p_tk M i cn).2.2 7 b ≠ q := by rw [← hq]; exact (hp.tk hi).2
  refine v_aload_n cx (tk_dc d_K_deliver 0 rfl) rfl ?_
  refine v_getC cx 6 (tk_dc d_K_deliver 1 rfl) f_K_40 o_K (by decide) (by rfl) ?_
  refine v_iload_n cx (tk_dc d_K_deliver 2 rfl) rfl ?_
  refine v_callV (rest := _) cx (tk_dc d_K_deliver 3 rfl) m_K_161 kn_P_holds kv_P_holds k_P_holds o_P (by decide) rfl (c_P_holds) rfl rfl (Nat.le_of_ble_eq_true rfl) (by decide) ?_
  rw [hp.2.1]
  refine v_if_ne cx (tk_dc d_K_deliver 4 rfl) 13 (by decide) (fun _ => ?_) (fun h => absurd h (b01_d ⟨nI_pos (by omega), nI_lt hi (by omega)⟩))
  refine v_aload_n cx (tk_dc d_K_deliver 7 rfl) rfl ?_
  refine v_getC cx 6 (tk_dc d_K_deliver 8 rfl) f_K_40 o_K (by decide) (by rfl) ?_
  refine v_iload_n cx (tk_dc d_K_deliver 9 rfl) rfl ?_
  refine v_callV (rest := _) cx (tk_dc d_K_deliver 10 rfl) m_K_164 kn_P_take kv_P_take k_P_take o_P (by decide) rfl (c_P_take hp.1 hi hp.2.1 (fun b hb => by have := hp.2.2.1 b hb; omega) (fun b hb => (hp.2.2.1 b hb).2) (by have := hp.2.2.2.1; omega) hp.2.2.2.1.2) rfl rfl (Nat.le_of_ble_eq_true rfl) (by decide) ?_
  rw [hq]
  refine v_astore_n (lo' := [_, _, _]) cx (tk_dc d_K_deliver 11 rfl) (by decide) rfl ?_
  refine v_aload_n cx (tk_dc d_K_deliver 12 rfl) rfl ?_
  refine v_aload_n cx (tk_dc d_K_deliver 13 rfl) rfl ?_
  refine v_callV (rest := _) cx (tk_dc d_K_deliver 14 rfl) m_K_168 kn_K_isHeard kv_K_isHeard k_K_isHeard o_K (by decide) rfl (c_K_isHeard (M := (p_tk M i cn)) (kd := 2) hq8 hq7 ((p_tk_at (by omega)).trans hl0) (by decide) (by decide) ((p_tk_at (by omega)).trans hl2) hs (by rw [p_tk_at (by unfold sN; omega)]; exact h01)) rfl rfl (Nat.le_of_ble_eq_true rfl) (by decide) ?_
  refine v_eqi (M.1 (sN t) 1) (p_tk_at (by unfold sN; omega)) ?_
  refine v_if_ne cx (tk_dc d_K_deliver 15 rfl) 35 (by decide) (fun h27 => ?_) (fun h27 => ?_)
  · have g27 : ¬ M.1 (sN t) 1 = 0 := h27
    refine v_aload_n cx (tk_dc d_K_deliver 19 rfl) rfl ?_
    refine v_getI cx (tk_dc d_K_deliver 20 rfl) f_K_172 (o_L (by omega) hq7) (by decide) (by rfl) ?_
    refine v_eqi (nI 2) ((p_tk_at (by omega)).trans hl0) ?_
    refine v_tin cx (tk_dc d_K_deliver 21 rfl) 88 (by decide) (by decide) rfl (by decide) ?_
    refine v_aload_n cx (tk_dc d_K_deliver 30 rfl) rfl ?_
    refine v_aload_n cx (tk_dc d_K_deliver 31 rfl) rfl ?_
    refine v_callV (rest := _) cx (tk_dc d_K_deliver 32 rfl) m_K_184 kn_K_hearAccept kv_K_hearAccept k_K_hearAccept o_K (by decide) rfl (c_K_hearAccept hp1 hq8 hq7 ((p_tk_at (by omega)).trans hl1) ((p_tk_at (by omega)).trans hl2) ((p_tk_at (by omega)).trans hl3) hs hj hrow) rfl rfl (Nat.le_of_ble_eq_true rfl) (by decide) ?_
    refine v_goto cx (tk_dc d_K_deliver 33 rfl) 124 (by decide) ?_
    refine v_aload_n cx (tk_dc d_K_deliver 48 rfl) rfl ?_
    refine v_getI cx (tk_dc d_K_deliver 49 rfl) f_K_172 (o_L (by omega) hq7) (by decide) (by rfl) ?_
    refine v_eqi (nI 2) ((k_h2_q hp1 hq8 hq7 hrow 0).trans ((p_tk_at (by omega)).trans hl0)) ?_
    exact v_iret cx hB (tk_dc d_K_deliver 50 rfl) (rfl) (by rw [if_neg g27])
  · have g27 : M.1 (sN t) 1 = 0 := h27
    refine v_aload_n cx (tk_dc d_K_deliver 16 rfl) rfl ?_
    refine v_getI cx (tk_dc d_K_deliver 17 rfl) f_K_172 (o_L (by omega) hq7) (by decide) (by rfl) ?_
    refine v_eqi (nI 2) ((p_tk_at (by omega)).trans hl0) ?_
    exact v_iret cx hB (tk_dc d_K_deliver 18 rfl) (rfl) (by rw [if_pos g27])

set_option maxHeartbeats 4000000 in
set_option maxRecDepth 100000 in
theorem c_K_deliver3 {l : Launch} {E : tk_E} {M : tk_M} {cn i q t j : Nat}  (hp : po M cn) (hi : i < cn) (hq : M.2.2 7 i = q) (hl0 : M.1 q 0 = nI 3) (hl2 : M.1 q 2 = nI t) (hl3 : M.1 q 3 = nI j) (hs : t < 3) (hj : j < 8) (h01 : M.1 (sN t) 1 = 0 ∨ M.1 (sN t) 1 = 1)  : tk_Mt l y_K_deliver b_K_deliver 3 (some .int) 7 E [.ref (E.1 + 0), .int (nI i)] M (if M.1 (sN t) 1 = 0 then (p_tk M i cn) else k_h3 (p_tk M i cn) (cn - 1) q t j) (some (.int (nI 3))) := by
  refine tk_ofV (by decide +kernel) [some (.ref (E.1 + 0)), some (.int (nI i)), none] rfl (Nat.le_of_ble_eq_true rfl) ?_
  intro p e s m args below meth c cx hB
  have hc6 := hp.1
  have hq8 : 9 ≤ q := by rw [← hq]; exact (hp.2.2.1 i (by omega)).1
  have hq7 : q < 70 := by rw [← hq]; exact (hp.2.2.1 i (by omega)).2
  have hp1 := (hp.tk hi).1
  have hrow : ∀ b, b < 60 → (p_tk M i cn).2.2 7 b ≠ q := by rw [← hq]; exact (hp.tk hi).2
  refine v_aload_n cx (tk_dc d_K_deliver 0 rfl) rfl ?_
  refine v_getC cx 6 (tk_dc d_K_deliver 1 rfl) f_K_40 o_K (by decide) (by rfl) ?_
  refine v_iload_n cx (tk_dc d_K_deliver 2 rfl) rfl ?_
  refine v_callV (rest := _) cx (tk_dc d_K_deliver 3 rfl) m_K_161 kn_P_holds kv_P_holds k_P_holds o_P (by decide) rfl (c_P_holds) rfl rfl (Nat.le_of_ble_eq_true rfl) (by decide) ?_
  rw [hp.2.1]
  refine v_if_ne cx (tk_dc d_K_deliver 4 rfl) 13 (by decide) (fun _ => ?_) (fun h => absurd h (b01_d ⟨nI_pos (by omega), nI_lt hi (by omega)⟩))
  refine v_aload_n cx (tk_dc d_K_deliver 7 rfl) rfl ?_
  refine v_getC cx 6 (tk_dc d_K_deliver 8 rfl) f_K_40 o_K (by decide) (by rfl) ?_
  refine v_iload_n cx (tk_dc d_K_deliver 9 rfl) rfl ?_
  refine v_callV (rest := _) cx (tk_dc d_K_deliver 10 rfl) m_K_164 kn_P_take kv_P_take k_P_take o_P (by decide) rfl (c_P_take hp.1 hi hp.2.1 (fun b hb => by have := hp.2.2.1 b hb; omega) (fun b hb => (hp.2.2.1 b hb).2) (by have := hp.2.2.2.1; omega) hp.2.2.2.1.2) rfl rfl (Nat.le_of_ble_eq_true rfl) (by decide) ?_
  rw [hq]
  refine v_astore_n (lo' := [_, _, _]) cx (tk_dc d_K_deliver 11 rfl) (by decide) rfl ?_
  refine v_aload_n cx (tk_dc d_K_deliver 12 rfl) rfl ?_
  refine v_aload_n cx (tk_dc d_K_deliver 13 rfl) rfl ?_
  refine v_callV (rest := _) cx (tk_dc d_K_deliver 14 rfl) m_K_168 kn_K_isHeard kv_K_isHeard k_K_isHeard o_K (by decide) rfl (c_K_isHeard (M := (p_tk M i cn)) (kd := 3) hq8 hq7 ((p_tk_at (by omega)).trans hl0) (by decide) (by decide) ((p_tk_at (by omega)).trans hl2) hs (by rw [p_tk_at (by unfold sN; omega)]; exact h01)) rfl rfl (Nat.le_of_ble_eq_true rfl) (by decide) ?_
  refine v_eqi (M.1 (sN t) 1) (p_tk_at (by unfold sN; omega)) ?_
  refine v_if_ne cx (tk_dc d_K_deliver 15 rfl) 35 (by decide) (fun h27 => ?_) (fun h27 => ?_)
  · have g27 : ¬ M.1 (sN t) 1 = 0 := h27
    refine v_aload_n cx (tk_dc d_K_deliver 19 rfl) rfl ?_
    refine v_getI cx (tk_dc d_K_deliver 20 rfl) f_K_172 (o_L (by omega) hq7) (by decide) (by rfl) ?_
    refine v_eqi (nI 3) ((p_tk_at (by omega)).trans hl0) ?_
    refine v_tin cx (tk_dc d_K_deliver 21 rfl) 96 (by decide) (by decide) rfl (by decide) ?_
    refine v_aload_n cx (tk_dc d_K_deliver 34 rfl) rfl ?_
    refine v_aload_n cx (tk_dc d_K_deliver 35 rfl) rfl ?_
    refine v_callV (rest := _) cx (tk_dc d_K_deliver 36 rfl) m_K_187 kn_K_hearAccepted kv_K_hearAccepted k_K_hearAccepted o_K (by decide) rfl (c_K_hearAccepted hp1 hq8 hq7 ((p_tk_at (by omega)).trans hl2) ((p_tk_at (by omega)).trans hl3) hs hj hrow) rfl rfl (Nat.le_of_ble_eq_true rfl) (by decide) ?_
    refine v_goto cx (tk_dc d_K_deliver 37 rfl) 124 (by decide) ?_
    refine v_aload_n cx (tk_dc d_K_deliver 48 rfl) rfl ?_
    refine v_getI cx (tk_dc d_K_deliver 49 rfl) f_K_172 (o_L (by omega) hq7) (by decide) (by rfl) ?_
    refine v_eqi (nI 3) ((k_h3_q hp1 hq8 hq7 hrow 0).trans ((p_tk_at (by omega)).trans hl0)) ?_
    exact v_iret cx hB (tk_dc d_K_deliver 50 rfl) (rfl) (by rw [if_neg g27])
  · have g27 : M.1 (sN t) 1 = 0 := h27
    refine v_aload_n cx (tk_dc d_K_deliver 16 rfl) rfl ?_
    refine v_getI cx (tk_dc d_K_deliver 17 rfl) f_K_172 (o_L (by omega) hq7) (by decide) (by rfl) ?_
    refine v_eqi (nI 3) ((p_tk_at (by omega)).trans hl0) ?_
    exact v_iret cx hB (tk_dc d_K_deliver 18 rfl) (rfl) (by rw [if_pos g27])

set_option maxHeartbeats 4000000 in
set_option maxRecDepth 100000 in
theorem c_K_deliver4 {l : Launch} {E : tk_E} {M : tk_M} {cn i q t j k : Nat}  (hp : po M cn) (hi : i < cn) (hq : M.2.2 7 i = q) (hl0 : M.1 q 0 = nI 4) (hl2 : M.1 q 2 = nI t) (hl3 : M.1 q 3 = nI j) (ht : t < 2) (hj : j < 8) (h01 : M.1 4 t = 0 ∨ M.1 4 t = 1) (hk : k ≤ 40) (hc : M.1 (jN j + 4) 2 = nI k)  : tk_Mt l y_K_deliver b_K_deliver 3 (some .int) 7 E [.ref (E.1 + 0), .int (nI i)] M (if M.1 4 t = 0 then (p_tk M i cn) else k_h4 (p_tk M i cn) (cn - 1) q t j) (some (.int (nI 4))) := by
  refine tk_ofV (by decide +kernel) [some (.ref (E.1 + 0)), some (.int (nI i)), none] rfl (Nat.le_of_ble_eq_true rfl) ?_
  intro p e s m args below meth c cx hB
  have hc6 := hp.1
  have hq8 : 9 ≤ q := by rw [← hq]; exact (hp.2.2.1 i (by omega)).1
  have hq7 : q < 70 := by rw [← hq]; exact (hp.2.2.1 i (by omega)).2
  have hp1 := (hp.tk hi).1
  have hrow : ∀ b, b < 60 → (p_tk M i cn).2.2 7 b ≠ q := by rw [← hq]; exact (hp.tk hi).2
  refine v_aload_n cx (tk_dc d_K_deliver 0 rfl) rfl ?_
  refine v_getC cx 6 (tk_dc d_K_deliver 1 rfl) f_K_40 o_K (by decide) (by rfl) ?_
  refine v_iload_n cx (tk_dc d_K_deliver 2 rfl) rfl ?_
  refine v_callV (rest := _) cx (tk_dc d_K_deliver 3 rfl) m_K_161 kn_P_holds kv_P_holds k_P_holds o_P (by decide) rfl (c_P_holds) rfl rfl (Nat.le_of_ble_eq_true rfl) (by decide) ?_
  rw [hp.2.1]
  refine v_if_ne cx (tk_dc d_K_deliver 4 rfl) 13 (by decide) (fun _ => ?_) (fun h => absurd h (b01_d ⟨nI_pos (by omega), nI_lt hi (by omega)⟩))
  refine v_aload_n cx (tk_dc d_K_deliver 7 rfl) rfl ?_
  refine v_getC cx 6 (tk_dc d_K_deliver 8 rfl) f_K_40 o_K (by decide) (by rfl) ?_
  refine v_iload_n cx (tk_dc d_K_deliver 9 rfl) rfl ?_
  refine v_callV (rest := _) cx (tk_dc d_K_deliver 10 rfl) m_K_164 kn_P_take kv_P_take k_P_take o_P (by decide) rfl (c_P_take hp.1 hi hp.2.1 (fun b hb => by have := hp.2.2.1 b hb; omega) (fun b hb => (hp.2.2.1 b hb).2) (by have := hp.2.2.2.1; omega) hp.2.2.2.1.2) rfl rfl (Nat.le_of_ble_eq_true rfl) (by decide) ?_
  rw [hq]
  refine v_astore_n (lo' := [_, _, _]) cx (tk_dc d_K_deliver 11 rfl) (by decide) rfl ?_
  refine v_aload_n cx (tk_dc d_K_deliver 12 rfl) rfl ?_
  refine v_aload_n cx (tk_dc d_K_deliver 13 rfl) rfl ?_
  refine v_callV (rest := _) cx (tk_dc d_K_deliver 14 rfl) m_K_168 kn_K_isHeard kv_K_isHeard k_K_isHeard o_K (by decide) rfl (c_K_isHeard4 (M := (p_tk M i cn)) hq8 hq7 ((p_tk_at (by omega)).trans hl0) ((p_tk_at (by omega)).trans hl2) ht (by rw [p_tk_at (by omega)]; exact h01)) rfl rfl (Nat.le_of_ble_eq_true rfl) (by decide) ?_
  refine v_eqi (M.1 4 t) (p_tk_at (by omega)) ?_
  refine v_if_ne cx (tk_dc d_K_deliver 15 rfl) 35 (by decide) (fun h27 => ?_) (fun h27 => ?_)
  · have g27 : ¬ M.1 4 t = 0 := h27
    refine v_aload_n cx (tk_dc d_K_deliver 19 rfl) rfl ?_
    refine v_getI cx (tk_dc d_K_deliver 20 rfl) f_K_172 (o_L (by omega) hq7) (by decide) (by rfl) ?_
    refine v_eqi (nI 4) ((p_tk_at (by omega)).trans hl0) ?_
    refine v_tin cx (tk_dc d_K_deliver 21 rfl) 104 (by decide) (by decide) rfl (by decide) ?_
    refine v_aload_n cx (tk_dc d_K_deliver 38 rfl) rfl ?_
    refine v_aload_n cx (tk_dc d_K_deliver 39 rfl) rfl ?_
    refine v_callV (rest := _) cx (tk_dc d_K_deliver 40 rfl) m_K_190 kn_K_hearEffect kv_K_hearEffect k_K_hearEffect o_K (by decide) rfl (c_K_hearEffect hp1 hq8 hq7 ((p_tk_at (by omega)).trans hl2) ((p_tk_at (by omega)).trans hl3) hj hk ((p_tk_at (by unfold jN; omega)).trans hc) hrow) rfl rfl (Nat.le_of_ble_eq_true rfl) (by decide) ?_
    refine v_goto cx (tk_dc d_K_deliver 41 rfl) 124 (by decide) ?_
    refine v_aload_n cx (tk_dc d_K_deliver 48 rfl) rfl ?_
    refine v_getI cx (tk_dc d_K_deliver 49 rfl) f_K_172 (o_L (by omega) hq7) (by decide) (by rfl) ?_
    refine v_eqi (nI 4) ((k_h4_q hp1 hq8 hq7 hrow 0).trans ((p_tk_at (by omega)).trans hl0)) ?_
    exact v_iret cx hB (tk_dc d_K_deliver 50 rfl) (rfl) (by rw [if_neg g27])
  · have g27 : M.1 4 t = 0 := h27
    refine v_aload_n cx (tk_dc d_K_deliver 16 rfl) rfl ?_
    refine v_getI cx (tk_dc d_K_deliver 17 rfl) f_K_172 (o_L (by omega) hq7) (by decide) (by rfl) ?_
    refine v_eqi (nI 4) ((p_tk_at (by omega)).trans hl0) ?_
    exact v_iret cx hB (tk_dc d_K_deliver 18 rfl) (rfl) (by rw [if_pos g27])

set_option maxHeartbeats 4000000 in
set_option maxRecDepth 100000 in
theorem c_K_deliver5 {l : Launch} {E : tk_E} {M : tk_M} {cn i q t j : Nat}  (hp : po M cn) (hi : i < cn) (hq : M.2.2 7 i = q) (hl0 : M.1 q 0 = nI 5) (hl2 : M.1 q 2 = nI t) (hl3 : M.1 q 3 = nI j) (hs : t < 3) (hj : j < 8) (h01 : M.1 (sN t) 1 = 0 ∨ M.1 (sN t) 1 = 1)  : tk_Mt l y_K_deliver b_K_deliver 3 (some .int) 7 E [.ref (E.1 + 0), .int (nI i)] M (if M.1 (sN t) 1 = 0 then (p_tk M i cn) else e_lrn (p_tk M i cn) (eN t j) (M.1 q 5)) (some (.int (nI 5))) := by
  refine tk_ofV (by decide +kernel) [some (.ref (E.1 + 0)), some (.int (nI i)), none] rfl (Nat.le_of_ble_eq_true rfl) ?_
  intro p e s m args below meth c cx hB
  have hc6 := hp.1
  have hq8 : 9 ≤ q := by rw [← hq]; exact (hp.2.2.1 i (by omega)).1
  have hq7 : q < 70 := by rw [← hq]; exact (hp.2.2.1 i (by omega)).2
  have hp1 := (hp.tk hi).1
  have hrow : ∀ b, b < 60 → (p_tk M i cn).2.2 7 b ≠ q := by rw [← hq]; exact (hp.tk hi).2
  refine v_aload_n cx (tk_dc d_K_deliver 0 rfl) rfl ?_
  refine v_getC cx 6 (tk_dc d_K_deliver 1 rfl) f_K_40 o_K (by decide) (by rfl) ?_
  refine v_iload_n cx (tk_dc d_K_deliver 2 rfl) rfl ?_
  refine v_callV (rest := _) cx (tk_dc d_K_deliver 3 rfl) m_K_161 kn_P_holds kv_P_holds k_P_holds o_P (by decide) rfl (c_P_holds) rfl rfl (Nat.le_of_ble_eq_true rfl) (by decide) ?_
  rw [hp.2.1]
  refine v_if_ne cx (tk_dc d_K_deliver 4 rfl) 13 (by decide) (fun _ => ?_) (fun h => absurd h (b01_d ⟨nI_pos (by omega), nI_lt hi (by omega)⟩))
  refine v_aload_n cx (tk_dc d_K_deliver 7 rfl) rfl ?_
  refine v_getC cx 6 (tk_dc d_K_deliver 8 rfl) f_K_40 o_K (by decide) (by rfl) ?_
  refine v_iload_n cx (tk_dc d_K_deliver 9 rfl) rfl ?_
  refine v_callV (rest := _) cx (tk_dc d_K_deliver 10 rfl) m_K_164 kn_P_take kv_P_take k_P_take o_P (by decide) rfl (c_P_take hp.1 hi hp.2.1 (fun b hb => by have := hp.2.2.1 b hb; omega) (fun b hb => (hp.2.2.1 b hb).2) (by have := hp.2.2.2.1; omega) hp.2.2.2.1.2) rfl rfl (Nat.le_of_ble_eq_true rfl) (by decide) ?_
  rw [hq]
  refine v_astore_n (lo' := [_, _, _]) cx (tk_dc d_K_deliver 11 rfl) (by decide) rfl ?_
  refine v_aload_n cx (tk_dc d_K_deliver 12 rfl) rfl ?_
  refine v_aload_n cx (tk_dc d_K_deliver 13 rfl) rfl ?_
  refine v_callV (rest := _) cx (tk_dc d_K_deliver 14 rfl) m_K_168 kn_K_isHeard kv_K_isHeard k_K_isHeard o_K (by decide) rfl (c_K_isHeard (M := (p_tk M i cn)) (kd := 5) hq8 hq7 ((p_tk_at (by omega)).trans hl0) (by decide) (by decide) ((p_tk_at (by omega)).trans hl2) hs (by rw [p_tk_at (by unfold sN; omega)]; exact h01)) rfl rfl (Nat.le_of_ble_eq_true rfl) (by decide) ?_
  refine v_eqi (M.1 (sN t) 1) (p_tk_at (by unfold sN; omega)) ?_
  refine v_if_ne cx (tk_dc d_K_deliver 15 rfl) 35 (by decide) (fun h27 => ?_) (fun h27 => ?_)
  · have g27 : ¬ M.1 (sN t) 1 = 0 := h27
    refine v_aload_n cx (tk_dc d_K_deliver 19 rfl) rfl ?_
    refine v_getI cx (tk_dc d_K_deliver 20 rfl) f_K_172 (o_L (by omega) hq7) (by decide) (by rfl) ?_
    refine v_eqi (nI 5) ((p_tk_at (by omega)).trans hl0) ?_
    refine v_tout cx (tk_dc d_K_deliver 21 rfl) 112 (Or.inr (by decide)) (by decide) ?_
    refine v_aload_n cx (tk_dc d_K_deliver 42 rfl) rfl ?_
    refine v_aload_n cx (tk_dc d_K_deliver 43 rfl) rfl ?_
    refine v_callV (rest := _) cx (tk_dc d_K_deliver 44 rfl) m_K_193 kn_K_seatOf kv_K_seatOf k_K_seatOf o_K (by decide) rfl (c_K_seatOf (M := (p_tk M i cn)) hq8 hq7 ((p_tk_at (by omega)).trans hl2) ((p_tk_at (by omega)).trans hl3) hs hj) rfl rfl (Nat.le_of_ble_eq_true rfl) (by decide) ?_
    refine v_aload_n cx (tk_dc d_K_deliver 45 rfl) rfl ?_
    refine v_getI cx (tk_dc d_K_deliver 46 rfl) f_K_197 (o_L (by omega) hq7) (by decide) (by rfl) ?_
    refine v_eqi (M.1 q 5) (p_tk_at (by omega)) ?_
    refine v_callV (rest := _) cx (tk_dc d_K_deliver 47 rfl) m_K_200 kn_E_learn kv_E_learn k_E_learn (o_E hs hj) (by decide) rfl (c_E_learn (o_E hs hj)) rfl rfl (Nat.le_of_ble_eq_true rfl) (by decide) ?_
    refine v_aload_n cx (tk_dc d_K_deliver 48 rfl) rfl ?_
    refine v_getI cx (tk_dc d_K_deliver 49 rfl) f_K_172 (o_L (by omega) hq7) (by decide) (by rfl) ?_
    refine v_eqi (nI 5) ((e_lrn_at (by have := eN_ge t j; omega)).trans ((p_tk_at (by omega)).trans hl0)) ?_
    exact v_iret cx hB (tk_dc d_K_deliver 50 rfl) (rfl) (by rw [if_neg g27])
  · have g27 : M.1 (sN t) 1 = 0 := h27
    refine v_aload_n cx (tk_dc d_K_deliver 16 rfl) rfl ?_
    refine v_getI cx (tk_dc d_K_deliver 17 rfl) f_K_172 (o_L (by omega) hq7) (by decide) (by rfl) ?_
    refine v_eqi (nI 5) ((p_tk_at (by omega)).trans hl0) ?_
    exact v_iret cx hB (tk_dc d_K_deliver 18 rfl) (rfl) (by rw [if_pos g27])

theorem p_tk_ck {M : tk_M} {i c : Nat} (hj : ∀ j, j < 8 → True) : ∀ a b, 70 ≤ a → (p_tk M i c).1 a b = M.1 a b := fun a b h => p_tk_at (by omega)
theorem calK.tk {M : tk_M} {i c j : Nat} {g : gJ} (H : calK M j g) : calK (p_tk M i c) j g := by
  obtain ⟨z, h, ne, n, ρ, mv, st, os, e1, e2, e3, e4, e5, e6, e7, e8, e9⟩ := H
  have hz := e1.2.1
  have aa : ∀ a b, 70 ≤ a → (p_tk M i c).1 a b = M.1 a b := fun a b w => p_tk_at (by omega)
  have hj : 86 ≤ jN j := by unfold jN; omega
  have hZ : 70 ≤ zN z := by unfold zN; omega
  have f1 : (p_tk M i c).1 (zN z + 3) = M.1 (zN z + 3) := funext fun b => aa _ b (by omega)
  have f2 : (p_tk M i c).1 (jN j + 2) = M.1 (jN j + 2) := funext fun b => aa _ b (by omega)
  have ed : j_due (p_tk M i c) j z h ne n ρ mv st os = j_due M j z h ne n ρ mv st os := by
    unfold j_due j_jd z_fr z_hol j_exc
    rw [f1, f2]
  refine ⟨z, h, ne, n, ρ, mv, st, os, ?_, ?_, e3, (aa _ 4 (by omega)).trans e4, ed.trans e5, (aa _ 6 (by omega)).trans e6, e7, (aa _ 7 (by omega)).trans e8, e9⟩
  · unfold j_ok at e1 ⊢
    rw [p_tk_R (by omega) (by omega), show (p_tk M i c).2.1 = M.2.1 from rfl, aa _ 1 (by omega), aa _ 3 (by omega), aa _ 4 (by omega), aa _ 4 (by omega), aa _ 5 (by omega), aa _ 6 (by omega), aa (jN j) 5 (by omega)]
    exact e1
  · exact ⟨e2.1, (aa _ 3 (by omega)).trans e2.2.1, fun i hi => ⟨(aa _ i (by omega)).trans (e2.2.2 i hi).1, (aa _ i (by omega)).trans (e2.2.2 i hi).2⟩⟩
set_option maxHeartbeats 4000000 in
set_option maxRecDepth 100000 in
theorem c_K_deliver1 {l : Launch} {E : tk_E} {M : tk_M} {cn i q t j : Nat} {G : Nat → gJ} {nw : Int}  (hp : po M cn) (hi : i < cn) (hq : M.2.2 7 i = q) (hl0 : M.1 q 0 = nI 1) (hl2 : M.1 q 2 = nI t) (hl3 : M.1 q 3 = nI j) (hs : t < 3) (hj : j < 8) (h01 : M.1 (sN t) 1 = 0 ∨ M.1 (sN t) 1 = 1) (hG : ∀ i, i < 8 → calK M i (G i)) (hkn : ∀ i, i < 8 → -1 ≤ (M.1 (eN t i) 4).toInt ∧ (M.1 (eN t i) 4).toInt ≤ 52595999) (hnw : M.1 0 6 = iI nw) (hn0 : 0 ≤ nw) (hn1 : nw ≤ 52595999) (hmm : -1 ≤ (M.1 q 5).toInt ∧ (M.1 q 5).toInt ≤ 52595999) (hmo : -1 ≤ (M.1 (eN t j) 2).toInt ∧ (M.1 (eN t j) 2).toInt ≤ 52595999)  : tk_Mt l y_K_deliver b_K_deliver 3 (some .int) 7 E [.ref (E.1 + 0), .int (nI i)] M (if M.1 (sN t) 1 = 0 then (p_tk M i cn) else k_h1 G nw (p_tk M i cn) (cn - 1) q t j) (some (.int (nI 1))) := by
  refine tk_ofV (by decide +kernel) [some (.ref (E.1 + 0)), some (.int (nI i)), none] rfl (Nat.le_of_ble_eq_true rfl) ?_
  intro p e s m args below meth c cx hB
  have hc6 := hp.1
  have hq8 : 9 ≤ q := by rw [← hq]; exact (hp.2.2.1 i (by omega)).1
  have hq7 : q < 70 := by rw [← hq]; exact (hp.2.2.1 i (by omega)).2
  have hp1 := (hp.tk hi).1
  have hrow : ∀ b, b < 60 → (p_tk M i cn).2.2 7 b ≠ q := by rw [← hq]; exact (hp.tk hi).2
  refine v_aload_n cx (tk_dc d_K_deliver 0 rfl) rfl ?_
  refine v_getC cx 6 (tk_dc d_K_deliver 1 rfl) f_K_40 o_K (by decide) (by rfl) ?_
  refine v_iload_n cx (tk_dc d_K_deliver 2 rfl) rfl ?_
  refine v_callV (rest := _) cx (tk_dc d_K_deliver 3 rfl) m_K_161 kn_P_holds kv_P_holds k_P_holds o_P (by decide) rfl (c_P_holds) rfl rfl (Nat.le_of_ble_eq_true rfl) (by decide) ?_
  rw [hp.2.1]
  refine v_if_ne cx (tk_dc d_K_deliver 4 rfl) 13 (by decide) (fun _ => ?_) (fun h => absurd h (b01_d ⟨nI_pos (by omega), nI_lt hi (by omega)⟩))
  refine v_aload_n cx (tk_dc d_K_deliver 7 rfl) rfl ?_
  refine v_getC cx 6 (tk_dc d_K_deliver 8 rfl) f_K_40 o_K (by decide) (by rfl) ?_
  refine v_iload_n cx (tk_dc d_K_deliver 9 rfl) rfl ?_
  refine v_callV (rest := _) cx (tk_dc d_K_deliver 10 rfl) m_K_164 kn_P_take kv_P_take k_P_take o_P (by decide) rfl (c_P_take hp.1 hi hp.2.1 (fun b hb => by have := hp.2.2.1 b hb; omega) (fun b hb => (hp.2.2.1 b hb).2) (by have := hp.2.2.2.1; omega) hp.2.2.2.1.2) rfl rfl (Nat.le_of_ble_eq_true rfl) (by decide) ?_
  rw [hq]
  refine v_astore_n (lo' := [_, _, _]) cx (tk_dc d_K_deliver 11 rfl) (by decide) rfl ?_
  refine v_aload_n cx (tk_dc d_K_deliver 12 rfl) rfl ?_
  refine v_aload_n cx (tk_dc d_K_deliver 13 rfl) rfl ?_
  refine v_callV (rest := _) cx (tk_dc d_K_deliver 14 rfl) m_K_168 kn_K_isHeard kv_K_isHeard k_K_isHeard o_K (by decide) rfl (c_K_isHeard (M := (p_tk M i cn)) (kd := 1) hq8 hq7 ((p_tk_at (by omega)).trans hl0) (by decide) (by decide) ((p_tk_at (by omega)).trans hl2) hs (by rw [p_tk_at (by unfold sN; omega)]; exact h01)) rfl rfl (Nat.le_of_ble_eq_true rfl) (by decide) ?_
  refine v_eqi (M.1 (sN t) 1) (p_tk_at (by unfold sN; omega)) ?_
  refine v_if_ne cx (tk_dc d_K_deliver 15 rfl) 35 (by decide) (fun h27 => ?_) (fun h27 => ?_)
  · have g27 : ¬ M.1 (sN t) 1 = 0 := h27
    refine v_aload_n cx (tk_dc d_K_deliver 19 rfl) rfl ?_
    refine v_getI cx (tk_dc d_K_deliver 20 rfl) f_K_172 (o_L (by omega) hq7) (by decide) (by rfl) ?_
    refine v_eqi (nI 1) ((p_tk_at (by omega)).trans hl0) ?_
    refine v_tin cx (tk_dc d_K_deliver 21 rfl) 80 (by decide) (by decide) rfl (by decide) ?_
    refine v_aload_n cx (tk_dc d_K_deliver 26 rfl) rfl ?_
    refine v_aload_n cx (tk_dc d_K_deliver 27 rfl) rfl ?_
    refine v_callV (rest := _) cx (tk_dc d_K_deliver 28 rfl) m_K_181 kn_K_hearPromised kv_K_hearPromised k_K_hearPromised o_K (by decide) rfl (c_K_hearPromised (G := G) (nw := nw) hp1 hq8 hq7 ((p_tk_at (by omega)).trans hl2) ((p_tk_at (by omega)).trans hl3) hs hj hrow (fun i hi => (hG i hi).tk) (fun i hi => by rw [p_tk_at (by have := eN_ge t i; omega)]; exact hkn i hi) ((p_tk_at (by omega)).trans hnw) hn0 hn1 (by rw [p_tk_at (by omega)]; exact hmm) (by rw [p_tk_at (by have := eN_ge t j; omega)]; exact hmo)) rfl rfl (Nat.le_of_ble_eq_true rfl) (by decide) ?_
    refine v_goto cx (tk_dc d_K_deliver 29 rfl) 124 (by decide) ?_
    refine v_aload_n cx (tk_dc d_K_deliver 48 rfl) rfl ?_
    refine v_getI cx (tk_dc d_K_deliver 49 rfl) f_K_172 (o_L (by omega) hq7) (by decide) (by rfl) ?_
    refine v_eqi (nI 1) ((k_h1_q hp1 hq8 hq7 hrow 0).trans ((p_tk_at (by omega)).trans hl0)) ?_
    exact v_iret cx hB (tk_dc d_K_deliver 50 rfl) (rfl) (by rw [if_neg g27])
  · have g27 : M.1 (sN t) 1 = 0 := h27
    refine v_aload_n cx (tk_dc d_K_deliver 16 rfl) rfl ?_
    refine v_getI cx (tk_dc d_K_deliver 17 rfl) f_K_172 (o_L (by omega) hq7) (by decide) (by rfl) ?_
    refine v_eqi (nI 1) ((p_tk_at (by omega)).trans hl0) ?_
    exact v_iret cx hB (tk_dc d_K_deliver 18 rfl) (rfl) (by rw [if_pos g27])
