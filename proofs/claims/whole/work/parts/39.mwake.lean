/-! the other side: a waking -/
def balN (p x : Nat) : Nat := x + 1 + 3 * (if x < p then (p - x - 1) / 3 + 1 else 0)
def m_bg (M : tk_M) (k : Nat) (b : Int32) : tk_M := wI (wI (wI (wI M 195 k b) 201 k b) 200 k 1) 202 k (-1)
theorem m_bg_at {M : tk_M} {k : Nat} {v : Int32} {a b : Nat} (h1 : a ≠ 200) (h2 : a ≠ 201) (h3 : a ≠ 202) (h4 : a = 195 → b ≠ k) : (m_bg M k v).1 a b = M.1 a b := by
  unfold m_bg
  rw [wI_ne (by omega), wI_ne (by omega), wI_ne (by omega), wI_ne (by omega)]
theorem SC.bg {M M1 : tk_M} (h : SC M M1) (k : Nat) (b : Int32) : SC (m_bg M k b) (m_bg M1 k b) := (((h.wI _ _ _).wI _ _ _).wI _ _ _).wI _ _ _
noncomputable def m_wk1 (G : Nat → gJ) (nw : Int) (x : Nat) (S : tk_M × Nat × Nat) (j : Nat) : tk_M × Nat × Nat :=
  if ¬ S.1.1 192 j = 0 ∨ (S.1.1 197 (8 * x + j) ≤ S.1.1 199 (8 * x + j) ∧ nxI (G j) nw (S.1.1 197 (8 * x + j)).toInt = -1) then S
  else ((m_oth (m_bg S.1 (8 * x + j) (nI (balN (S.1.1 195 (8 * x + j)).toNatClampNeg x))) S.2.1 x (fun t => [nI 0, nI x, nI t, nI j, nI (balN (S.1.1 195 (8 * x + j)).toNatClampNeg x), -1, 0, 0]) 3).1, (m_oth (m_bg S.1 (8 * x + j) (nI (balN (S.1.1 195 (8 * x + j)).toNatClampNeg x))) S.2.1 x (fun t => [nI 0, nI x, nI t, nI j, nI (balN (S.1.1 195 (8 * x + j)).toNatClampNeg x), -1, 0, 0]) 3).2, S.2.2 + 1)
noncomputable def m_wk (G : Nat → gJ) (nw : Int) (x : Nat) (M : tk_M) (c : Nat) : Nat → tk_M × Nat × Nat
  | 0 => (M, c, 0)
  | j + 1 => m_wk1 G nw x (m_wk G nw x M c j) j
theorem m_wk_c {G : Nat → gJ} {nw : Int} {x : Nat} {M : tk_M} {c : Nat} (h : M.1 172 38 = nI c) (hc : c ≤ 60) : ∀ j, (m_wk G nw x M c j).2.1 ≤ 60 ∧ (m_wk G nw x M c j).1.1 172 38 = nI (m_wk G nw x M c j).2.1
  | 0 => ⟨hc, h⟩
  | j + 1 => by
    have ih := m_wk_c (G := G) (nw := nw) (x := x) h hc j
    rw [m_wk]
    generalize m_wk G nw x M c j = S at ih
    unfold m_wk1
    split
    · exact ih
    · exact m_oth_c (by rw [m_bg_at (by decide) (by decide) (by decide) (by omega)]; exact ih.2) ih.1 3
theorem m_wk_at {G : Nat → gJ} {nw : Int} {x : Nat} {M : tk_M} {c a b : Nat} (h0 : a ≠ 208) (h9 : ¬ (a = 172 ∧ b = 38)) (h1 : a ≠ 200) (h2 : a ≠ 201) (h3 : a ≠ 202) : ∀ j, (a = 195 → 8 * x + j ≤ b) → (m_wk G nw x M c j).1.1 a b = M.1 a b
  | 0, _ => rfl
  | j + 1, h4 => by
    have ih := m_wk_at (G := G) (nw := nw) (x := x) (M := M) (c := c) h0 h9 h1 h2 h3 j (fun w => by have := h4 w; omega)
    rw [m_wk]
    generalize m_wk G nw x M c j = S at ih
    unfold m_wk1
    split
    · exact ih
    · rw [m_oth_at h0 h9, m_bg_at h1 h2 h3 (fun w => by have := h4 w; omega)]; exact ih
theorem m_wk_2 {G : Nat → gJ} {nw : Int} {x : Nat} {M : tk_M} {c : Nat} : ∀ j, (m_wk G nw x M c j).1.2 = M.2
  | 0 => rfl
  | j + 1 => by
    have ih := m_wk_2 (G := G) (nw := nw) (x := x) (M := M) (c := c) j
    rw [m_wk]
    generalize m_wk G nw x M c j = S at ih
    unfold m_wk1
    split
    · exact ih
    · rw [m_oth_2]; exact ih
theorem m_wk_ce {G : Nat → gJ} {nw : Int} {x : Nat} {M : tk_M} {c : Nat} (j : Nat) : CE M (m_wk G nw x M c j).1 := ⟨fun b => by rw [m_wk_2], fun a b h1 h2 h3 => m_wk_at (by omega) (by omega) (by omega) (by omega) (by omega) j (by omega)⟩
set_option maxHeartbeats 4000000 in
set_option maxRecDepth 100000 in
theorem n_M_wakes {l : Launch} {E : tk_E} {M : tk_M} {x : Int32} (hz0 : M.1 172 0 = 0) (hb : ¬ (¬ x < 0 ∧ x < 3)) : tk_Mt l y_M_wake b_M_wake 6 (some .int) 10 E [.ref (E.1 + 172), .int (x)] M M (some (.int (-1))) := by
  refine tk_ofV (by decide +kernel) [some (.ref (E.1 + 172)), some (.int (x)), none, none, none, none] rfl (Nat.le_of_ble_eq_true rfl) ?_
  intro p e s m args below meth c cx hB
  refine v_aload_n cx (tk_dc d_M_wake 0 rfl) rfl ?_
  refine v_iconst cx (tk_dc d_M_wake 1 rfl) (0) (by decide) ?_
  refine v_putI cx (tk_dc d_M_wake 2 rfl) f_M_120 o_M (by decide) (by rfl) ⟨rfl, rfl⟩ ?_
  refine v_eqM (cz_id hz0) ?_
  refine v_iload_n cx (tk_dc d_M_wake 3 rfl) rfl ?_
  refine v_if_lt cx (tk_dc d_M_wake 4 rfl) 23 (by decide) (fun h6 => ?_) (fun h6 => ?_)
  · refine v_iconst cx (tk_dc d_M_wake 13 rfl) (-1) (by decide) ?_
    exact v_iret cx hB (tk_dc d_M_wake 14 rfl) (rfl) (rfl)
  · refine v_iload_n cx (tk_dc d_M_wake 5 rfl) rfl ?_
    refine v_iconst cx (tk_dc d_M_wake 6 rfl) (3) (by decide) ?_
    refine v_icmp_ge cx (tk_dc d_M_wake 7 rfl) 23 (by decide) (fun h11 => ?_) (fun h11 => ?_)
    · refine v_iconst cx (tk_dc d_M_wake 13 rfl) (-1) (by decide) ?_
      exact v_iret cx hB (tk_dc d_M_wake 14 rfl) (rfl) (rfl)
    · exact absurd ⟨h6, Int32.not_le.mp h11⟩ hb

set_option maxHeartbeats 4000000 in
set_option maxRecDepth 100000 in
theorem n_M_wake {l : Launch} {E : tk_E} {M : tk_M} {x : Nat} (hz0 : M.1 172 0 = 0) (hx : x < 3) (hu : M.1 193 x = 0) : tk_Mt l y_M_wake b_M_wake 6 (some .int) 10 E [.ref (E.1 + 172), .int (nI x)] M M (some (.int (-1))) := by
  refine tk_ofV (by decide +kernel) [some (.ref (E.1 + 172)), some (.int (nI x)), none, none, none, none] rfl (Nat.le_of_ble_eq_true rfl) ?_
  intro p e s m args below meth c cx hB
  refine v_aload_n cx (tk_dc d_M_wake 0 rfl) rfl ?_
  refine v_iconst cx (tk_dc d_M_wake 1 rfl) (0) (by decide) ?_
  refine v_putI cx (tk_dc d_M_wake 2 rfl) f_M_120 o_M (by decide) (by rfl) ⟨rfl, rfl⟩ ?_
  refine v_eqM (cz_id hz0) ?_
  refine v_iload_n cx (tk_dc d_M_wake 3 rfl) rfl ?_
  refine v_if_lt cx (tk_dc d_M_wake 4 rfl) 23 (by decide) (fun h => absurd h (nI_pos (by omega))) (fun _ => ?_)
  refine v_iload_n cx (tk_dc d_M_wake 5 rfl) rfl ?_
  refine v_iconst cx (tk_dc d_M_wake 6 rfl) (3) (by decide) ?_
  refine v_icmp_ge cx (tk_dc d_M_wake 7 rfl) 23 (by decide) (fun h => absurd h (Int32.not_le.mpr (nI_lt (b := 3) hx (by decide)))) (fun _ => ?_)
  refine v_aload_n cx (tk_dc d_M_wake 8 rfl) rfl ?_
  refine v_getC cx 193 (tk_dc d_M_wake 9 rfl) f_M_72 o_M (by decide) (by rfl) ?_
  refine v_iload_n cx (tk_dc d_M_wake 10 rfl) rfl ?_
  refine w_zald cx (tk_dc d_M_wake 11 rfl) a_193 x (rfl) (by omega) (by decide) ?_
  refine v_if_ne cx (tk_dc d_M_wake 12 rfl) 25 (by decide) (fun h => absurd (hu) h) (fun _ => ?_)
  refine v_iconst cx (tk_dc d_M_wake 13 rfl) (-1) (by decide) ?_
  exact v_iret cx hB (tk_dc d_M_wake 14 rfl) (rfl) (rfl)

set_option maxHeartbeats 4000000 in
set_option maxRecDepth 100000 in
theorem c_M_wake {l : Launch} {E : tk_E} {M : tk_M} {G : Nat → gJ} {nw : Int} {cn x : Nat} (hz0 : M.1 172 0 = 0) (hM : M.1 172 38 = nI cn) (hc : cn ≤ 60) (hG : ∀ i, i < 8 → calM M i (G i)) (hnw : M.1 172 1 = iI nw) (hn0 : 0 ≤ nw) (hn1 : nw ≤ 52595999) (hx : x < 3) (hu : ¬ M.1 193 x = 0) (hmo : ∀ i, i < 8 → -1 ≤ (M.1 197 (8 * x + i)).toInt ∧ (M.1 197 (8 * x + i)).toInt ≤ 52595999) (hpr : ∀ i, i < 8 → ∃ q, q ≤ 100000 ∧ M.1 195 (8 * x + i) = nI q) : tk_MR l y_M_wake b_M_wake 6 (some .int) 10 E [.ref (E.1 + 172), .int (nI x)] M  (NR (some (.int (nI (m_wk G nw x M cn 8).2.2))) (m_wk G nw x M cn 8).1) := by
  refine tk_ofVR (by decide +kernel) [some (.ref (E.1 + 172)), some (.int (nI x)), none, none, none, none] rfl (Nat.le_of_ble_eq_true rfl) ?_
  intro p e s m args below meth c cx hB
  obtain ⟨Z, hZ⟩ : ∃ Z, Z = m_wk G nw x M cn 8 := ⟨_, rfl⟩
  rw [← hZ]
  have loop : ∀ (r j ct : Nat) (M1 : tk_M) (w4 w5 : Option Value), j + r = 8 → SC (m_wk G nw x M cn j).1 M1 → ct = (m_wk G nw x M cn j).2.2 → tk_V p l e (tk_rm 10 0 0) s m args below meth c (MQ below (tk_QR E (NR (some (.int (nI Z.2.2))) Z.1)) args s 0 0 (tk_A E)) E 6 209 (tk_ct E M1) 0 0 29 [some (.ref (E.1 + 172)), some (.int (nI x)), some (.int (nI ct)), some (.int (nI j)), w4, w5] [] := by
    intro r
    induction r with
    | zero =>
      intro j ct M1 w4 w5 hj sc hct
      have : j = 8 := by omega
      subst this
      rw [← hZ] at sc hct
      refine v_iload_n cx (tk_dc d_M_wake 19 rfl) rfl ?_
      refine v_bipush cx (tk_dc d_M_wake 20 rfl) (8) (by decide) ?_
      refine v_icmp_ge cx (tk_dc d_M_wake 21 rfl) 165 (by decide) (fun _ => ?_) (fun h => absurd (by decide) h)
      refine v_iload_n cx (tk_dc d_M_wake 95 rfl) rfl ?_
      exact v_iretR cx hB (tk_dc d_M_wake 96 rfl) (⟨by rw [hct], sc⟩)
    | succ r ih =>
      intro j ct M1 w4 w5 hj sc hct
      have hj8 : j < 8 := by omega
      have hS := m_wk_c (G := G) (nw := nw) (x := x) hM hc j
      have hat := fun (a b : Nat) h0 h9 h1 h2 h3 h4 => m_wk_at (G := G) (nw := nw) (x := x) (M := M) (c := cn) (a := a) (b := b) h0 h9 h1 h2 h3 j h4
      have hce := (m_wk_ce (G := G) (nw := nw) (x := x) (M := M) (c := cn) j).tr sc.ce
      obtain ⟨q, hq1, hq2⟩ := hpr j hj8
      have rm := hmo j hj8
      have hn := m_wk.eq_2 G nw x M cn j
      obtain ⟨S, hSe⟩ : ∃ S, S = m_wk G nw x M cn j := ⟨_, rfl⟩
      rw [← hSe] at sc hS hn hct
      subst hct
      rw [← hat 197 (8 * x + j) (by omega) (by omega) (by omega) (by omega) (by omega) (by omega), ← hSe] at rm
      rw [← hat 195 (8 * x + j) (by omega) (by omega) (by omega) (by omega) (by omega) (by omega), ← hSe] at hq2
      have hnw1 : M1.1 172 1 = iI nw := by rw [sc.2 172 1 (by omega), hSe, hat 172 1 (by omega) (by omega) (by omega) (by omega) (by omega) (by omega)]; exact hnw
      obtain ⟨tn, htn⟩ : ∃ tn, tn = if x < q then (q - x - 1) / 3 + 1 else 0 := ⟨_, rfl⟩
      have hbal : balN (S.1.1 195 (8 * x + j)).toNatClampNeg x = x + 1 + 3 * tn := by rw [hq2, nI_clamp (by omega), htn]; rfl
      have skip : (¬ S.1.1 192 j = 0 ∨ (S.1.1 197 (8 * x + j) ≤ S.1.1 199 (8 * x + j) ∧ nxI (G j) nw (S.1.1 197 (8 * x + j)).toInt = -1)) → ∀ (M2 : tk_M) (w4 w5 : Option Value), SC S.1 M2 → tk_V p l e (tk_rm 10 0 0) s m args below meth c (MQ below (tk_QR E (NR (some (.int (nI Z.2.2))) Z.1)) args s 0 0 (tk_A E)) E 6 209 (tk_ct E M2) 0 0 159 [some (.ref (E.1 + 172)), some (.int (nI x)), some (.int (nI S.2.2)), some (.int (nI j)), w4, w5] [] := by
        intro hsk M2 w4 w5 sc2
        have ew : m_wk G nw x M cn (j + 1) = S := by rw [hn]; unfold m_wk1; rw [if_pos hsk]
        refine v_iinc (lo' := [_, _, _, _, _, _]) cx (tk_dc d_M_wake 93 rfl) rfl (nI (j + 1)) ((nI_succ j).symm) (by decide) rfl ?_
        refine v_goto cx (tk_dc d_M_wake 94 rfl) 29 (by decide) ?_
        exact ih (j + 1) S.2.2 M2 _ _ (by omega) (by rw [ew]; exact sc2) (by rw [ew])
      have go : ¬ (¬ S.1.1 192 j = 0 ∨ (S.1.1 197 (8 * x + j) ≤ S.1.1 199 (8 * x + j) ∧ nxI (G j) nw (S.1.1 197 (8 * x + j)).toInt = -1)) → ∀ (M2 : tk_M) (w5 : Option Value), SC S.1 M2 → tk_V p l e (tk_rm 10 0 0) s m args below meth c (MQ below (tk_QR E (NR (some (.int (nI Z.2.2))) Z.1)) args s 0 0 (tk_A E)) E 6 209 (tk_ct E M2) 0 0 88 [some (.ref (E.1 + 172)), some (.int (nI x)), some (.int (nI S.2.2)), some (.int (nI j)), some (.int (nI (8 * x + j))), w5] [] := by
        intro hsk M2 w5 sc2
        have ew : m_wk G nw x M cn (j + 1) = ((m_oth (m_bg S.1 (8 * x + j) (nI (balN (S.1.1 195 (8 * x + j)).toNatClampNeg x))) S.2.1 x (fun t => [nI 0, nI x, nI t, nI j, nI (balN (S.1.1 195 (8 * x + j)).toNatClampNeg x), -1, 0, 0]) 3).1, (m_oth (m_bg S.1 (8 * x + j) (nI (balN (S.1.1 195 (8 * x + j)).toNatClampNeg x))) S.2.1 x (fun t => [nI 0, nI x, nI t, nI j, nI (balN (S.1.1 195 (8 * x + j)).toNatClampNeg x), -1, 0, 0]) 3).2, S.2.2 + 1) := by rw [hn]; unfold m_wk1; rw [if_neg hsk]
        rw [hbal] at ew
        have inner : ∀ (r2 i : Nat), i + r2 = tn → tk_V p l e (tk_rm 10 0 0) s m args below meth c (MQ below (tk_QR E (NR (some (.int (nI Z.2.2))) Z.1)) args s 0 0 (tk_A E)) E 6 209 (tk_ct E M2) 0 0 93 [some (.ref (E.1 + 172)), some (.int (nI x)), some (.int (nI S.2.2)), some (.int (nI j)), some (.int (nI (8 * x + j))), some (.int (nI (x + 1 + 3 * i)))] [] := by
          intro r2
          induction r2 with
          | zero =>
            intro i hi
            have : i = tn := by omega
            subst this
            refine v_iload cx (tk_dc d_M_wake 56 rfl) rfl ?_
            refine v_aload_n cx (tk_dc d_M_wake 57 rfl) rfl ?_
            refine v_getC cx 195 (tk_dc d_M_wake 58 rfl) f_M_78 o_M (by decide) (by rfl) ?_
            refine v_iload cx (tk_dc d_M_wake 59 rfl) rfl ?_
            refine w_iald cx (tk_dc d_M_wake 60 rfl) a_195 (8 * x + j) (rfl) (by omega) (by decide) ?_
            refine v_eqi (nI q) (by rw [sc2.at _ rfl]; exact hq2) ?_
            refine v_icmp_gt cx (tk_dc d_M_wake 61 rfl) 111 (by decide) (fun _ => ?_) (fun h => absurd (nI_lt (by rw [htn]; split <;> omega) (by rw [htn]; split <;> omega)) h)
            refine v_aload_n cx (tk_dc d_M_wake 64 rfl) rfl ?_
            refine v_getC cx 195 (tk_dc d_M_wake 65 rfl) f_M_78 o_M (by decide) (by rfl) ?_
            refine v_iload cx (tk_dc d_M_wake 66 rfl) rfl ?_
            refine v_iload cx (tk_dc d_M_wake 67 rfl) rfl ?_
            refine w_iast cx (tk_dc d_M_wake 68 rfl) a_195 (8 * x + j) (rfl) (by omega) (by decide) ?_
            refine v_aload_n cx (tk_dc d_M_wake 69 rfl) rfl ?_
            refine v_getC cx 201 (tk_dc d_M_wake 70 rfl) f_M_96 o_M (by decide) (by rfl) ?_
            refine v_iload cx (tk_dc d_M_wake 71 rfl) rfl ?_
            refine v_iload cx (tk_dc d_M_wake 72 rfl) rfl ?_
            refine w_iast cx (tk_dc d_M_wake 73 rfl) a_201 (8 * x + j) (rfl) (by omega) (by decide) ?_
            refine v_aload_n cx (tk_dc d_M_wake 74 rfl) rfl ?_
            refine v_getC cx 200 (tk_dc d_M_wake 75 rfl) f_M_93 o_M (by decide) (by rfl) ?_
            refine v_iload cx (tk_dc d_M_wake 76 rfl) rfl ?_
            refine v_iconst cx (tk_dc d_M_wake 77 rfl) (1) (by decide) ?_
            refine w_iast cx (tk_dc d_M_wake 78 rfl) a_200 (8 * x + j) (rfl) (by omega) (by decide) ?_
            refine v_aload_n cx (tk_dc d_M_wake 79 rfl) rfl ?_
            refine v_getC cx 202 (tk_dc d_M_wake 80 rfl) f_M_99 o_M (by decide) (by rfl) ?_
            refine v_iload cx (tk_dc d_M_wake 81 rfl) rfl ?_
            refine v_iconst cx (tk_dc d_M_wake 82 rfl) (-1) (by decide) ?_
            refine w_iast cx (tk_dc d_M_wake 83 rfl) a_202 (8 * x + j) (rfl) (by omega) (by decide) ?_
            refine v_aload_n cx (tk_dc d_M_wake 84 rfl) rfl ?_
            refine v_iconst cx (tk_dc d_M_wake 85 rfl) (0) (by decide) ?_
            refine v_iload_n cx (tk_dc d_M_wake 86 rfl) rfl ?_
            refine v_iload_n cx (tk_dc d_M_wake 87 rfl) rfl ?_
            refine v_iload cx (tk_dc d_M_wake 88 rfl) rfl ?_
            refine v_iconst cx (tk_dc d_M_wake 89 rfl) (-1) (by decide) ?_
            refine v_iconst cx (tk_dc d_M_wake 90 rfl) (0) (by decide) ?_
            refine v_callV (rest := _) cx (tk_dc d_M_wake 91 rfl) m_M_231 kn_M_toOthers kv_M_toOthers k_M_toOthers o_M (by decide) rfl (c_M_toOthers (M := m_bg M2 (8 * x + j) (nI (x + 1 + 3 * i))) (cn := S.2.1) (k := 0) hS.1 (by rw [m_bg_at (by decide) (by decide) (by decide) (by omega), sc2.2 172 38 (by omega)]; exact hS.2) (by decide) hx) rfl rfl (Nat.le_of_ble_eq_true rfl) (by decide) ?_
            refine v_iinc (lo' := [_, _, _, _, _, _]) cx (tk_dc d_M_wake 92 rfl) rfl (nI (S.2.2 + 1)) ((nI_succ _).symm) (by decide) rfl ?_
            refine v_iinc (lo' := [_, _, _, _, _, _]) cx (tk_dc d_M_wake 93 rfl) rfl (nI (j + 1)) ((nI_succ j).symm) (by decide) rfl ?_
            refine v_goto cx (tk_dc d_M_wake 94 rfl) 29 (by decide) ?_
            exact ih (j + 1) (S.2.2 + 1) _ _ _ (by omega) (by rw [ew]; exact ((sc2.bg _ _).oth _ _ _ 3).1) (by rw [ew])
          | succ r2 ih2 =>
            intro i hi
            refine v_iload cx (tk_dc d_M_wake 56 rfl) rfl ?_
            refine v_aload_n cx (tk_dc d_M_wake 57 rfl) rfl ?_
            refine v_getC cx 195 (tk_dc d_M_wake 58 rfl) f_M_78 o_M (by decide) (by rfl) ?_
            refine v_iload cx (tk_dc d_M_wake 59 rfl) rfl ?_
            refine w_iald cx (tk_dc d_M_wake 60 rfl) a_195 (8 * x + j) (rfl) (by omega) (by decide) ?_
            refine v_eqi (nI q) (by rw [sc2.at _ rfl]; exact hq2) ?_
            refine v_icmp_gt cx (tk_dc d_M_wake 61 rfl) 111 (by decide) (fun h => absurd h (Int32.not_lt.mpr (nI_le (by by_cases w : x < q; (rw [if_pos w] at htn; omega); (rw [if_neg w] at htn; omega)) (by omega)))) (fun _ => ?_)
            refine v_iinc (lo' := [_, _, _, _, _, _]) cx (tk_dc d_M_wake 62 rfl) rfl (nI (x + 1 + 3 * (i + 1))) (by rw [show (Int32.ofInt 3) = nI 3 from rfl, nI_add]; congr 1) (by decide) rfl ?_
            refine v_goto cx (tk_dc d_M_wake 63 rfl) 93 (by decide) ?_
            exact ih2 (i + 1) (by omega)
        refine v_iload_n cx (tk_dc d_M_wake 52 rfl) rfl ?_
        refine v_iconst cx (tk_dc d_M_wake 53 rfl) (1) (by decide) ?_
        refine v_iadd cx (tk_dc d_M_wake 54 rfl) ?_
        refine v_eqi (nI (x + 1 + 3 * 0)) ((nI_succ x).symm) ?_
        refine v_istore (lo' := [_, _, _, _, _, _]) cx (tk_dc d_M_wake 55 rfl) (by decide) rfl ?_
        exact inner tn 0 (by omega)
      refine v_iload_n cx (tk_dc d_M_wake 19 rfl) rfl ?_
      refine v_bipush cx (tk_dc d_M_wake 20 rfl) (8) (by decide) ?_
      refine v_icmp_ge cx (tk_dc d_M_wake 21 rfl) 165 (by decide) (fun h => absurd h (Int32.not_le.mpr (nI_lt (b := 8) (by omega) (by decide)))) (fun _ => ?_)
      refine v_bipush cx (tk_dc d_M_wake 22 rfl) (8) (by decide) ?_
      refine v_iload_n cx (tk_dc d_M_wake 23 rfl) rfl ?_
      refine v_imul cx (tk_dc d_M_wake 24 rfl) ?_
      refine v_iload_n cx (tk_dc d_M_wake 25 rfl) rfl ?_
      refine v_iadd cx (tk_dc d_M_wake 26 rfl) ?_
      refine v_eqi (nI (8 * x + j)) (by rw [show (8 : Int32) = nI 8 from rfl, pk_mul, nI_add]) ?_
      refine v_istore (lo' := [_, _, _, _, _, _]) cx (tk_dc d_M_wake 27 rfl) (by decide) rfl ?_
      refine v_aload_n cx (tk_dc d_M_wake 28 rfl) rfl ?_
      refine v_getC cx 192 (tk_dc d_M_wake 29 rfl) f_M_69 o_M (by decide) (by rfl) ?_
      refine v_iload_n cx (tk_dc d_M_wake 30 rfl) rfl ?_
      refine w_zald cx (tk_dc d_M_wake 31 rfl) a_192 j (rfl) (by omega) (by decide) ?_
      refine v_eqi (S.1.1 192 j) (sc.at _ rfl) ?_
      refine v_if_ne cx (tk_dc d_M_wake 32 rfl) 159 (by decide) (fun h49 => ?_) (fun h49 => ?_)
      · exact skip (Or.inl h49) M1 _ _ sc
      · refine v_aload_n cx (tk_dc d_M_wake 33 rfl) rfl ?_
        refine v_getC cx 197 (tk_dc d_M_wake 34 rfl) f_M_84 o_M (by decide) (by rfl) ?_
        refine v_iload cx (tk_dc d_M_wake 35 rfl) rfl ?_
        refine w_iald cx (tk_dc d_M_wake 36 rfl) a_197 (8 * x + j) (rfl) (by omega) (by decide) ?_
        refine v_eqi (S.1.1 197 (8 * x + j)) (sc.at _ rfl) ?_
        refine v_aload_n cx (tk_dc d_M_wake 37 rfl) rfl ?_
        refine v_getC cx 199 (tk_dc d_M_wake 38 rfl) f_M_90 o_M (by decide) (by rfl) ?_
        refine v_iload cx (tk_dc d_M_wake 39 rfl) rfl ?_
        refine w_iald cx (tk_dc d_M_wake 40 rfl) a_199 (8 * x + j) (rfl) (by omega) (by decide) ?_
        refine v_eqi (S.1.1 199 (8 * x + j)) (sc.at _ rfl) ?_
        refine v_icmp_gt cx (tk_dc d_M_wake 41 rfl) 88 (by decide) (fun h66 => ?_) (fun h66 => ?_)
        · exact go (fun w => by rcases w with w | w; (exact w h49); exact absurd w.1 (Int32.not_le.mpr h66)) M1 _ sc
        · refine v_aload_n cx (tk_dc d_M_wake 42 rfl) rfl ?_
          refine v_iload_n cx (tk_dc d_M_wake 43 rfl) rfl ?_
          refine v_aload_n cx (tk_dc d_M_wake 44 rfl) rfl ?_
          refine v_getC cx 197 (tk_dc d_M_wake 45 rfl) f_M_84 o_M (by decide) (by rfl) ?_
          refine v_iload cx (tk_dc d_M_wake 46 rfl) rfl ?_
          refine w_iald cx (tk_dc d_M_wake 47 rfl) a_197 (8 * x + j) (rfl) (by omega) (by decide) ?_
          obtain ⟨z, h, ne, n, ρ, mv, st, os, hd, ex, e1, e2, e3, e4, e5, e6, e7, e8⟩ := (hG j hj8).ce hce
          refine v_eqi (iI (S.1.1 197 (8 * x + j)).toInt) (by rw [sc.at _ rfl]; exact iI_of _) ?_
          refine v_callVS (rest := _) cx (tk_dc d_M_wake 48 rfl) m_M_228 kn_M_nextOf kv_M_nextOf k_M_nextOf o_M (by decide) rfl (c_M_nextOf e1 hnw1 e5 e3 e4 rm.1 rm.2 hn0 hn1 e6 e7) rfl rfl (Nat.le_of_ble_eq_true rfl) (by decide) (fun x9 M2 hx9 sc2 => ?_)
          obtain ⟨r9, rfl, hr9⟩ := hx9
          rw [e2] at hr9
          have hr8 := NXT_r hr9 hn0
          have hr7 := nx_eq hr9
          refine v_iconst cx (tk_dc d_M_wake 49 rfl) (-1) (by decide) ?_
          refine v_icmp_ne cx (tk_dc d_M_wake 50 rfl) 88 (by decide) (fun h82 => ?_) (fun h82 => ?_)
          · exact go (fun w => by rcases w with w | w; (exact w h49); (rw [hr7] at w; exact h82 (by rw [w.2]; rfl))) M2 _ (sc.tr sc2)
          · refine v_goto cx (tk_dc d_M_wake 51 rfl) 159 (by decide) ?_
            exact skip (Or.inr ⟨Int32.not_lt.mp h66, by rw [hr7]; exact (iI_eq (b := -1) (by omega) (by omega) (by omega) (by omega)).mp h82⟩) M2 _ _ (sc.tr sc2)
  refine v_aload_n cx (tk_dc d_M_wake 0 rfl) rfl ?_
  refine v_iconst cx (tk_dc d_M_wake 1 rfl) (0) (by decide) ?_
  refine v_putI cx (tk_dc d_M_wake 2 rfl) f_M_120 o_M (by decide) (by rfl) ⟨rfl, rfl⟩ ?_
  refine v_eqM (cz_id hz0) ?_
  refine v_iload_n cx (tk_dc d_M_wake 3 rfl) rfl ?_
  refine v_if_lt cx (tk_dc d_M_wake 4 rfl) 23 (by decide) (fun h => absurd h (nI_pos (by omega))) (fun _ => ?_)
  refine v_iload_n cx (tk_dc d_M_wake 5 rfl) rfl ?_
  refine v_iconst cx (tk_dc d_M_wake 6 rfl) (3) (by decide) ?_
  refine v_icmp_ge cx (tk_dc d_M_wake 7 rfl) 23 (by decide) (fun h => absurd h (Int32.not_le.mpr (nI_lt (b := 3) hx (by decide)))) (fun _ => ?_)
  refine v_aload_n cx (tk_dc d_M_wake 8 rfl) rfl ?_
  refine v_getC cx 193 (tk_dc d_M_wake 9 rfl) f_M_72 o_M (by decide) (by rfl) ?_
  refine v_iload_n cx (tk_dc d_M_wake 10 rfl) rfl ?_
  refine w_zald cx (tk_dc d_M_wake 11 rfl) a_193 x (rfl) (by omega) (by decide) ?_
  refine v_if_ne cx (tk_dc d_M_wake 12 rfl) 25 (by decide) (fun _ => ?_) (fun h => absurd h (hu))
  refine v_iconst cx (tk_dc d_M_wake 15 rfl) (0) (by decide) ?_
  refine v_istore_n (lo' := [_, _, _, _, _, _]) cx (tk_dc d_M_wake 16 rfl) (by decide) rfl ?_
  refine v_iconst cx (tk_dc d_M_wake 17 rfl) (0) (by decide) ?_
  refine v_istore_n (lo' := [_, _, _, _, _, _]) cx (tk_dc d_M_wake 18 rfl) (by decide) rfl ?_
  exact loop 8 0 0 M _ _ rfl SC.rf rfl
