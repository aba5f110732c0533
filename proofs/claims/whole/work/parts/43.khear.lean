/-! the class's calls: what it hears -/
theorem eN_ge (x j : Nat) : 142 ≤ eN x j := by unfold eN; omega
theorem p_tk_r {M : tk_M} {i c b : Nat} : (p_tk M i c).2.2 7 b = if b = c - 1 then M.2.2 6 2 else if i ≤ b ∧ b < c - 1 then M.2.2 7 (b + 1) else M.2.2 7 b := by
  unfold p_tk
  rw [wR_ne (by omega)]
  by_cases h : b = c - 1
  · rw [if_pos h, h, wR_at]
  · rw [if_neg h, wR_ne (by omega)]
    show (if 7 = 7 ∧ i ≤ b ∧ b < c - 1 then M.2.2 7 (b + 1) else M.2.2 7 b) = _
    by_cases g : i ≤ b ∧ b < c - 1
    · rw [if_pos ⟨rfl, g⟩, if_pos g]
    · rw [if_neg (fun w => g w.2), if_neg g]
theorem p_tk_t {M : tk_M} {i c : Nat} : (p_tk M i c).2.2 6 2 = M.2.2 7 i := wR_at _ _ _ _
theorem p_tk_1 {M : tk_M} {i c : Nat} : (p_tk M i c).1 = (wI M 6 3 (nI (c - 1))).1 := rfl
theorem p_tk_at {M : tk_M} {i c a b : Nat} (h : ¬ (a = 6 ∧ b = 3)) : (p_tk M i c).1 a b = M.1 a b := by
  rw [p_tk_1, wI_ne h]
theorem p_tk_R {M : tk_M} {i c a b : Nat} (h1 : a ≠ 7) (h2 : a ≠ 6) : (p_tk M i c).2.2 a b = M.2.2 a b := by
  unfold p_tk
  rw [wR_ne (by omega), wR_ne (by omega)]
  show (if a = 7 ∧ i ≤ b ∧ b < c - 1 then M.2.2 7 (b + 1) else M.2.2 a b) = _
  rw [if_neg (by omega)]
/-- which old row lies at place b -/
def p_ix (i c b : Nat) : Nat := if i ≤ b ∧ b < c - 1 then b + 1 else b
theorem po.tk {M : tk_M} {c i : Nat} (h : po M c) (hi : i < c) : po (p_tk M i c) (c - 1) ∧ ∀ b, b < 60 → (p_tk M i c).2.2 7 b ≠ M.2.2 7 i := by
  obtain ⟨h1, h2, h3, h4, h5, h6⟩ := h
  have hr : ∀ b, (p_tk M i c).2.2 7 b = if b = c - 1 then M.2.2 6 2 else M.2.2 7 (p_ix i c b) := by
    intro b
    rw [p_tk_r]
    unfold p_ix
    by_cases g : b = c - 1
    · rw [if_pos g, if_pos g]
    · rw [if_neg g, if_neg g]
      split <;> rfl
  have hx : ∀ b, b < 60 → b ≠ c - 1 → p_ix i c b < 60 ∧ p_ix i c b ≠ i := by
    intro b w1 w2
    unfold p_ix
    split <;> omega
  refine ⟨⟨by omega, ?_, ?_, ?_, ?_, ?_⟩, ?_⟩
  · rw [p_tk_1]; exact wI_at _ _ _ _
  · intro b hb
    rw [hr]
    by_cases g : b = c - 1
    · rw [if_pos g]; exact h4
    · rw [if_neg g]; exact h3 _ (hx b hb g).1
  · rw [p_tk_t]; exact h3 i (by omega)
  · intro a b ha hb
    rw [hr, hr]
    by_cases g : a = c - 1
    · by_cases g2 : b = c - 1
      · intro _; omega
      · rw [if_pos g, if_neg g2]
        exact fun w => absurd w.symm (h6 _ (hx b hb g2).1)
    · by_cases g2 : b = c - 1
      · rw [if_neg g, if_pos g2]
        exact fun w => absurd w (h6 _ (hx a ha g).1)
      · rw [if_neg g, if_neg g2]
        intro w
        have := h5 _ _ (hx a ha g).1 (hx b hb g2).1 w
        unfold p_ix at this
        split at this <;> split at this <;> omega
  · intro a ha
    rw [hr, p_tk_t]
    by_cases g : a = c - 1
    · rw [if_pos g]; exact fun w => h6 i (by omega) w.symm
    · rw [if_neg g]
      exact fun w => (hx a ha g).2 (h5 _ _ (hx a ha g).1 (by omega) w)
  · intro b hb
    rw [hr]
    by_cases g : b = c - 1
    · rw [if_pos g]; exact fun w => h6 i (by omega) w.symm
    · rw [if_neg g]
      exact fun w => (hx b hb g).2 (h5 _ _ (hx b hb g).1 (by omega) w)
theorem p_q_wI {M : tk_M} {c i k : Nat} {v : Int32} : p_q (wI M i k v) c = p_q M c := rfl
def k_h0 (M : tk_M) (c q f t j : Nat) : tk_M := if M.1 (eN t j) 0 ≤ M.1 q 4 then k_snd (wI M (eN t j) 0 (M.1 q 4)) c [nI 1, nI t, nI f, nI j, M.1 q 4, M.1 (eN t j) 2, M.1 (eN t j) 3, M.1 (eN t j) 1] else M
def k_h2 (M : tk_M) (c q f t j : Nat) : tk_M := if M.1 (eN t j) 0 ≤ M.1 q 4 then k_snd (e_acc M (eN t j) (M.1 q 4) (M.1 q 5) (M.1 q 6)) c [nI 3, nI t, nI f, nI j, M.1 q 4, -1, 0, 0] else M
def k_h3 (M : tk_M) (c q t j : Nat) : tk_M := if M.1 (eN t j) 5 = 2 ∧ M.1 (eN t j) 6 = M.1 q 4 then k_snd (wI M (eN t j) 5 3) c [nI 4, nI t, nI (j % 2), nI j, 0, M.1 (eN t j) 7, M.1 (eN t j) 8, 0] else M
def k_h4 (M : tk_M) (c q t j : Nat) : tk_M := if n_last (n_ent M (jN j + 4) (M.1 q 5) (M.1 q 6)) (jN j + 4) = -1 then n_ent M (jN j + 4) (M.1 q 5) (M.1 q 6) else (k_oth (n_ent M (jN j + 4) (M.1 q 5) (M.1 q 6)) c 3 (fun s => [nI 5, nI t, nI s, nI j, 0, n_last (n_ent M (jN j + 4) (M.1 q 5) (M.1 q 6)) (jN j + 4), 0, 0]) 3).1
def k_pm3 (G : Nat → gJ) (M : tk_M) (c x j : Nat) (y be : Int32) : tk_M := if y = -1 ∨ ¬ M.1 (jN j) 8 = 0 ∨ k_htw G M x j y.toInt 8 = true then e_end M (eN x j) else (k_oth (e_clm M (eN x j) y (be + 1)) c x (fun t => [nI 2, nI x, nI t, nI j, (e_clm M (eN x j) y (be + 1)).1 (eN x j) 6, (e_clm M (eN x j) y (be + 1)).1 (eN x j) 7, (e_clm M (eN x j) y (be + 1)).1 (eN x j) 8, 0]) 3).1
noncomputable def k_pm2 (G : Nat → gJ) (nw : Int) (M : tk_M) (c x j : Nat) (la be : Int32) : tk_M := k_pm3 G M c x j (if M.1 (eN x j) 4 < la then la else iI (nxI (G j) nw la.toInt)) be
noncomputable def k_h1 (G : Nat → gJ) (nw : Int) (M : tk_M) (c q x j : Nat) : tk_M := if (M.1 (eN x j) 5 = 1 ∧ M.1 (eN x j) 6 = M.1 q 4) ∧ M.1 (eN x j) 0 = M.1 q 4 then k_pm2 G nw M c x j (if M.1 (eN x j) 1 < M.1 q 7 then M.1 q 5 else M.1 (eN x j) 2) (if M.1 (eN x j) 1 < M.1 q 7 then M.1 q 6 else M.1 (eN x j) 3) else M
theorem e_end_2 (M : tk_M) (i : Nat) : (e_end M i).2 = M.2 := rfl
theorem e_end_at {M : tk_M} {i a b : Nat} (h : a ≠ i) : (e_end M i).1 a b = M.1 a b := by
  unfold e_end
  rw [wI_ne (by omega), wI_ne (by omega), wI_ne (by omega), wI_ne (by omega)]
theorem e_acc_at {M : tk_M} {i a b : Nat} {x y z : Int32} (h : a ≠ i) : (e_acc M i x y z).1 a b = M.1 a b := by
  unfold e_acc
  rw [wI_ne (by omega), wI_ne (by omega), wI_ne (by omega), wI_ne (by omega)]
theorem e_clm_at {M : tk_M} {i a b : Nat} {x y : Int32} (h : a ≠ i) : (e_clm M i x y).1 a b = M.1 a b := by
  unfold e_clm
  rw [wI_ne (by omega), wI_ne (by omega), wI_ne (by omega), e_acc_at h]
theorem e_beg_at {M : tk_M} {i a b : Nat} {x : Int32} (h : a ≠ i) : (e_beg M i x).1 a b = M.1 a b := by
  unfold e_beg
  rw [wI_ne (by omega), wI_ne (by omega), wI_ne (by omega), e_end_at h]
theorem e_lrn_at {M : tk_M} {i a b : Nat} {x : Int32} (h : a ≠ i) : (e_lrn M i x).1 a b = M.1 a b := by
  unfold e_lrn
  generalize (if M.1 i 4 < x then x else M.1 i 4) = v
  split
  · rw [e_end_at h, wI_ne (by omega)]
  · rw [wI_ne (by omega)]
theorem n_ent_at {M : tk_M} {i a b : Nat} {x g : Int32} (h1 : a ≠ i) (h2 : a ≠ i + 1) (h3 : a ≠ i + 2) : (n_ent M i x g).1 a b = M.1 a b := by
  unfold n_ent
  simp only
  split
  · rw [wI_ne (by omega), wI_ne (by omega), wI_ne (by omega), wI_ne (by omega)]
  · rw [wI_ne (by omega)]
theorem n_ent_2 {M : tk_M} {i : Nat} {x g : Int32} : (n_ent M i x g).2 = M.2 := by
  unfold n_ent
  simp only
  split <;> rfl
/-- how many effects then -/
def n_ec (M : tk_M) (i k : Nat) (x g : Int32) : Nat := if M.1 i 3 < g ∧ n_last M i < x ∧ k < 40 then k + 1 else k
theorem n_ent_k {M : tk_M} {i k : Nat} {x g : Int32} (hc : M.1 i 2 = nI k) (hk : k ≤ 40) : (n_ent M i x g).1 i 2 = nI (n_ec M i k x g) ∧ n_ec M i k x g ≤ 40 := by
  have e : M.1 i 2 < 40 ↔ k < 40 := by
    rw [hc]
    exact ⟨fun w => n_lt40 hk w, fun w => nI_lt (b := 40) w (by decide)⟩
  unfold n_ent n_ec
  simp only
  by_cases g0 : M.1 i 3 < g ∧ n_last M i < x ∧ k < 40
  · rw [if_pos g0, if_pos ⟨g0.1, g0.2.1, e.mpr g0.2.2⟩, wI_at, hc]
    exact ⟨(nI_succ k).symm, by omega⟩
  · rw [if_neg g0, if_neg (fun w => g0 ⟨w.1, w.2.1, e.mp w.2.2⟩), wI_nk (by decide)]
    exact ⟨hc, hk⟩
noncomputable def k_wk1 (G : Nat → gJ) (nw : Int) (x : Nat) (S : tk_M × Nat × Nat) (j : Nat) : tk_M × Nat × Nat :=
  if k_hw (G j) nw S.1 x j = true then ((k_oth (e_beg S.1 (eN x j) (nI x)) S.2.1 x (fun t => [nI 0, nI x, nI t, nI j, (e_beg S.1 (eN x j) (nI x)).1 (eN x j) 6, (e_beg S.1 (eN x j) (nI x)).1 (eN x j) 7, (e_beg S.1 (eN x j) (nI x)).1 (eN x j) 8, 0]) 3).1, (k_oth (e_beg S.1 (eN x j) (nI x)) S.2.1 x (fun t => [nI 0, nI x, nI t, nI j, (e_beg S.1 (eN x j) (nI x)).1 (eN x j) 6, (e_beg S.1 (eN x j) (nI x)).1 (eN x j) 7, (e_beg S.1 (eN x j) (nI x)).1 (eN x j) 8, 0]) 3).2, S.2.2 + 1)
  else S
noncomputable def k_wk (G : Nat → gJ) (nw : Int) (x : Nat) (M : tk_M) (c : Nat) : Nat → tk_M × Nat × Nat
  | 0 => (M, c, 0)
  | j + 1 => k_wk1 G nw x (k_wk G nw x M c j) j
theorem po.beg {M : tk_M} {c i : Nat} {x : Int32} (h : po M c) (hi : i ≠ 6) : po (e_beg M i x) c := ⟨h.1, (e_beg_at (Ne.symm hi)).trans h.2.1, h.2.2⟩
theorem k_wk_p {G : Nat → gJ} {nw : Int} {x : Nat} {M : tk_M} {c : Nat} (h : po M c) : ∀ j, po (k_wk G nw x M c j).1 (k_wk G nw x M c j).2.1
  | 0 => h
  | j + 1 => by
    have ih := k_wk_p (G := G) (nw := nw) (x := x) h j
    rw [k_wk]
    generalize k_wk G nw x M c j = S at ih
    unfold k_wk1
    split
    · exact k_oth_p (ih.beg (by have := eN_ge x j; omega)) 3
    · exact ih
theorem k_wk_at {G : Nat → gJ} {nw : Int} {x : Nat} {M : tk_M} {c a b : Nat} (h : po M c) (h0 : a < 8 ∨ 70 ≤ a) (h1 : ¬ (a = 6 ∧ b = 3)) : ∀ j, (∀ i, i < j → a ≠ eN x i) → (k_wk G nw x M c j).1.1 a b = M.1 a b
  | 0, _ => rfl
  | j + 1, h2 => by
    have ih := k_wk_at (b := b) (G := G) (nw := nw) (x := x) h h0 h1 j (fun i hi => h2 i (by omega))
    have ip := k_wk_p (G := G) (nw := nw) (x := x) h j
    rw [k_wk]
    generalize k_wk G nw x M c j = S at ih ip
    unfold k_wk1
    split
    · simp only
      rw [k_oth_at (ip.beg (by have := eN_ge x j; omega)) h0 h1, e_beg_at (h2 j (by omega))]; exact ih
    · exact ih
theorem k_wk_2 {G : Nat → gJ} {nw : Int} {x : Nat} {M : tk_M} {c : Nat} : ∀ j, (k_wk G nw x M c j).1.2 = M.2
  | 0 => rfl
  | j + 1 => by
    have ih := k_wk_2 (G := G) (nw := nw) (x := x) (M := M) (c := c) j
    rw [k_wk]
    generalize k_wk G nw x M c j = S at ih
    unfold k_wk1
    split
    · simp only
      rw [k_oth_2]; exact ih
    · exact ih
/-- cells of the class's calendar -/
def CK (M M' : tk_M) : Prop := M'.2 = M.2 ∧ ∀ a b, 70 ≤ a → a < 142 → (∀ j, a ≠ jN j + 4 ∧ a ≠ jN j + 4 + 1 ∧ a ≠ jN j + 4 + 2) → M'.1 a b = M.1 a b
set_option maxHeartbeats 4000000 in
set_option maxRecDepth 100000 in
theorem c_K_isHeard4 {l : Launch} {E : tk_E} {M : tk_M} {q t : Nat} (hq8 : 9 ≤ q) (hq7 : q < 70) (hl0 : M.1 q 0 = nI 4) (hl2 : M.1 q 2 = nI t) (hs : t < 2) (h01 : M.1 4 t = 0 ∨ M.1 4 t = 1) : tk_Mt l y_K_isHeard b_K_isHeard 2 (some .boolean) 0 E [.ref (E.1 + 0), .ref (E.1 + q)] M M (some (.int (M.1 4 t))) := by
  refine tk_ofV (by decide +kernel) [some (.ref (E.1 + 0)), some (.ref (E.1 + q))] rfl (Nat.le_of_ble_eq_true rfl) ?_
  intro p e s m args below meth c cx hB
  refine v_aload_n cx (tk_dc d_K_isHeard 0 rfl) rfl ?_
  refine v_getI cx (tk_dc d_K_isHeard 1 rfl) f_K_172 (o_L (by omega) hq7) (by decide) (by rfl) ?_
  refine v_eqi (nI 4) (hl0) ?_
  refine v_iconst cx (tk_dc d_K_isHeard 2 rfl) (4) (by decide) ?_
  refine v_icmp_ne cx (tk_dc d_K_isHeard 3 rfl) 20 (by decide) (fun h => absurd (rfl) h) (fun _ => ?_)
  refine v_aload_n cx (tk_dc d_K_isHeard 4 rfl) rfl ?_
  refine v_getC cx 4 (tk_dc d_K_isHeard 5 rfl) f_K_27 o_K (by decide) (by rfl) ?_
  refine v_aload_n cx (tk_dc d_K_isHeard 6 rfl) rfl ?_
  refine v_getI cx (tk_dc d_K_isHeard 7 rfl) f_K_211 (o_L (by omega) hq7) (by decide) (by rfl) ?_
  refine v_eqi (nI t) (hl2) ?_
  refine w_zald cx (tk_dc d_K_isHeard 8 rfl) o_dk t (rfl) (by omega) (by decide) ?_
  refine v_goto cx (tk_dc d_K_isHeard 9 rfl) 32 (by decide) ?_
  exact v_zret cx hB (tk_dc d_K_isHeard 16 rfl) (by first | exact Or.inl rfl | exact Or.inr rfl | exact b01_01 _ | assumption) (rfl) (rfl)

set_option maxHeartbeats 4000000 in
set_option maxRecDepth 100000 in
theorem c_K_isHeard {l : Launch} {E : tk_E} {M : tk_M} {q t kd : Nat} (hq8 : 9 ≤ q) (hq7 : q < 70) (hl0 : M.1 q 0 = nI kd) (hkd : kd ≤ 5) (hk4 : kd ≠ 4) (hl2 : M.1 q 2 = nI t) (hs : t < 3) (h01 : M.1 (sN t) 1 = 0 ∨ M.1 (sN t) 1 = 1) : tk_Mt l y_K_isHeard b_K_isHeard 2 (some .boolean) 0 E [.ref (E.1 + 0), .ref (E.1 + q)] M M (some (.int (M.1 (sN t) 1))) := by
  refine tk_ofV (by decide +kernel) [some (.ref (E.1 + 0)), some (.ref (E.1 + q))] rfl (Nat.le_of_ble_eq_true rfl) ?_
  intro p e s m args below meth c cx hB
  refine v_aload_n cx (tk_dc d_K_isHeard 0 rfl) rfl ?_
  refine v_getI cx (tk_dc d_K_isHeard 1 rfl) f_K_172 (o_L (by omega) hq7) (by decide) (by rfl) ?_
  refine v_eqi (nI kd) (hl0) ?_
  refine v_iconst cx (tk_dc d_K_isHeard 2 rfl) (4) (by decide) ?_
  refine v_icmp_ne cx (tk_dc d_K_isHeard 3 rfl) 20 (by decide) (fun _ => ?_) (fun h => absurd h (fun w => hk4 (nI_inj (b := 4) (by omega) (by decide) w)))
  refine v_aload_n cx (tk_dc d_K_isHeard 10 rfl) rfl ?_
  refine v_getC cx 3 (tk_dc d_K_isHeard 11 rfl) f_K_23 o_K (by decide) (by rfl) ?_
  refine v_aload_n cx (tk_dc d_K_isHeard 12 rfl) rfl ?_
  refine v_getI cx (tk_dc d_K_isHeard 13 rfl) f_K_211 (o_L (by omega) hq7) (by decide) (by rfl) ?_
  refine v_eqi (nI t) (hl2) ?_
  refine w_aald cx (sN t) (tk_dc d_K_isHeard 14 rfl) o_ss t (rfl) (by omega) (by decide) (rfl) ?_
  refine v_getI cx (tk_dc d_K_isHeard 15 rfl) f_K_123 (o_S (by assumption)) (by decide) (by rfl) ?_
  exact v_zret cx hB (tk_dc d_K_isHeard 16 rfl) (by first | exact Or.inl rfl | exact Or.inr rfl | exact b01_01 _ | assumption) (rfl) (rfl)

set_option maxHeartbeats 4000000 in
set_option maxRecDepth 100000 in
theorem c_K_seatOf {l : Launch} {E : tk_E} {M : tk_M} {q t j : Nat} (hq8 : 9 ≤ q) (hq7 : q < 70) (hl2 : M.1 q 2 = nI t) (hl3 : M.1 q 3 = nI j) (hs : t < 3) (hj : j < 8) : tk_Mt l y_K_seatOf b_K_seatOf 2 (some (.object "TickKeeper$Seat")) 0 E [.ref (E.1 + 0), .ref (E.1 + q)] M M (some (.ref (E.1 + eN t j))) := by
  refine tk_ofV (by decide +kernel) [some (.ref (E.1 + 0)), some (.ref (E.1 + q))] rfl (Nat.le_of_ble_eq_true rfl) ?_
  intro p e s m args below meth c cx hB
  refine v_aload_n cx (tk_dc d_K_seatOf 0 rfl) rfl ?_
  refine v_getC cx 3 (tk_dc d_K_seatOf 1 rfl) f_K_23 o_K (by decide) (by rfl) ?_
  refine v_aload_n cx (tk_dc d_K_seatOf 2 rfl) rfl ?_
  refine v_getI cx (tk_dc d_K_seatOf 3 rfl) f_K_211 (o_L (by omega) hq7) (by decide) (by rfl) ?_
  refine v_eqi (nI t) (hl2) ?_
  refine w_aald cx (sN t) (tk_dc d_K_seatOf 4 rfl) o_ss t (rfl) (by omega) (by decide) (rfl) ?_
  refine v_getC cx (sN _ + 1) (tk_dc d_K_seatOf 5 rfl) f_K_126 (o_S (by assumption)) (by decide) (by rfl) ?_
  refine v_aload_n cx (tk_dc d_K_seatOf 6 rfl) rfl ?_
  refine v_getI cx (tk_dc d_K_seatOf 7 rfl) f_K_214 (o_L (by omega) hq7) (by decide) (by rfl) ?_
  refine v_eqi (nI j) (hl3) ?_
  refine w_aald cx (eN t j) (tk_dc d_K_seatOf 8 rfl) (o_S1 hs) j (rfl) (by omega) (by decide) (rfl) ?_
  exact v_aret cx hB (tk_dc d_K_seatOf 9 rfl) (rfl) (rfl)

set_option maxHeartbeats 4000000 in
set_option maxRecDepth 100000 in
theorem c_K_answer {l : Launch} {E : tk_E} {M : tk_M} {cn q f t j : Nat} {kk : Int32} (hp : po M cn) (hq8 : 9 ≤ q) (hq7 : q < 70) (hl1 : M.1 q 1 = nI f) (hl2 : M.1 q 2 = nI t) (hl3 : M.1 q 3 = nI j)  : tk_Mt l y_K_answer b_K_answer 3 (some (.object "TickKeeper$Letter")) 1 E [.ref (E.1 + 0), .ref (E.1 + q), .int (kk)] M (k_snd M cn [kk, nI t, nI f, nI j, 0, -1, 0, 0]) (some (.ref (E.1 + p_q M cn))) := by
  refine tk_ofV (by decide +kernel) [some (.ref (E.1 + 0)), some (.ref (E.1 + q)), some (.int (kk))] rfl (Nat.le_of_ble_eq_true rfl) ?_
  intro p e s m args below meth c cx hB
  refine v_aload_n cx (tk_dc d_K_answer 0 rfl) rfl ?_
  refine v_getC cx 6 (tk_dc d_K_answer 1 rfl) f_K_40 o_K (by decide) (by rfl) ?_
  refine v_iload_n cx (tk_dc d_K_answer 2 rfl) rfl ?_
  refine v_aload_n cx (tk_dc d_K_answer 3 rfl) rfl ?_
  refine v_getI cx (tk_dc d_K_answer 4 rfl) f_K_211 (o_L (by omega) hq7) (by decide) (by rfl) ?_
  refine v_eqi (nI t) (hl2) ?_
  refine v_aload_n cx (tk_dc d_K_answer 5 rfl) rfl ?_
  refine v_getI cx (tk_dc d_K_answer 6 rfl) f_K_217 (o_L (by omega) hq7) (by decide) (by rfl) ?_
  refine v_eqi (nI f) (hl1) ?_
  refine v_aload_n cx (tk_dc d_K_answer 7 rfl) rfl ?_
  refine v_getI cx (tk_dc d_K_answer 8 rfl) f_K_214 (o_L (by omega) hq7) (by decide) (by rfl) ?_
  refine v_eqi (nI j) (hl3) ?_
  refine v_callV (rest := _) cx (tk_dc d_K_answer 9 rfl) m_K_220 kn_P_open kv_P_open k_P_open o_P (by decide) rfl (c_P_open hp.1 hp.2.1 (fun h => by have := hp.2.2.1 _ h; omega) (fun h => (hp.2.2.1 _ h).2)) rfl rfl (Nat.le_of_ble_eq_true rfl) (by decide) ?_
  exact v_aret cx hB (tk_dc d_K_answer 10 rfl) (rfl) (rfl)

set_option maxHeartbeats 4000000 in
set_option maxRecDepth 100000 in
theorem c_K_hearPrepare {l : Launch} {E : tk_E} {M : tk_M} {cn q f t j : Nat} (hp : po M cn) (hq8 : 9 ≤ q) (hq7 : q < 70) (hl1 : M.1 q 1 = nI f) (hl2 : M.1 q 2 = nI t) (hl3 : M.1 q 3 = nI j) (hs : t < 3) (hj : j < 8) (hrow : ∀ b, b < 60 → M.2.2 7 b ≠ q)  : tk_Mt l y_K_hearPrepare b_K_hearPrepare 4 none 2 E [.ref (E.1 + 0), .ref (E.1 + q)] M (k_h0 M cn q f t j) none := by
  refine tk_ofV (by decide +kernel) [some (.ref (E.1 + 0)), some (.ref (E.1 + q)), none, none] rfl (Nat.le_of_ble_eq_true rfl) ?_
  intro p e s m args below meth c cx hB
  have hqe : q ≠ eN t j := by have := eN_ge t j; omega
  have hqq : q ≠ p_q M cn := hp.ne (by omega) hrow
  have hqe2 : eN t j ≠ p_q M cn := by have := hp.q; have := eN_ge t j; omega
  have hpq := hp.q
  refine v_aload_n cx (tk_dc d_K_hearPrepare 0 rfl) rfl ?_
  refine v_aload_n cx (tk_dc d_K_hearPrepare 1 rfl) rfl ?_
  refine v_callV (rest := _) cx (tk_dc d_K_hearPrepare 2 rfl) m_K_193 kn_K_seatOf kv_K_seatOf k_K_seatOf o_K (by decide) rfl (c_K_seatOf hq8 hq7 hl2 hl3 hs hj) rfl rfl (Nat.le_of_ble_eq_true rfl) (by decide) ?_
  refine v_astore_n (lo' := [_, _, _, _]) cx (tk_dc d_K_hearPrepare 3 rfl) (by decide) rfl ?_
  refine v_aload_n cx (tk_dc d_K_hearPrepare 4 rfl) rfl ?_
  refine v_getI cx (tk_dc d_K_hearPrepare 5 rfl) f_K_244 (o_E hs hj) (by decide) (by rfl) ?_
  refine v_aload_n cx (tk_dc d_K_hearPrepare 6 rfl) rfl ?_
  refine v_getI cx (tk_dc d_K_hearPrepare 7 rfl) f_K_236 (o_L (by omega) hq7) (by decide) (by rfl) ?_
  refine v_icmp_le cx (tk_dc d_K_hearPrepare 8 rfl) 18 (by decide) (fun h14 => ?_) (fun h14 => ?_)
  · have g14 : M.1 (eN t j) 0 ≤ M.1 q 4 := h14
    refine v_aload_n cx (tk_dc d_K_hearPrepare 10 rfl) rfl ?_
    refine v_aload_n cx (tk_dc d_K_hearPrepare 11 rfl) rfl ?_
    refine v_getI cx (tk_dc d_K_hearPrepare 12 rfl) f_K_236 (o_L (by omega) hq7) (by decide) (by rfl) ?_
    refine v_putI cx (tk_dc d_K_hearPrepare 13 rfl) f_K_244 (o_E hs hj) (by decide) (by rfl) ⟨rfl, rfl⟩ ?_
    refine v_aload_n cx (tk_dc d_K_hearPrepare 14 rfl) rfl ?_
    refine v_aload_n cx (tk_dc d_K_hearPrepare 15 rfl) rfl ?_
    refine v_iconst cx (tk_dc d_K_hearPrepare 16 rfl) (1) (by decide) ?_
    refine v_callV (rest := _) cx (tk_dc d_K_hearPrepare 17 rfl) m_K_247 kn_K_answer kv_K_answer k_K_answer o_K (by decide) rfl (c_K_answer (M := (wI M (eN t j) 0 (M.1 q 4))) (hp.wI (by have := eN_ge t j; omega)) hq8 hq7 (by rw [wI_ne (by omega)]; exact hl1) (by rw [wI_ne (by omega)]; exact hl2) (by rw [wI_ne (by omega)]; exact hl3)) rfl rfl (Nat.le_of_ble_eq_true rfl) (by decide) ?_
    refine v_astore_n (lo' := [_, _, _, _]) cx (tk_dc d_K_hearPrepare 18 rfl) (by decide) rfl ?_
    refine v_aload_n cx (tk_dc d_K_hearPrepare 19 rfl) rfl ?_
    refine v_aload_n cx (tk_dc d_K_hearPrepare 20 rfl) rfl ?_
    refine v_getI cx (tk_dc d_K_hearPrepare 21 rfl) f_K_236 (o_L (by omega) hq7) (by decide) (by rfl) ?_
    refine v_eqi (M.1 q 4) ((k_snd_q (M := (wI M (eN t j) 0 (M.1 q 4))) hqq (by omega)).trans (wI_ne (by omega))) ?_
    refine v_putI cx (tk_dc d_K_hearPrepare 22 rfl) f_K_236 (o_L hpq.1 hpq.2) (by decide) (by rfl) ⟨rfl, rfl⟩ ?_
    refine v_aload_n cx (tk_dc d_K_hearPrepare 23 rfl) rfl ?_
    refine v_aload_n cx (tk_dc d_K_hearPrepare 24 rfl) rfl ?_
    refine v_getI cx (tk_dc d_K_hearPrepare 25 rfl) f_K_224 (o_E hs hj) (by decide) (by rfl) ?_
    refine v_eqi (M.1 (eN t j) 2) (by (try simp only [p_q_wI, wI_ne (show ¬ (eN t j = p_q M cn ∧ _) from fun w => hqe2 w.1)]); exact (k_snd_q (M := (wI M (eN t j) 0 (M.1 q 4))) (b := 2) hqe2 (by have := eN_ge t j; omega)).trans (wI_nk (b := 2) (by decide))) ?_
    refine v_putI cx (tk_dc d_K_hearPrepare 26 rfl) f_K_197 (o_L hpq.1 hpq.2) (by decide) (by rfl) ⟨rfl, rfl⟩ ?_
    refine v_aload_n cx (tk_dc d_K_hearPrepare 27 rfl) rfl ?_
    refine v_aload_n cx (tk_dc d_K_hearPrepare 28 rfl) rfl ?_
    refine v_getI cx (tk_dc d_K_hearPrepare 29 rfl) f_K_251 (o_E hs hj) (by decide) (by rfl) ?_
    refine v_eqi (M.1 (eN t j) 3) (by (try simp only [p_q_wI, wI_ne (show ¬ (eN t j = p_q M cn ∧ _) from fun w => hqe2 w.1)]); exact (k_snd_q (M := (wI M (eN t j) 0 (M.1 q 4))) (b := 3) hqe2 (by have := eN_ge t j; omega)).trans (wI_nk (b := 3) (by decide))) ?_
    refine v_putI cx (tk_dc d_K_hearPrepare 30 rfl) f_K_243 (o_L hpq.1 hpq.2) (by decide) (by rfl) ⟨rfl, rfl⟩ ?_
    refine v_aload_n cx (tk_dc d_K_hearPrepare 31 rfl) rfl ?_
    refine v_aload_n cx (tk_dc d_K_hearPrepare 32 rfl) rfl ?_
    refine v_getI cx (tk_dc d_K_hearPrepare 33 rfl) f_K_254 (o_E hs hj) (by decide) (by rfl) ?_
    refine v_eqi (M.1 (eN t j) 1) (by (try simp only [p_q_wI, wI_ne (show ¬ (eN t j = p_q M cn ∧ _) from fun w => hqe2 w.1)]); exact (k_snd_q (M := (wI M (eN t j) 0 (M.1 q 4))) (b := 1) hqe2 (by have := eN_ge t j; omega)).trans (wI_nk (b := 1) (by decide))) ?_
    refine v_putI cx (tk_dc d_K_hearPrepare 34 rfl) f_K_257 (o_L hpq.1 hpq.2) (by decide) (by rfl) ⟨rfl, rfl⟩ ?_
    exact v_vret cx hB (tk_dc d_K_hearPrepare 35 rfl) (by unfold k_h0; rw [if_pos g14]; unfold k_snd; rw [p_q_wI, wO_set (by simp), wO_set (by simp), wO_set (by simp), wO_set (by simp)]; rfl)
  · exact v_vret cx hB (tk_dc d_K_hearPrepare 9 rfl) (by unfold k_h0; rw [if_neg h14])

theorem po.acc {M : tk_M} {c i : Nat} {x y z : Int32} (h : po M c) (hi : i ≠ 6) : po (e_acc M i x y z) c := ⟨h.1, (e_acc_at (Ne.symm hi)).trans h.2.1, h.2.2⟩
theorem po.clm {M : tk_M} {c i : Nat} {x y : Int32} (h : po M c) (hi : i ≠ 6) : po (e_clm M i x y) c := ⟨h.1, (e_clm_at (Ne.symm hi)).trans h.2.1, h.2.2⟩
theorem po.ent {M : tk_M} {c i : Nat} {x y : Int32} (h : po M c) (hi : 6 < i) : po (n_ent M i x y) c := ⟨h.1, (n_ent_at (by omega) (by omega) (by omega)).trans h.2.1, by rw [n_ent_2]; exact h.2.2⟩
set_option maxHeartbeats 4000000 in
set_option maxRecDepth 100000 in
theorem c_K_hearAccept {l : Launch} {E : tk_E} {M : tk_M} {cn q f t j : Nat} (hp : po M cn) (hq8 : 9 ≤ q) (hq7 : q < 70) (hl1 : M.1 q 1 = nI f) (hl2 : M.1 q 2 = nI t) (hl3 : M.1 q 3 = nI j) (hs : t < 3) (hj : j < 8) (hrow : ∀ b, b < 60 → M.2.2 7 b ≠ q)  : tk_Mt l y_K_hearAccept b_K_hearAccept 3 none 2 E [.ref (E.1 + 0), .ref (E.1 + q)] M (k_h2 M cn q f t j) none := by
  refine tk_ofV (by decide +kernel) [some (.ref (E.1 + 0)), some (.ref (E.1 + q)), none] rfl (Nat.le_of_ble_eq_true rfl) ?_
  intro p e s m args below meth c cx hB
  have hqe : q ≠ eN t j := by have := eN_ge t j; omega
  have hqq : q ≠ p_q M cn := hp.ne (by omega) hrow
  have hqe2 : eN t j ≠ p_q M cn := by have := hp.q; have := eN_ge t j; omega
  have hpq := hp.q
  refine v_aload_n cx (tk_dc d_K_hearAccept 0 rfl) rfl ?_
  refine v_aload_n cx (tk_dc d_K_hearAccept 1 rfl) rfl ?_
  refine v_callV (rest := _) cx (tk_dc d_K_hearAccept 2 rfl) m_K_193 kn_K_seatOf kv_K_seatOf k_K_seatOf o_K (by decide) rfl (c_K_seatOf hq8 hq7 hl2 hl3 hs hj) rfl rfl (Nat.le_of_ble_eq_true rfl) (by decide) ?_
  refine v_astore_n (lo' := [_, _, _]) cx (tk_dc d_K_hearAccept 3 rfl) (by decide) rfl ?_
  refine v_aload_n cx (tk_dc d_K_hearAccept 4 rfl) rfl ?_
  refine v_getI cx (tk_dc d_K_hearAccept 5 rfl) f_K_244 (o_E hs hj) (by decide) (by rfl) ?_
  refine v_aload_n cx (tk_dc d_K_hearAccept 6 rfl) rfl ?_
  refine v_getI cx (tk_dc d_K_hearAccept 7 rfl) f_K_236 (o_L (by omega) hq7) (by decide) (by rfl) ?_
  refine v_icmp_le cx (tk_dc d_K_hearAccept 8 rfl) 18 (by decide) (fun h14 => ?_) (fun h14 => ?_)
  · have g14 : M.1 (eN t j) 0 ≤ M.1 q 4 := h14
    refine v_aload_n cx (tk_dc d_K_hearAccept 10 rfl) rfl ?_
    refine v_aload_n cx (tk_dc d_K_hearAccept 11 rfl) rfl ?_
    refine v_getI cx (tk_dc d_K_hearAccept 12 rfl) f_K_236 (o_L (by omega) hq7) (by decide) (by rfl) ?_
    refine v_aload_n cx (tk_dc d_K_hearAccept 13 rfl) rfl ?_
    refine v_getI cx (tk_dc d_K_hearAccept 14 rfl) f_K_197 (o_L (by omega) hq7) (by decide) (by rfl) ?_
    refine v_aload_n cx (tk_dc d_K_hearAccept 15 rfl) rfl ?_
    refine v_getI cx (tk_dc d_K_hearAccept 16 rfl) f_K_243 (o_L (by omega) hq7) (by decide) (by rfl) ?_
    refine v_callV (rest := _) cx (tk_dc d_K_hearAccept 17 rfl) m_K_278 kn_E_accept kv_E_accept k_E_accept (o_E hs hj) (by decide) rfl (c_E_accept (o_E hs hj)) rfl rfl (Nat.le_of_ble_eq_true rfl) (by decide) ?_
    refine v_aload_n cx (tk_dc d_K_hearAccept 18 rfl) rfl ?_
    refine v_aload_n cx (tk_dc d_K_hearAccept 19 rfl) rfl ?_
    refine v_iconst cx (tk_dc d_K_hearAccept 20 rfl) (3) (by decide) ?_
    refine v_callV (rest := _) cx (tk_dc d_K_hearAccept 21 rfl) m_K_247 kn_K_answer kv_K_answer k_K_answer o_K (by decide) rfl (c_K_answer (M := (e_acc M (eN t j) (M.1 q 4) (M.1 q 5) (M.1 q 6))) (hp.acc (by have := eN_ge t j; omega)) hq8 hq7 (by rw [e_acc_at hqe]; exact hl1) (by rw [e_acc_at hqe]; exact hl2) (by rw [e_acc_at hqe]; exact hl3)) rfl rfl (Nat.le_of_ble_eq_true rfl) (by decide) ?_
    refine v_aload_n cx (tk_dc d_K_hearAccept 22 rfl) rfl ?_
    refine v_getI cx (tk_dc d_K_hearAccept 23 rfl) f_K_236 (o_L (by omega) hq7) (by decide) (by rfl) ?_
    refine v_eqi (M.1 q 4) ((k_snd_q (M := (e_acc M (eN t j) (M.1 q 4) (M.1 q 5) (M.1 q 6))) hqq (by omega)).trans (e_acc_at hqe)) ?_
    refine v_putI cx (tk_dc d_K_hearAccept 24 rfl) f_K_236 (o_L hpq.1 hpq.2) (by decide) (by rfl) ⟨rfl, rfl⟩ ?_
    exact v_vret cx hB (tk_dc d_K_hearAccept 25 rfl) (by unfold k_h2; rw [if_pos g14]; unfold k_snd; rw [show p_q (e_acc M (eN t j) (M.1 q 4) (M.1 q 5) (M.1 q 6)) cn = p_q M cn from rfl, wO_set (by simp)]; rfl)
  · exact v_vret cx hB (tk_dc d_K_hearAccept 9 rfl) (by unfold k_h2; rw [if_neg h14])

set_option maxHeartbeats 4000000 in
set_option maxRecDepth 100000 in
theorem c_K_hearAccepted {l : Launch} {E : tk_E} {M : tk_M} {cn q t j : Nat} (hp : po M cn) (hq8 : 9 ≤ q) (hq7 : q < 70) (hl2 : M.1 q 2 = nI t) (hl3 : M.1 q 3 = nI j) (hs : t < 3) (hj : j < 8) (hrow : ∀ b, b < 60 → M.2.2 7 b ≠ q)  : tk_Mt l y_K_hearAccepted b_K_hearAccepted 4 none 2 E [.ref (E.1 + 0), .ref (E.1 + q)] M (k_h3 M cn q t j) none := by
  refine tk_ofV (by decide +kernel) [some (.ref (E.1 + 0)), some (.ref (E.1 + q)), none, none] rfl (Nat.le_of_ble_eq_true rfl) ?_
  intro p e s m args below meth c cx hB
  have hqe : q ≠ eN t j := by have := eN_ge t j; omega
  have hqq : q ≠ p_q M cn := hp.ne (by omega) hrow
  have hqe2 : eN t j ≠ p_q M cn := by have := hp.q; have := eN_ge t j; omega
  have hpq := hp.q
  refine v_aload_n cx (tk_dc d_K_hearAccepted 0 rfl) rfl ?_
  refine v_aload_n cx (tk_dc d_K_hearAccepted 1 rfl) rfl ?_
  refine v_callV (rest := _) cx (tk_dc d_K_hearAccepted 2 rfl) m_K_193 kn_K_seatOf kv_K_seatOf k_K_seatOf o_K (by decide) rfl (c_K_seatOf hq8 hq7 hl2 hl3 hs hj) rfl rfl (Nat.le_of_ble_eq_true rfl) (by decide) ?_
  refine v_astore_n (lo' := [_, _, _, _]) cx (tk_dc d_K_hearAccepted 3 rfl) (by decide) rfl ?_
  refine v_aload_n cx (tk_dc d_K_hearAccepted 4 rfl) rfl ?_
  refine v_iconst cx (tk_dc d_K_hearAccepted 5 rfl) (2) (by decide) ?_
  refine v_aload_n cx (tk_dc d_K_hearAccepted 6 rfl) rfl ?_
  refine v_getI cx (tk_dc d_K_hearAccepted 7 rfl) f_K_236 (o_L (by omega) hq7) (by decide) (by rfl) ?_
  refine v_callV (rest := _) cx (tk_dc d_K_hearAccepted 8 rfl) m_K_258 kn_E_isAt kv_E_isAt k_E_isAt (o_E hs hj) (by decide) rfl (c_E_isAt (o_E hs hj)) rfl rfl (Nat.le_of_ble_eq_true rfl) (by decide) ?_
  refine v_if_ne cx (tk_dc d_K_hearAccepted 9 rfl) 19 (by decide) (fun h15 => ?_) (fun h15 => ?_)
  · have g15 := of_decide_eq_true (b01_nz h15)
    refine v_aload_n cx (tk_dc d_K_hearAccepted 11 rfl) rfl ?_
    refine v_iconst cx (tk_dc d_K_hearAccepted 12 rfl) (3) (by decide) ?_
    refine v_putI cx (tk_dc d_K_hearAccepted 13 rfl) f_K_281 (o_E hs hj) (by decide) (by rfl) ⟨rfl, rfl⟩ ?_
    refine v_aload_n cx (tk_dc d_K_hearAccepted 14 rfl) rfl ?_
    refine v_getC cx 6 (tk_dc d_K_hearAccepted 15 rfl) f_K_40 o_K (by decide) (by rfl) ?_
    refine v_iconst cx (tk_dc d_K_hearAccepted 16 rfl) (4) (by decide) ?_
    refine v_aload_n cx (tk_dc d_K_hearAccepted 17 rfl) rfl ?_
    refine v_getI cx (tk_dc d_K_hearAccepted 18 rfl) f_K_211 (o_L (by omega) hq7) (by decide) (by rfl) ?_
    refine v_eqi (nI t) (by rw [wI_ne (by omega)]; exact hl2) ?_
    refine v_aload_n cx (tk_dc d_K_hearAccepted 19 rfl) rfl ?_
    refine v_getI cx (tk_dc d_K_hearAccepted 20 rfl) f_K_214 (o_L (by omega) hq7) (by decide) (by rfl) ?_
    refine v_eqi (nI j) (by rw [wI_ne (by omega)]; exact hl3) ?_
    refine v_iconst cx (tk_dc d_K_hearAccepted 21 rfl) (2) (by decide) ?_
    refine v_irem cx (tk_dc d_K_hearAccepted 22 rfl) (by decide) ?_
    refine v_eqi (nI (j % 2)) (by rw [iI_nI, show (2 : Int32) = iI 2 from rfl, iI_remN (by omega) (by omega) (by omega) (by omega), iI_nI]; congr 1) ?_
    refine v_aload_n cx (tk_dc d_K_hearAccepted 23 rfl) rfl ?_
    refine v_getI cx (tk_dc d_K_hearAccepted 24 rfl) f_K_214 (o_L (by omega) hq7) (by decide) (by rfl) ?_
    refine v_eqi (nI j) (by rw [wI_ne (by omega)]; exact hl3) ?_
    refine v_callV (rest := _) cx (tk_dc d_K_hearAccepted 25 rfl) m_K_220 kn_P_open kv_P_open k_P_open o_P (by decide) rfl (c_P_open (M := (wI M (eN t j) 5 3)) hp.1 (by rw [wI_ne (by have := eN_ge t j; omega)]; exact hp.2.1) (fun h => by have := hp.2.2.1 _ h; exact Nat.le_trans (by decide) this.1) (fun h => (hp.2.2.1 _ h).2)) rfl rfl (Nat.le_of_ble_eq_true rfl) (by decide) ?_
    refine v_eqM (M' := k_snd (wI M (eN t j) 5 3) cn [nI 4, nI t, nI (j % 2), nI j, 0, -1, 0, 0]) rfl ?_
    refine v_astore_n (lo' := [_, _, _, _]) cx (tk_dc d_K_hearAccepted 26 rfl) (by decide) rfl ?_
    refine v_aload_n cx (tk_dc d_K_hearAccepted 27 rfl) rfl ?_
    refine v_aload_n cx (tk_dc d_K_hearAccepted 28 rfl) rfl ?_
    refine v_getI cx (tk_dc d_K_hearAccepted 29 rfl) f_K_237 (o_E hs hj) (by decide) (by rfl) ?_
    refine v_eqi (M.1 (eN t j) 7) (by (try simp only [p_q_wI, wI_ne (show ¬ (eN t j = p_q M cn ∧ _) from fun w => hqe2 w.1)]); exact (k_snd_q (M := (wI M (eN t j) 5 3)) (b := 7) hqe2 (by have := eN_ge t j; omega)).trans (wI_nk (b := 7) (by decide))) ?_
    refine v_putI cx (tk_dc d_K_hearAccepted 30 rfl) f_K_197 (o_L hpq.1 hpq.2) (by decide) (by rfl) ⟨rfl, rfl⟩ ?_
    refine v_aload_n cx (tk_dc d_K_hearAccepted 31 rfl) rfl ?_
    refine v_aload_n cx (tk_dc d_K_hearAccepted 32 rfl) rfl ?_
    refine v_getI cx (tk_dc d_K_hearAccepted 33 rfl) f_K_240 (o_E hs hj) (by decide) (by rfl) ?_
    refine v_eqi (M.1 (eN t j) 8) (by (try simp only [p_q_wI, wI_ne (show ¬ (eN t j = p_q M cn ∧ _) from fun w => hqe2 w.1)]); exact (k_snd_q (M := (wI M (eN t j) 5 3)) (b := 8) hqe2 (by have := eN_ge t j; omega)).trans (wI_nk (b := 8) (by decide))) ?_
    refine v_putI cx (tk_dc d_K_hearAccepted 34 rfl) f_K_243 (o_L hpq.1 hpq.2) (by decide) (by rfl) ⟨rfl, rfl⟩ ?_
    exact v_vret cx hB (tk_dc d_K_hearAccepted 35 rfl) (by unfold k_h3; rw [if_pos g15]; unfold k_snd; rw [p_q_wI, wO_set (by simp), wO_set (by simp)]; rfl)
  · have g15 := of_decide_eq_false (b01_z h15)
    exact v_vret cx hB (tk_dc d_K_hearAccepted 10 rfl) (by unfold k_h3; rw [if_neg g15])

set_option maxHeartbeats 4000000 in
set_option maxRecDepth 100000 in
theorem c_K_hearEffect {l : Launch} {E : tk_E} {M : tk_M} {cn q t j k : Nat} (hp : po M cn) (hq8 : 9 ≤ q) (hq7 : q < 70) (hl2 : M.1 q 2 = nI t) (hl3 : M.1 q 3 = nI j) (hj : j < 8) (hk : k ≤ 40) (hc : M.1 (jN j + 4) 2 = nI k) (hrow : ∀ b, b < 60 → M.2.2 7 b ≠ q)  : tk_Mt l y_K_hearEffect b_K_hearEffect 5 none 2 E [.ref (E.1 + 0), .ref (E.1 + q)] M (k_h4 M cn q t j) none := by
  refine tk_ofV (by decide +kernel) [some (.ref (E.1 + 0)), some (.ref (E.1 + q)), none, none, none] rfl (Nat.le_of_ble_eq_true rfl) ?_
  intro p e s m args below meth c cx hB
  have hjN : 86 ≤ jN j := by unfold jN; omega
  have hN1 := hp.ent (i := jN j + 4) (x := M.1 q 5) (y := M.1 q 6) (by omega)
  have hNq : ∀ b, (n_ent M (jN j + 4) (M.1 q 5) (M.1 q 6)).1 q b = M.1 q b := fun b => n_ent_at (by omega) (by omega) (by omega)
  have hN2 : (n_ent M (jN j + 4) (M.1 q 5) (M.1 q 6)).2 = M.2 := n_ent_2
  have hNk := n_ent_k (x := M.1 q 5) (g := M.1 q 6) hc hk
  obtain ⟨y, hy⟩ : ∃ y, y = n_last (n_ent M (jN j + 4) (M.1 q 5) (M.1 q 6)) (jN j + 4) := ⟨_, rfl⟩
  have hfin : k_h4 M cn q t j = if y = -1 then (n_ent M (jN j + 4) (M.1 q 5) (M.1 q 6)) else (k_oth (n_ent M (jN j + 4) (M.1 q 5) (M.1 q 6)) cn 3 (fun s => [nI 5, nI t, nI s, nI j, 0, y, 0, 0]) 3).1 := by rw [hy]; rfl
  have hsv : (n_ent M (jN j + 4) (M.1 q 5) (M.1 q 6)) = n_ent M (jN j + 4) (M.1 q 5) (M.1 q 6) := rfl
  have loop : ¬ y = -1 → ∀ (r u : Nat), u + r = 3 → tk_V p l e (tk_rm 2 0 0) s m args below meth c (MQ below (tk_Q E 209 (tk_ct E (k_h4 M cn q t j)) none) args s 0 0 (tk_A E)) E 5 209 (tk_ct E (k_oth (n_ent M (jN j + 4) (M.1 q 5) (M.1 q 6)) cn 3 (fun s => [nI 5, nI t, nI s, nI j, 0, y, 0, 0]) u).1) 0 0 36 [some (.ref (E.1 + 0)), some (.ref (E.1 + q)), some (.ref (E.1 + (jN j + 4))), some (.int y), some (.int (nI u))] [] := by
    intro hy1 r
    induction r with
    | zero =>
      intro u hu
      have : u = 3 := by omega
      subst this
      refine v_iload cx (tk_dc d_K_hearEffect 21 rfl) rfl ?_
      refine v_iconst cx (tk_dc d_K_hearEffect 22 rfl) (3) (by decide) ?_
      refine v_icmp_ge cx (tk_dc d_K_hearEffect 23 rfl) 70 (by decide) (fun _ => ?_) (fun h => absurd (by decide) h)
      exact v_vret cx hB (tk_dc d_K_hearEffect 37 rfl) (by rw [hfin, if_neg hy1])
    | succ r ih =>
      intro u hu
      have hq := k_oth_p (x := 3) (f := (fun s => [nI 5, nI t, nI s, nI j, 0, y, 0, 0])) hN1 u
      have hat := fun (b : Nat) => k_oth_q (b := b) (x := 3) (f := (fun s => [nI 5, nI t, nI s, nI j, 0, y, 0, 0])) hN1 (q := q) (by omega) (by omega) (by rw [hN2]; exact hrow) u
      have hn := k_oth_n (M := (n_ent M (jN j + 4) (M.1 q 5) (M.1 q 6))) (c := cn) (x := 3) (t := u) (f := (fun s => [nI 5, nI t, nI s, nI j, 0, y, 0, 0])) (by omega)
      generalize k_oth (n_ent M (jN j + 4) (M.1 q 5) (M.1 q 6)) cn 3 (fun s => [nI 5, nI t, nI s, nI j, 0, y, 0, 0]) u = S at hq hat hn
      refine v_iload cx (tk_dc d_K_hearEffect 21 rfl) rfl ?_
      refine v_iconst cx (tk_dc d_K_hearEffect 22 rfl) (3) (by decide) ?_
      refine v_icmp_ge cx (tk_dc d_K_hearEffect 23 rfl) 70 (by decide) (fun h => absurd h (Int32.not_le.mpr (nI_lt (b := 3) (by omega) (by decide)))) (fun _ => ?_)
      refine v_aload_n cx (tk_dc d_K_hearEffect 24 rfl) rfl ?_
      refine v_getC cx 6 (tk_dc d_K_hearEffect 25 rfl) f_K_40 o_K (by decide) (by rfl) ?_
      refine v_iconst cx (tk_dc d_K_hearEffect 26 rfl) (5) (by decide) ?_
      refine v_aload_n cx (tk_dc d_K_hearEffect 27 rfl) rfl ?_
      refine v_getI cx (tk_dc d_K_hearEffect 28 rfl) f_K_211 (o_L (by omega) hq7) (by decide) (by rfl) ?_
      refine v_eqi (nI t) (by rw [hat, hNq]; exact hl2) ?_
      refine v_iload cx (tk_dc d_K_hearEffect 29 rfl) rfl ?_
      refine v_aload_n cx (tk_dc d_K_hearEffect 30 rfl) rfl ?_
      refine v_getI cx (tk_dc d_K_hearEffect 31 rfl) f_K_214 (o_L (by omega) hq7) (by decide) (by rfl) ?_
      refine v_eqi (nI j) (by rw [hat, hNq]; exact hl3) ?_
      refine v_callV (rest := _) cx (tk_dc d_K_hearEffect 32 rfl) m_K_220 kn_P_open kv_P_open k_P_open o_P (by decide) rfl (c_P_open hq.1 hq.2.1 (fun h => by have := hq.2.2.1 _ h; omega) (fun h => (hq.2.2.1 _ h).2)) rfl rfl (Nat.le_of_ble_eq_true rfl) (by decide) ?_
      refine v_eqM (M' := k_snd S.1 S.2 [nI 5, nI t, nI u, nI j, 0, -1, 0, 0]) rfl ?_
      refine v_iload_n cx (tk_dc d_K_hearEffect 33 rfl) rfl ?_
      refine v_putI cx (tk_dc d_K_hearEffect 34 rfl) f_K_197 (o_L hq.q.1 hq.q.2) (by decide) (by rfl) ⟨rfl, rfl⟩ ?_
      refine v_iinc (lo' := [_, _, _, _, _]) cx (tk_dc d_K_hearEffect 35 rfl) rfl (nI (u + 1)) ((nI_succ u).symm) (by decide) rfl ?_
      refine v_goto cx (tk_dc d_K_hearEffect 36 rfl) 36 (by decide) ?_
      exact v_eqM (by rw [hn]; unfold k_snd; rw [wO_set (by simp)]; rfl) (ih (u + 1) (by omega))
  refine v_aload_n cx (tk_dc d_K_hearEffect 0 rfl) rfl ?_
  refine v_getC cx 5 (tk_dc d_K_hearEffect 1 rfl) f_K_33 o_K (by decide) (by rfl) ?_
  refine v_aload_n cx (tk_dc d_K_hearEffect 2 rfl) rfl ?_
  refine v_getI cx (tk_dc d_K_hearEffect 3 rfl) f_K_214 (o_L (by omega) hq7) (by decide) (by rfl) ?_
  refine v_eqi (nI j) (hl3) ?_
  refine w_aald cx (jN j + 4) (tk_dc d_K_hearEffect 4 rfl) o_ns j (rfl) (by omega) (by decide) (rfl) ?_
  refine v_astore_n (lo' := [_, _, _, _, _]) cx (tk_dc d_K_hearEffect 5 rfl) (by decide) rfl ?_
  refine v_aload_n cx (tk_dc d_K_hearEffect 6 rfl) rfl ?_
  refine v_aload_n cx (tk_dc d_K_hearEffect 7 rfl) rfl ?_
  refine v_getI cx (tk_dc d_K_hearEffect 8 rfl) f_K_197 (o_L (by omega) hq7) (by decide) (by rfl) ?_
  refine v_aload_n cx (tk_dc d_K_hearEffect 9 rfl) rfl ?_
  refine v_getI cx (tk_dc d_K_hearEffect 10 rfl) f_K_243 (o_L (by omega) hq7) (by decide) (by rfl) ?_
  refine v_callV (rest := _) cx (tk_dc d_K_hearEffect 11 rfl) m_K_284 kn_N_enter kv_N_enter k_N_enter (o_J4 hj) (by decide) rfl (c_N_enter hj hk hc) rfl rfl (Nat.le_of_ble_eq_true rfl) (by decide) ?_
  refine v_aload_n cx (tk_dc d_K_hearEffect 12 rfl) rfl ?_
  refine v_callV (rest := _) cx (tk_dc d_K_hearEffect 13 rfl) m_K_287 kn_N_lastMoment kv_N_lastMoment k_N_lastMoment (o_J4 hj) (by decide) rfl (c_N_lastMoment hj hNk.2 hNk.1) rfl rfl (Nat.le_of_ble_eq_true rfl) (by decide) ?_
  refine v_eqi (y) (hy.symm) ?_
  refine v_istore_n (lo' := [_, _, _, _, _]) cx (tk_dc d_K_hearEffect 14 rfl) (by decide) rfl ?_
  refine v_iload_n cx (tk_dc d_K_hearEffect 15 rfl) rfl ?_
  refine v_iconst cx (tk_dc d_K_hearEffect 16 rfl) (-1) (by decide) ?_
  refine v_icmp_ne cx (tk_dc d_K_hearEffect 17 rfl) 33 (by decide) (fun h29 => ?_) (fun h29 => ?_)
  · refine v_iconst cx (tk_dc d_K_hearEffect 19 rfl) (0) (by decide) ?_
    refine v_istore (lo' := [_, _, _, _, _]) cx (tk_dc d_K_hearEffect 20 rfl) (by decide) rfl ?_
    exact loop h29 3 0 rfl
  · exact v_vret cx hB (tk_dc d_K_hearEffect 18 rfl) (by rw [hfin, if_pos h29])
