/-! the post; what a scheduler forgets -/
/-- an object's first ints, all at once -/
def wO (M : tk_M) (q : Nat) (l : List Int32) : tk_M := (fun a b => if a = q ∧ b < l.length then l.getD b 0 else M.1 a b, M.2)
theorem wO_set {M : tk_M} {q k : Nat} {l : List Int32} {v : Int32} (h : k < l.length) : wI (wO M q l) q k v = wO M q (l.set k v) := by
  unfold wI wO
  congr 1
  funext a b
  by_cases ha : a = q
  · subst ha
    by_cases hb : b = k
    · subst hb
      simp [h, List.getD]
    · by_cases hl : b < l.length
      · simp [hb, hl, List.getD, List.getElem_set_ne (Ne.symm hb)]
      · simp [hb, hl]
  · simp [ha]
theorem wO_at {M : tk_M} {q k : Nat} {l : List Int32} (h : k < l.length) : (wO M q l).1 q k = l.getD k 0 := by simp [wO, h]
theorem wO_ne {M : tk_M} {q a k : Nat} {l : List Int32} (h : a ≠ q) : (wO M q l).1 a k = M.1 a k := by simp [wO, h]
theorem wO_8 (M : tk_M) (q : Nat) (v0 v1 v2 v3 v4 v5 v6 v7 : Int32) : wI (wI (wI (wI (wI (wI (wI (wI M q 0 v0) q 1 v1) q 2 v2) q 3 v3) q 4 v4) q 5 v5) q 6 v6) q 7 v7 = wO M q [v0, v1, v2, v3, v4, v5, v6, v7] := by
  unfold wI wO
  congr 1
  funext a b
  by_cases ha : a = q
  · subst ha
    by_cases hb : b < 8
    · rcases (show b = 0 ∨ b = 1 ∨ b = 2 ∨ b = 3 ∨ b = 4 ∨ b = 5 ∨ b = 6 ∨ b = 7 by omega) with rfl | rfl | rfl | rfl | rfl | rfl | rfl | rfl <;> simp
    · simp [show ¬ b = 0 by omega, show ¬ b = 1 by omega, show ¬ b = 2 by omega, show ¬ b = 3 by omega, show ¬ b = 4 by omega, show ¬ b = 5 by omega, show ¬ b = 6 by omega, show ¬ b = 7 by omega, hb]
  · simp [ha]
/-- the letter that opens, and the memory then -/
def p_q (M : tk_M) (c : Nat) : Nat := if c < 60 then M.2.2 7 c else 8
def p_up (M : tk_M) (c : Nat) : tk_M := if c < 60 then wI M 6 3 (nI (c + 1)) else M
def p_opn (M : tk_M) (c : Nat) (a b t j : Int32) : tk_M := wO (p_up M c) (p_q M c) [a, b, t, j, 0, -1, 0, 0]
theorem n_lt60 {k : Nat} (hk : k ≤ 60) (h : nI k < 60) : k < 60 := by
  rcases Nat.lt_or_ge k 60 with h1 | h1
  · exact h1
  · have : k = 60 := by omega
    subst this
    exact absurd h (by decide)
theorem n_nlt60 {k : Nat} (hk : k ≤ 60) (h : 60 ≤ nI k) : k = 60 := by
  rcases Nat.lt_or_ge k 60 with h1 | h1
  · exact absurd h (Int32.not_le.mpr (nI_lt h1 (by decide)))
  · omega
set_option maxHeartbeats 4000000 in
set_option maxRecDepth 100000 in
theorem c_P_open {l : Launch} {E : tk_E} {M : tk_M} {k : Nat} {a b t j : Int32} (hk : k ≤ 60) (hc : M.1 6 3 = nI k) (h8 : k < 60 → 8 ≤ M.2.2 7 k) (h70 : k < 60 → M.2.2 7 k < 70) : tk_Mt l y_P_open b_P_open 6 (some (.object "TickKeeper$Letter")) 0 E [.ref (E.1 + 6), .int a, .int b, .int t, .int j] M (p_opn M k a b t j) (some (.ref (E.1 + p_q M k))) := by
  refine tk_ofV (by decide +kernel) [some (.ref (E.1 + 6)), some (.int a), some (.int b), some (.int t), some (.int j), none] rfl (Nat.le_of_ble_eq_true rfl) ?_
  intro p e s m args below meth c cx hB
  refine v_aload_n cx (tk_dc d_P_open 0 rfl) rfl ?_
  refine v_getC cx 8 (tk_dc d_P_open 1 rfl) f_P_18 o_P (by decide) (by rfl) ?_
  refine v_astore (lo' := [_, _, _, _, _, _]) cx (tk_dc d_P_open 2 rfl) (by decide) rfl ?_
  refine v_aload_n cx (tk_dc d_P_open 3 rfl) rfl ?_
  refine v_getI cx (tk_dc d_P_open 4 rfl) f_P_25 o_P (by decide) (by rfl) ?_
  refine v_bipush cx (tk_dc d_P_open 5 rfl) (60) (by decide) ?_
  refine v_icmp_ge cx (tk_dc d_P_open 6 rfl) 36 (by decide) (fun h12 => ?_) (fun h12 => ?_)
  · have k60 : ¬ k < 60 := by have := n_nlt60 hk (by rw [← hc]; exact h12); omega
    refine v_aload cx (tk_dc d_P_open 19 rfl) rfl ?_
    refine v_iload_n cx (tk_dc d_P_open 20 rfl) rfl ?_
    refine v_putI cx (tk_dc d_P_open 21 rfl) f_P_29 (o_L (by first | assumption | decide) (by first | assumption | decide)) (by decide) (by rfl) ⟨rfl, rfl⟩ ?_
    refine v_aload cx (tk_dc d_P_open 22 rfl) rfl ?_
    refine v_iload_n cx (tk_dc d_P_open 23 rfl) rfl ?_
    refine v_putI cx (tk_dc d_P_open 24 rfl) f_P_32 (o_L (by first | assumption | decide) (by first | assumption | decide)) (by decide) (by rfl) ⟨rfl, rfl⟩ ?_
    refine v_aload cx (tk_dc d_P_open 25 rfl) rfl ?_
    refine v_iload_n cx (tk_dc d_P_open 26 rfl) rfl ?_
    refine v_putI cx (tk_dc d_P_open 27 rfl) f_P_35 (o_L (by first | assumption | decide) (by first | assumption | decide)) (by decide) (by rfl) ⟨rfl, rfl⟩ ?_
    refine v_aload cx (tk_dc d_P_open 28 rfl) rfl ?_
    refine v_iload cx (tk_dc d_P_open 29 rfl) rfl ?_
    refine v_putI cx (tk_dc d_P_open 30 rfl) f_P_38 (o_L (by first | assumption | decide) (by first | assumption | decide)) (by decide) (by rfl) ⟨rfl, rfl⟩ ?_
    refine v_aload cx (tk_dc d_P_open 31 rfl) rfl ?_
    refine v_iconst cx (tk_dc d_P_open 32 rfl) (0) (by decide) ?_
    refine v_putI cx (tk_dc d_P_open 33 rfl) f_P_41 (o_L (by first | assumption | decide) (by first | assumption | decide)) (by decide) (by rfl) ⟨rfl, rfl⟩ ?_
    refine v_aload cx (tk_dc d_P_open 34 rfl) rfl ?_
    refine v_iconst cx (tk_dc d_P_open 35 rfl) (-1) (by decide) ?_
    refine v_putI cx (tk_dc d_P_open 36 rfl) f_P_44 (o_L (by first | assumption | decide) (by first | assumption | decide)) (by decide) (by rfl) ⟨rfl, rfl⟩ ?_
    refine v_aload cx (tk_dc d_P_open 37 rfl) rfl ?_
    refine v_iconst cx (tk_dc d_P_open 38 rfl) (0) (by decide) ?_
    refine v_putI cx (tk_dc d_P_open 39 rfl) f_P_47 (o_L (by first | assumption | decide) (by first | assumption | decide)) (by decide) (by rfl) ⟨rfl, rfl⟩ ?_
    refine v_aload cx (tk_dc d_P_open 40 rfl) rfl ?_
    refine v_iconst cx (tk_dc d_P_open 41 rfl) (0) (by decide) ?_
    refine v_putI cx (tk_dc d_P_open 42 rfl) f_P_50 (o_L (by first | assumption | decide) (by first | assumption | decide)) (by decide) (by rfl) ⟨rfl, rfl⟩ ?_
    refine v_aload cx (tk_dc d_P_open 43 rfl) rfl ?_
    exact v_aret cx hB (tk_dc d_P_open 44 rfl) (by simp [p_q, k60]) (by rw [wO_8]; simp [p_opn, p_q, p_up, k60, hc, nI_succ])
  · have k60 : k < 60 := n_lt60 hk (by rw [← hc]; exact Int32.not_le.mp h12)
    have g8 := h8 k60
    have g70 := h70 k60
    refine v_aload_n cx (tk_dc d_P_open 7 rfl) rfl ?_
    refine v_getC cx 7 (tk_dc d_P_open 8 rfl) f_P_11 o_P (by decide) (by rfl) ?_
    refine v_aload_n cx (tk_dc d_P_open 9 rfl) rfl ?_
    refine v_getI cx (tk_dc d_P_open 10 rfl) f_P_25 o_P (by decide) (by rfl) ?_
    refine w_aald cx (M.2.2 7 k) (tk_dc d_P_open 11 rfl) o_row k (hc) (k60) (by decide) (rfl) ?_
    refine v_astore (lo' := [_, _, _, _, _, _]) cx (tk_dc d_P_open 12 rfl) (by decide) rfl ?_
    refine v_aload_n cx (tk_dc d_P_open 13 rfl) rfl ?_
    refine v_dup cx (tk_dc d_P_open 14 rfl) rfl ?_
    refine v_getI cx (tk_dc d_P_open 15 rfl) f_P_25 o_P (by decide) (by rfl) ?_
    refine v_iconst cx (tk_dc d_P_open 16 rfl) (1) (by decide) ?_
    refine v_iadd cx (tk_dc d_P_open 17 rfl) ?_
    refine v_putI cx (tk_dc d_P_open 18 rfl) f_P_25 o_P (by decide) (by rfl) ⟨rfl, rfl⟩ ?_
    refine v_aload cx (tk_dc d_P_open 19 rfl) rfl ?_
    refine v_iload_n cx (tk_dc d_P_open 20 rfl) rfl ?_
    refine v_putI cx (tk_dc d_P_open 21 rfl) f_P_29 (o_L (by first | assumption | decide) (by first | assumption | decide)) (by decide) (by rfl) ⟨rfl, rfl⟩ ?_
    refine v_aload cx (tk_dc d_P_open 22 rfl) rfl ?_
    refine v_iload_n cx (tk_dc d_P_open 23 rfl) rfl ?_
    refine v_putI cx (tk_dc d_P_open 24 rfl) f_P_32 (o_L (by first | assumption | decide) (by first | assumption | decide)) (by decide) (by rfl) ⟨rfl, rfl⟩ ?_
    refine v_aload cx (tk_dc d_P_open 25 rfl) rfl ?_
    refine v_iload_n cx (tk_dc d_P_open 26 rfl) rfl ?_
    refine v_putI cx (tk_dc d_P_open 27 rfl) f_P_35 (o_L (by first | assumption | decide) (by first | assumption | decide)) (by decide) (by rfl) ⟨rfl, rfl⟩ ?_
    refine v_aload cx (tk_dc d_P_open 28 rfl) rfl ?_
    refine v_iload cx (tk_dc d_P_open 29 rfl) rfl ?_
    refine v_putI cx (tk_dc d_P_open 30 rfl) f_P_38 (o_L (by first | assumption | decide) (by first | assumption | decide)) (by decide) (by rfl) ⟨rfl, rfl⟩ ?_
    refine v_aload cx (tk_dc d_P_open 31 rfl) rfl ?_
    refine v_iconst cx (tk_dc d_P_open 32 rfl) (0) (by decide) ?_
    refine v_putI cx (tk_dc d_P_open 33 rfl) f_P_41 (o_L (by first | assumption | decide) (by first | assumption | decide)) (by decide) (by rfl) ⟨rfl, rfl⟩ ?_
    refine v_aload cx (tk_dc d_P_open 34 rfl) rfl ?_
    refine v_iconst cx (tk_dc d_P_open 35 rfl) (-1) (by decide) ?_
    refine v_putI cx (tk_dc d_P_open 36 rfl) f_P_44 (o_L (by first | assumption | decide) (by first | assumption | decide)) (by decide) (by rfl) ⟨rfl, rfl⟩ ?_
    refine v_aload cx (tk_dc d_P_open 37 rfl) rfl ?_
    refine v_iconst cx (tk_dc d_P_open 38 rfl) (0) (by decide) ?_
    refine v_putI cx (tk_dc d_P_open 39 rfl) f_P_47 (o_L (by first | assumption | decide) (by first | assumption | decide)) (by decide) (by rfl) ⟨rfl, rfl⟩ ?_
    refine v_aload cx (tk_dc d_P_open 40 rfl) rfl ?_
    refine v_iconst cx (tk_dc d_P_open 41 rfl) (0) (by decide) ?_
    refine v_putI cx (tk_dc d_P_open 42 rfl) f_P_50 (o_L (by first | assumption | decide) (by first | assumption | decide)) (by decide) (by rfl) ⟨rfl, rfl⟩ ?_
    refine v_aload cx (tk_dc d_P_open 43 rfl) rfl ?_
    exact v_aret cx hB (tk_dc d_P_open 44 rfl) (by simp [p_q, k60]) (by rw [wO_8]; simp [p_opn, p_q, p_up, k60, hc, nI_succ])

/-- the row behind a letter moves up, so far -/
def p_sh (M : tk_M) (i k : Nat) : tk_M := (M.1, M.2.1, fun a b => if a = 7 ∧ i ≤ b ∧ b < k then M.2.2 7 (b + 1) else M.2.2 a b)
theorem p_sh_0 (M : tk_M) (i : Nat) : p_sh M i i = M := by
  unfold p_sh
  have : (fun a b => if a = 7 ∧ i ≤ b ∧ b < i then M.2.2 7 (b + 1) else M.2.2 a b) = M.2.2 := by
    funext a b
    rw [if_neg (by omega)]
  rw [this]
theorem p_sh_rd {M : tk_M} {i k b : Nat} (h : k ≤ b) : (p_sh M i k).2.2 7 b = M.2.2 7 b := by
  unfold p_sh
  simp only
  rw [if_neg (by omega)]
theorem p_sh_s {M : tk_M} {i k : Nat} (h : i ≤ k) : wR (p_sh M i k) 7 k (M.2.2 7 (k + 1)) = p_sh M i (k + 1) := by
  unfold p_sh wR
  congr 2
  funext a b
  by_cases ha : a = 7
  · subst ha
    by_cases hb : b = k
    · subst hb
      simp [h]
    · by_cases h2 : i ≤ b ∧ b < k
      · simp [hb, h2, show b < k + 1 by omega]
      · show (if 7 = 7 ∧ b = k then _ else if 7 = 7 ∧ i ≤ b ∧ b < k then _ else _) = if 7 = 7 ∧ i ≤ b ∧ b < k + 1 then _ else _
        rw [if_neg (by omega), if_neg (by omega), if_neg (by omega)]
  · simp [ha]
def p_tk (M : tk_M) (i c : Nat) : tk_M := wR (wR (p_sh (wI M 6 3 (nI (c - 1))) i (c - 1)) 7 (c - 1) (M.2.2 6 2)) 6 2 (M.2.2 7 i)
theorem p_shx {M : tk_M} {c i k : Nat} (h : i ≤ k) : wR (p_sh (wI M 6 3 (nI c)) i k) 7 k (M.2.2 7 (k + 1)) = p_sh (wI M 6 3 (nI c)) i (k + 1) := p_sh_s (M := wI M 6 3 (nI c)) h
set_option maxHeartbeats 4000000 in
set_option maxRecDepth 100000 in
theorem c_P_take {l : Launch} {E : tk_E} {M : tk_M} {k i : Nat} (hk : k ≤ 60) (hi : i < k) (hc : M.1 6 3 = nI k) (h8 : ∀ b, b < 60 → 8 ≤ M.2.2 7 b) (h70 : ∀ b, b < 60 → M.2.2 7 b < 70) (t8 : 8 ≤ M.2.2 6 2) (t70 : M.2.2 6 2 < 70) : tk_Mt l y_P_take b_P_take 4 (some (.object "TickKeeper$Letter")) 0 E [.ref (E.1 + 6), .int (nI i)] M (p_tk M i k) (some (.ref (E.1 + M.2.2 7 i))) := by
  refine tk_ofV (by decide +kernel) [some (.ref (E.1 + 6)), some (.int (nI i)), none, none] rfl (Nat.le_of_ble_eq_true rfl) ?_
  intro p e s m args below meth c cx hB
  have hk1 : (wI M 6 3 (nI (k - 1))).1 6 3 = nI (k - 1) := wI_at M 6 3 _
  have loop : ∀ (d b : Nat), i ≤ b → b + d = k - 1 → tk_V p l e (tk_rm 0 0 0) s m args below meth c (MQ below (tk_Q E 209 (tk_ct E (p_tk M i k)) (some (.ref (E.1 + M.2.2 7 i)))) args s 0 0 (tk_A E)) E 4 209 (tk_ct E (p_sh (wI M 6 3 (nI (k - 1))) i b)) 0 0 19 [some (.ref (E.1 + 6)), some (.int (nI i)), some (.ref (E.1 + M.2.2 7 i)), some (.int (nI b))] [] := by
    intro d
    induction d with
    | zero =>
      intro b hb1 hb2
      obtain rfl : b = k - 1 := by omega
      refine v_iload_n cx (tk_dc d_P_take 13 rfl) rfl ?_
      refine v_aload_n cx (tk_dc d_P_take 14 rfl) rfl ?_
      refine v_getI cx (tk_dc d_P_take 15 rfl) f_P_25 o_P (by decide) (by rfl) ?_
      refine v_icmp_ge cx (tk_dc d_P_take 16 rfl) 47 (by decide) (fun _ => ?_) (fun h => absurd (by rw [show (p_sh (wI M 6 3 (nI (k - 1))) i (k - 1)).1 6 3 = nI (k - 1) from hk1]; exact nI_le (by omega) (by omega)) h)
      refine v_aload_n cx (tk_dc d_P_take 29 rfl) rfl ?_
      refine v_getC cx 7 (tk_dc d_P_take 30 rfl) f_P_11 o_P (by decide) (by rfl) ?_
      refine v_aload_n cx (tk_dc d_P_take 31 rfl) rfl ?_
      refine v_getI cx (tk_dc d_P_take 32 rfl) f_P_25 o_P (by decide) (by rfl) ?_
      refine v_aload_n cx (tk_dc d_P_take 33 rfl) rfl ?_
      refine v_getR cx (tk_dc d_P_take 34 rfl) f_P_22 o_P (by decide) (by rfl) (rfl) ?_
      refine w_aast cx (tk_dc d_P_take 35 rfl) (k - 1) (hk1) (by omega) (t8) (t70) ?_
      refine v_aload_n cx (tk_dc d_P_take 36 rfl) rfl ?_
      refine v_aload_n cx (tk_dc d_P_take 37 rfl) rfl ?_
      refine v_putR cx (tk_dc d_P_take 38 rfl) f_P_22 o_P (by decide) (by rfl) ⟨rfl, rfl⟩ ?_
      refine v_aload_n cx (tk_dc d_P_take 39 rfl) rfl ?_
      exact v_aret cx hB (tk_dc d_P_take 40 rfl) (rfl) (rfl)
    | succ d ih =>
      intro b hb1 hb2
      refine v_iload_n cx (tk_dc d_P_take 13 rfl) rfl ?_
      refine v_aload_n cx (tk_dc d_P_take 14 rfl) rfl ?_
      refine v_getI cx (tk_dc d_P_take 15 rfl) f_P_25 o_P (by decide) (by rfl) ?_
      refine v_icmp_ge cx (tk_dc d_P_take 16 rfl) 47 (by decide) (fun h => absurd h (by rw [show (p_sh (wI M 6 3 (nI (k - 1))) i b).1 6 3 = nI (k - 1) from hk1]; exact nI_ge (by omega) (by omega))) (fun _ => ?_)
      refine v_aload_n cx (tk_dc d_P_take 17 rfl) rfl ?_
      refine v_getC cx 7 (tk_dc d_P_take 18 rfl) f_P_11 o_P (by decide) (by rfl) ?_
      refine v_iload_n cx (tk_dc d_P_take 19 rfl) rfl ?_
      refine v_aload_n cx (tk_dc d_P_take 20 rfl) rfl ?_
      refine v_getC cx 7 (tk_dc d_P_take 21 rfl) f_P_11 o_P (by decide) (by rfl) ?_
      refine v_iload_n cx (tk_dc d_P_take 22 rfl) rfl ?_
      refine v_iconst cx (tk_dc d_P_take 23 rfl) (1) (by decide) ?_
      refine v_iadd cx (tk_dc d_P_take 24 rfl) ?_
      refine w_aald cx _ (tk_dc d_P_take 25 rfl) o_row (b + 1) ((nI_succ b).symm) (by omega) (by decide) (p_sh_rd (by omega)) ?_
      refine w_aast cx (tk_dc d_P_take 26 rfl) b (rfl) (by omega) (h8 _ (by omega)) (h70 _ (by omega)) ?_
      rw [show (wI M 6 3 (nI (k - 1))).2.2 7 (b + 1) = M.2.2 7 (b + 1) from rfl, p_shx hb1]
      refine v_iinc (lo' := [_, _, _, _]) cx (tk_dc d_P_take 27 rfl) rfl (nI (b + 1)) ((nI_succ b).symm) (by decide) rfl ?_
      refine v_goto cx (tk_dc d_P_take 28 rfl) 19 (by decide) ?_
      exact ih (b + 1) (by omega) (by omega)
  have start := loop (k - 1 - i) i (Nat.le_refl _) (by omega)
  rw [p_sh_0] at start
  refine v_aload_n cx (tk_dc d_P_take 0 rfl) rfl ?_
  refine v_getC cx 7 (tk_dc d_P_take 1 rfl) f_P_11 o_P (by decide) (by rfl) ?_
  refine v_iload_n cx (tk_dc d_P_take 2 rfl) rfl ?_
  refine w_aald cx (M.2.2 7 i) (tk_dc d_P_take 3 rfl) o_row i (rfl) (by omega) (by decide) (rfl) ?_
  refine v_astore_n (lo' := [_, _, _, _]) cx (tk_dc d_P_take 4 rfl) (by decide) rfl ?_
  refine v_aload_n cx (tk_dc d_P_take 5 rfl) rfl ?_
  refine v_dup cx (tk_dc d_P_take 6 rfl) rfl ?_
  refine v_getI cx (tk_dc d_P_take 7 rfl) f_P_25 o_P (by decide) (by rfl) ?_
  refine v_iconst cx (tk_dc d_P_take 8 rfl) (1) (by decide) ?_
  refine v_isub cx (tk_dc d_P_take 9 rfl) ?_
  refine v_eqi (nI (k - 1)) (by rw [hc]; exact nI_sub1 (by omega)) ?_
  refine v_putI cx (tk_dc d_P_take 10 rfl) f_P_25 o_P (by decide) (by rfl) ⟨rfl, rfl⟩ ?_
  refine v_iload_n cx (tk_dc d_P_take 11 rfl) rfl ?_
  refine v_istore_n (lo' := [_, _, _, _]) cx (tk_dc d_P_take 12 rfl) (by decide) rfl ?_
  exact start

def p_cp (M : tk_M) (k f : Nat) : tk_M := wO (p_up M k) (p_q M k) [M.1 f 0, M.1 f 1, M.1 f 2, M.1 f 3, M.1 f 4, M.1 f 5, M.1 f 6, M.1 f 7]
set_option maxHeartbeats 4000000 in
set_option maxRecDepth 100000 in
theorem c_P_copyToEnd {l : Launch} {E : tk_E} {M : tk_M} {k i : Nat} (hk : k < 60) (hi : i < k) (hc : M.1 6 3 = nI k) (h8 : ∀ b, b < 60 → 8 ≤ M.2.2 7 b) (h70 : ∀ b, b < 60 → M.2.2 7 b < 70) (hne : M.2.2 7 i ≠ M.2.2 7 k) : tk_Mt l y_P_copyToEnd b_P_copyToEnd 4 none 1 E [.ref (E.1 + 6), .int (nI i)] M (p_cp M k (M.2.2 7 i)) none := by
  refine tk_ofV (by decide +kernel) [some (.ref (E.1 + 6)), some (.int (nI i)), none, none] rfl (Nat.le_of_ble_eq_true rfl) ?_
  intro p e s m args below meth c cx hB
  have g8 := h8 i (by omega)
  have g70 := h70 i (by omega)
  have q8 : 8 ≤ p_q M k := by unfold p_q; rw [if_pos hk]; exact h8 k hk
  have q70 : p_q M k < 70 := by unfold p_q; rw [if_pos hk]; exact h70 k hk
  have f6 : ¬ M.2.2 7 i = 6 := by omega
  refine v_aload_n cx (tk_dc d_P_copyToEnd 0 rfl) rfl ?_
  refine v_getC cx 7 (tk_dc d_P_copyToEnd 1 rfl) f_P_11 o_P (by decide) (by rfl) ?_
  refine v_iload_n cx (tk_dc d_P_copyToEnd 2 rfl) rfl ?_
  refine w_aald cx (M.2.2 7 i) (tk_dc d_P_copyToEnd 3 rfl) o_row i (rfl) (by omega) (by decide) (rfl) ?_
  refine v_astore_n (lo' := [_, _, _, _]) cx (tk_dc d_P_copyToEnd 4 rfl) (by decide) rfl ?_
  refine v_aload_n cx (tk_dc d_P_copyToEnd 5 rfl) rfl ?_
  refine v_aload_n cx (tk_dc d_P_copyToEnd 6 rfl) rfl ?_
  refine v_getI cx (tk_dc d_P_copyToEnd 7 rfl) f_P_29 (o_L (by first | assumption | decide) (by first | assumption | decide)) (by decide) (by rfl) ?_
  refine v_aload_n cx (tk_dc d_P_copyToEnd 8 rfl) rfl ?_
  refine v_getI cx (tk_dc d_P_copyToEnd 9 rfl) f_P_32 (o_L (by first | assumption | decide) (by first | assumption | decide)) (by decide) (by rfl) ?_
  refine v_aload_n cx (tk_dc d_P_copyToEnd 10 rfl) rfl ?_
  refine v_getI cx (tk_dc d_P_copyToEnd 11 rfl) f_P_35 (o_L (by first | assumption | decide) (by first | assumption | decide)) (by decide) (by rfl) ?_
  refine v_aload_n cx (tk_dc d_P_copyToEnd 12 rfl) rfl ?_
  refine v_getI cx (tk_dc d_P_copyToEnd 13 rfl) f_P_38 (o_L (by first | assumption | decide) (by first | assumption | decide)) (by decide) (by rfl) ?_
  refine v_callV (rest := _) cx (tk_dc d_P_copyToEnd 14 rfl) m_P_53 kn_P_open kv_P_open k_P_open o_P (by decide) rfl (c_P_open (by omega) hc (fun h => h8 _ h) (fun h => h70 _ h)) rfl rfl (Nat.le_of_ble_eq_true rfl) (by decide) ?_
  refine v_astore_n (lo' := [_, _, _, _]) cx (tk_dc d_P_copyToEnd 15 rfl) (by decide) rfl ?_
  refine v_aload_n cx (tk_dc d_P_copyToEnd 16 rfl) rfl ?_
  refine v_aload_n cx (tk_dc d_P_copyToEnd 17 rfl) rfl ?_
  refine v_getI cx (tk_dc d_P_copyToEnd 18 rfl) f_P_41 (o_L (by first | assumption | decide) (by first | assumption | decide)) (by decide) (by rfl) ?_
  refine v_eqi (M.1 (M.2.2 7 i) 4) (by simp [wO_set, p_opn]; simp [p_up, p_q, wO, wI, hk, hne, f6]) ?_
  refine v_putI cx (tk_dc d_P_copyToEnd 19 rfl) f_P_41 (o_L (by first | assumption | decide) (by first | assumption | decide)) (by decide) (by rfl) ⟨rfl, rfl⟩ ?_
  refine v_aload_n cx (tk_dc d_P_copyToEnd 20 rfl) rfl ?_
  refine v_aload_n cx (tk_dc d_P_copyToEnd 21 rfl) rfl ?_
  refine v_getI cx (tk_dc d_P_copyToEnd 22 rfl) f_P_44 (o_L (by first | assumption | decide) (by first | assumption | decide)) (by decide) (by rfl) ?_
  refine v_eqi (M.1 (M.2.2 7 i) 5) (by simp [wO_set, p_opn]; simp [p_up, p_q, wO, wI, hk, hne, f6]) ?_
  refine v_putI cx (tk_dc d_P_copyToEnd 23 rfl) f_P_44 (o_L (by first | assumption | decide) (by first | assumption | decide)) (by decide) (by rfl) ⟨rfl, rfl⟩ ?_
  refine v_aload_n cx (tk_dc d_P_copyToEnd 24 rfl) rfl ?_
  refine v_aload_n cx (tk_dc d_P_copyToEnd 25 rfl) rfl ?_
  refine v_getI cx (tk_dc d_P_copyToEnd 26 rfl) f_P_47 (o_L (by first | assumption | decide) (by first | assumption | decide)) (by decide) (by rfl) ?_
  refine v_eqi (M.1 (M.2.2 7 i) 6) (by simp [wO_set, p_opn]; simp [p_up, p_q, wO, wI, hk, hne, f6]) ?_
  refine v_putI cx (tk_dc d_P_copyToEnd 27 rfl) f_P_47 (o_L (by first | assumption | decide) (by first | assumption | decide)) (by decide) (by rfl) ⟨rfl, rfl⟩ ?_
  refine v_aload_n cx (tk_dc d_P_copyToEnd 28 rfl) rfl ?_
  refine v_aload_n cx (tk_dc d_P_copyToEnd 29 rfl) rfl ?_
  refine v_getI cx (tk_dc d_P_copyToEnd 30 rfl) f_P_50 (o_L (by first | assumption | decide) (by first | assumption | decide)) (by decide) (by rfl) ?_
  refine v_eqi (M.1 (M.2.2 7 i) 7) (by simp [wO_set, p_opn]; simp [p_up, p_q, wO, wI, hk, hne, f6]) ?_
  refine v_putI cx (tk_dc d_P_copyToEnd 31 rfl) f_P_50 (o_L (by first | assumption | decide) (by first | assumption | decide)) (by decide) (by rfl) ⟨rfl, rfl⟩ ?_
  exact v_vret cx hB (tk_dc d_P_copyToEnd 32 rfl) (by simp [p_cp, p_opn, wO_set])

def e_fgt (M : tk_M) (z : Nat) : Nat → tk_M
  | 0 => M
  | k + 1 => e_end (wI (e_fgt M z k) (eN z k) 4 (-1)) (eN z k)
set_option maxHeartbeats 4000000 in
set_option maxRecDepth 100000 in
theorem c_S_forget {l : Launch} {E : tk_E} {M : tk_M} {z : Nat} (hz : z < 3) : tk_Mt l y_S_forget b_S_forget 2 none 1 E [.ref (E.1 + sN z)] M (e_fgt M z 8) none := by
  refine tk_ofV (by decide +kernel) [some (.ref (E.1 + sN z)), none] rfl (Nat.le_of_ble_eq_true rfl) ?_
  intro p e s m args below meth c cx hB
  have loop : ∀ (d k : Nat), k + d = 8 → tk_V p l e (tk_rm 1 0 0) s m args below meth c (MQ below (tk_Q E 209 (tk_ct E (e_fgt M z 8)) none) args s 0 0 (tk_A E)) E 2 209 (tk_ct E (e_fgt M z k)) 0 0 2 [some (.ref (E.1 + sN z)), some (.int (nI k))] [] := by
    intro d
    induction d with
    | zero =>
      intro k hk
      obtain rfl : k = 8 := by omega
      refine v_iload_n cx (tk_dc d_S_forget 2 rfl) rfl ?_
      refine v_bipush cx (tk_dc d_S_forget 3 rfl) (8) (by decide) ?_
      refine v_icmp_ge cx (tk_dc d_S_forget 4 rfl) 33 (by decide) (fun _ => ?_) (fun h => absurd (by decide) h)
      exact v_vret cx hB (tk_dc d_S_forget 18 rfl) (rfl)
    | succ d ih =>
      intro k hk
      have hk8 : k < 8 := by omega
      refine v_iload_n cx (tk_dc d_S_forget 2 rfl) rfl ?_
      refine v_bipush cx (tk_dc d_S_forget 3 rfl) (8) (by decide) ?_
      refine v_icmp_ge cx (tk_dc d_S_forget 4 rfl) 33 (by decide) (fun h => absurd h (nI_ge hk8 (by decide))) (fun _ => ?_)
      refine v_aload_n cx (tk_dc d_S_forget 5 rfl) rfl ?_
      refine v_getC cx (sN _ + 1) (tk_dc d_S_forget 6 rfl) f_S_11 (o_S (by assumption)) (by decide) (by rfl) ?_
      refine v_iload_n cx (tk_dc d_S_forget 7 rfl) rfl ?_
      refine w_aald cx (eN z k) (tk_dc d_S_forget 8 rfl) (o_S1 hz) k (rfl) (hk8) (by decide) (rfl) ?_
      refine v_iconst cx (tk_dc d_S_forget 9 rfl) (-1) (by decide) ?_
      refine v_putI cx (tk_dc d_S_forget 10 rfl) f_S_22 (by first | assumption | exact o_E (by assumption) (by assumption)) (by decide) (by rfl) ⟨rfl, rfl⟩ ?_
      refine v_aload_n cx (tk_dc d_S_forget 11 rfl) rfl ?_
      refine v_getC cx (sN _ + 1) (tk_dc d_S_forget 12 rfl) f_S_11 (o_S (by assumption)) (by decide) (by rfl) ?_
      refine v_iload_n cx (tk_dc d_S_forget 13 rfl) rfl ?_
      refine w_aald cx (eN z k) (tk_dc d_S_forget 14 rfl) (o_S1 hz) k (rfl) (hk8) (by decide) (rfl) ?_
      refine v_callV (rest := _) cx (tk_dc d_S_forget 15 rfl) m_S_26 kn_E_endRound kv_E_endRound k_E_endRound (by first | assumption | exact o_E (by assumption) (by assumption)) (by decide) rfl (c_E_endRound (o_E hz hk8)) rfl rfl (Nat.le_of_ble_eq_true rfl) (by decide) ?_
      refine v_iinc (lo' := [_, _]) cx (tk_dc d_S_forget 16 rfl) rfl (nI (k + 1)) ((nI_succ k).symm) (by decide) rfl ?_
      refine v_goto cx (tk_dc d_S_forget 17 rfl) 2 (by decide) ?_
      exact ih (k + 1) (by omega)
  refine v_iconst cx (tk_dc d_S_forget 0 rfl) (0) (by decide) ?_
  refine v_istore_n (lo' := [_, _]) cx (tk_dc d_S_forget 1 rfl) (by decide) rfl ?_
  exact loop 8 0 rfl
