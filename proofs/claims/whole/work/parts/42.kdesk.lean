/-! the class's calls: desks, registers, letters; what a waking asks -/
/-- the post is in order: c letters, rows and the taken one all different -/
def po (M : tk_M) (c : Nat) : Prop := c ≤ 60 ∧ M.1 6 3 = nI c ∧ (∀ b, b < 60 → 9 ≤ M.2.2 7 b ∧ M.2.2 7 b < 70) ∧ (9 ≤ M.2.2 6 2 ∧ M.2.2 6 2 < 70) ∧ (∀ a b, a < 60 → b < 60 → M.2.2 7 a = M.2.2 7 b → a = b) ∧ ∀ a, a < 60 → M.2.2 7 a ≠ M.2.2 6 2
def k_snd (M : tk_M) (c : Nat) (l : List Int32) : tk_M := wO (p_up M c) (p_q M c) l
theorem po.q {M : tk_M} {c : Nat} (h : po M c) : 8 ≤ p_q M c ∧ p_q M c < 70 := by
  unfold p_q
  by_cases g : c < 60
  · rw [if_pos g]; have := h.2.2.1 c g; omega
  · rw [if_neg g]; omega
theorem po.ne {M : tk_M} {c q : Nat} (h : po M c) (h8 : q ≠ 8) (hq : ∀ b, b < 60 → M.2.2 7 b ≠ q) : q ≠ p_q M c := by
  unfold p_q
  by_cases g : c < 60
  · rw [if_pos g]; exact fun w => hq c g w.symm
  · rw [if_neg g]; exact h8
theorem p_up_2 (M : tk_M) (c : Nat) : (p_up M c).2 = M.2 := by
  unfold p_up
  split <;> rfl
theorem p_up_at {M : tk_M} {c a b : Nat} (h : ¬ (a = 6 ∧ b = 3)) : (p_up M c).1 a b = M.1 a b := by
  unfold p_up
  split
  · exact wI_ne h
  · rfl
theorem k_snd_2 (M : tk_M) (c : Nat) (l : List Int32) : (k_snd M c l).2 = M.2 := p_up_2 M c
theorem k_snd_q {M : tk_M} {c a b : Nat} {l : List Int32} (h1 : a ≠ p_q M c) (h : ¬ (a = 6 ∧ b = 3)) : (k_snd M c l).1 a b = M.1 a b := by
  unfold k_snd
  rw [wO_ne h1, p_up_at h]
theorem k_snd_at {M : tk_M} {c a b : Nat} {l : List Int32} (hp : po M c) (h1 : a < 8 ∨ 70 ≤ a) (h : ¬ (a = 6 ∧ b = 3)) : (k_snd M c l).1 a b = M.1 a b := k_snd_q (by have := hp.q; omega) h
theorem p_up_c {M : tk_M} {c : Nat} (h : M.1 6 3 = nI c) : (p_up M c).1 6 3 = nI (cup c) := by
  unfold p_up cup
  by_cases g : c < 60
  · rw [if_pos g, if_pos g]; exact wI_at _ _ _ _
  · rw [if_neg g, if_neg g]; exact h
theorem k_snd_c {M : tk_M} {c : Nat} {l : List Int32} (hp : po M c) : (k_snd M c l).1 6 3 = nI (cup c) := by
  unfold k_snd
  rw [wO_ne (by have := hp.q; omega)]
  exact p_up_c hp.2.1
theorem po.snd {M : tk_M} {c : Nat} (h : po M c) (l : List Int32) : po (k_snd M c l) (cup c) := by
  have e := k_snd_2 M c l
  refine ⟨cup_le h.1, k_snd_c h, ?_⟩
  rw [e]
  exact h.2.2
theorem po.wI {M : tk_M} {c i k : Nat} {v : Int32} (h : po M c) (hi : ¬ (i = 6 ∧ k = 3)) : po (wI M i k v) c := ⟨h.1, (wI_ne (by omega)).trans h.2.1, h.2.2⟩
/-- letters to the others, up to t -/
def k_oth (M : tk_M) (c x : Nat) (f : Nat → List Int32) : Nat → tk_M × Nat
  | 0 => (M, c)
  | t + 1 => if t = x then k_oth M c x f t else (k_snd (k_oth M c x f t).1 (k_oth M c x f t).2 (f t), cup (k_oth M c x f t).2)
theorem k_oth_y {M : tk_M} {c x t : Nat} {f : Nat → List Int32} (h : t = x) : k_oth M c x f (t + 1) = k_oth M c x f t := by
  rw [k_oth, if_pos h]
theorem k_oth_n {M : tk_M} {c x t : Nat} {f : Nat → List Int32} (h : ¬ t = x) : k_oth M c x f (t + 1) = (k_snd (k_oth M c x f t).1 (k_oth M c x f t).2 (f t), cup (k_oth M c x f t).2) := by
  rw [k_oth, if_neg h]
theorem k_oth_p {M : tk_M} {c x : Nat} {f : Nat → List Int32} (h : po M c) : ∀ t, po (k_oth M c x f t).1 (k_oth M c x f t).2
  | 0 => h
  | t + 1 => by
    have ih := k_oth_p (x := x) (f := f) h t
    by_cases g : t = x
    · rw [k_oth_y g]; exact ih
    · rw [k_oth_n g]; exact ih.snd _
theorem k_oth_2 {M : tk_M} {c x : Nat} {f : Nat → List Int32} : ∀ t, (k_oth M c x f t).1.2 = M.2
  | 0 => rfl
  | t + 1 => by
    have ih := k_oth_2 (M := M) (c := c) (x := x) (f := f) t
    by_cases g : t = x
    · rw [k_oth_y g]; exact ih
    · rw [k_oth_n g]; exact (k_snd_2 _ _ _).trans ih
theorem k_oth_at {M : tk_M} {c x a b : Nat} {f : Nat → List Int32} (h : po M c) (h1 : a < 8 ∨ 70 ≤ a) (h2 : ¬ (a = 6 ∧ b = 3)) : ∀ t, (k_oth M c x f t).1.1 a b = M.1 a b
  | 0 => rfl
  | t + 1 => by
    have ih := k_oth_at (x := x) (f := f) h h1 h2 t
    by_cases g : t = x
    · rw [k_oth_y g]; exact ih
    · rw [k_oth_n g]; exact (k_snd_at (k_oth_p h t) h1 h2).trans ih
/-- a letter that lies in no row stands -/
theorem k_oth_q {M : tk_M} {c x q b : Nat} {f : Nat → List Int32} (h : po M c) (h8 : q ≠ 8) (h6 : q ≠ 6) (hq : ∀ b, b < 60 → M.2.2 7 b ≠ q) : ∀ t, (k_oth M c x f t).1.1 q b = M.1 q b
  | 0 => rfl
  | t + 1 => by
    have ih := k_oth_q (b := b) (x := x) (f := f) h h8 h6 hq t
    by_cases g : t = x
    · rw [k_oth_y g]; exact ih
    · rw [k_oth_n g]; exact (k_snd_q ((k_oth_p h t).ne h8 (by rw [k_oth_2]; exact hq)) (fun w => h6 w.1)).trans ih
noncomputable def k_hw (g : gJ) (nw : Int) (M : tk_M) (x j : Nat) : Bool := decide (M.1 (jN j) 8 = 0) && (decide (M.1 (eN x j) 4 < M.1 (eN x j) 2) || !decide (nxI g nw (M.1 (eN x j) 2).toInt = -1))
def k_htw (G : Nat → gJ) (M : tk_M) (x j : Nat) (mm : Int) (k : Nat) : Bool := anyN (fun i => (!decide (M.1 (jN j + 3) i = 0)) && (decide (M.1 (eN x i) 4 = -1) || decide ((G i).2.2.2 (M.1 (eN x i) 4).toInt / 1440 < (G j).2.2.2 mm / 1440))) k
theorem calK.lm {M : tk_M} {j : Nat} {g : gJ} (H : calK M j g) {x : Int} (h1 : 0 ≤ x) (h2 : x ≤ 52595999) : x - 900 ≤ g.2.2.2 x ∧ g.2.2.2 x ≤ x + 900 := by
  obtain ⟨z, h, ne, n, ρ, mv, st, os, e1, e2, e3, e4, e5, e6, e7, e8, e9, e10, e11⟩ := H
  obtain ⟨w1, w2, w3⟩ := pt_en e2.1 h1 h2
  have := e2.1.2.2.2.2.1 _ w1
  rw [e11]
  omega
set_option maxHeartbeats 4000000 in
set_option maxRecDepth 100000 in
theorem n_K_desks {l : Launch} {E : tk_E} {M : tk_M} {x y : Int32} (hb : ¬ (¬ x < 0 ∧ x < 2)) : tk_Mt l y_K_desk b_K_desk 3 (some .boolean) 0 E [.ref (E.1 + 0), .int (x), .int (y)] M M (some (.int 0)) := by
  refine tk_ofV (by decide +kernel) [some (.ref (E.1 + 0)), some (.int (x)), some (.int (y))] rfl (Nat.le_of_ble_eq_true rfl) ?_
  intro p e s m args below meth c cx hB
  refine v_iload_n cx (tk_dc d_K_desk 0 rfl) rfl ?_
  refine v_if_lt cx (tk_dc d_K_desk 1 rfl) 19 (by decide) (fun h1 => ?_) (fun h1 => ?_)
  · refine v_iconst cx (tk_dc d_K_desk 11 rfl) (0) (by decide) ?_
    exact v_zret cx hB (tk_dc d_K_desk 12 rfl) (by first | exact Or.inl rfl | exact Or.inr rfl | exact b01_01 _ | assumption) (rfl) (rfl)
  · refine v_iload_n cx (tk_dc d_K_desk 2 rfl) rfl ?_
    refine v_iconst cx (tk_dc d_K_desk 3 rfl) (2) (by decide) ?_
    refine v_icmp_ge cx (tk_dc d_K_desk 4 rfl) 19 (by decide) (fun h6 => ?_) (fun h6 => ?_)
    · refine v_iconst cx (tk_dc d_K_desk 11 rfl) (0) (by decide) ?_
      exact v_zret cx hB (tk_dc d_K_desk 12 rfl) (by first | exact Or.inl rfl | exact Or.inr rfl | exact b01_01 _ | assumption) (rfl) (rfl)
    · exact absurd ⟨h1, Int32.not_le.mp h6⟩ hb

set_option maxHeartbeats 4000000 in
set_option maxRecDepth 100000 in
theorem n_K_desk {l : Launch} {E : tk_E} {M : tk_M} {x : Nat} {y : Int32} (hx : x < 2) (hy : M.1 4 x = y) : tk_Mt l y_K_desk b_K_desk 3 (some .boolean) 0 E [.ref (E.1 + 0), .int (nI x), .int (y)] M M (some (.int 0)) := by
  refine tk_ofV (by decide +kernel) [some (.ref (E.1 + 0)), some (.int (nI x)), some (.int (y))] rfl (Nat.le_of_ble_eq_true rfl) ?_
  intro p e s m args below meth c cx hB
  refine v_iload_n cx (tk_dc d_K_desk 0 rfl) rfl ?_
  refine v_if_lt cx (tk_dc d_K_desk 1 rfl) 19 (by decide) (fun h => absurd h (nI_pos (by omega))) (fun _ => ?_)
  refine v_iload_n cx (tk_dc d_K_desk 2 rfl) rfl ?_
  refine v_iconst cx (tk_dc d_K_desk 3 rfl) (2) (by decide) ?_
  refine v_icmp_ge cx (tk_dc d_K_desk 4 rfl) 19 (by decide) (fun h => absurd h (Int32.not_le.mpr (nI_lt (b := 2) hx (by decide)))) (fun _ => ?_)
  refine v_aload_n cx (tk_dc d_K_desk 5 rfl) rfl ?_
  refine v_getC cx 4 (tk_dc d_K_desk 6 rfl) f_K_27 o_K (by decide) (by rfl) ?_
  refine v_iload_n cx (tk_dc d_K_desk 7 rfl) rfl ?_
  refine w_zald cx (tk_dc d_K_desk 8 rfl) o_dk x (rfl) (by omega) (by decide) ?_
  refine v_iload_n cx (tk_dc d_K_desk 9 rfl) rfl ?_
  refine v_icmp_ne cx (tk_dc d_K_desk 10 rfl) 21 (by decide) (fun h => absurd (hy) h) (fun _ => ?_)
  refine v_iconst cx (tk_dc d_K_desk 11 rfl) (0) (by decide) ?_
  exact v_zret cx hB (tk_dc d_K_desk 12 rfl) (by first | exact Or.inl rfl | exact Or.inr rfl | exact b01_01 _ | assumption) (rfl) (rfl)

set_option maxHeartbeats 4000000 in
set_option maxRecDepth 100000 in
theorem c_K_desk {l : Launch} {E : tk_E} {M : tk_M} {x : Nat} {y : Int32} (hx : x < 2) (hy : ¬ M.1 4 x = y) (hy1 : y = 0 ∨ y = 1) : tk_Mt l y_K_desk b_K_desk 3 (some .boolean) 0 E [.ref (E.1 + 0), .int (nI x), .int (y)] M (wI M 4 x y) (some (.int 1)) := by
  refine tk_ofV (by decide +kernel) [some (.ref (E.1 + 0)), some (.int (nI x)), some (.int (y))] rfl (Nat.le_of_ble_eq_true rfl) ?_
  intro p e s m args below meth c cx hB
  refine v_iload_n cx (tk_dc d_K_desk 0 rfl) rfl ?_
  refine v_if_lt cx (tk_dc d_K_desk 1 rfl) 19 (by decide) (fun h => absurd h (nI_pos (by omega))) (fun _ => ?_)
  refine v_iload_n cx (tk_dc d_K_desk 2 rfl) rfl ?_
  refine v_iconst cx (tk_dc d_K_desk 3 rfl) (2) (by decide) ?_
  refine v_icmp_ge cx (tk_dc d_K_desk 4 rfl) 19 (by decide) (fun h => absurd h (Int32.not_le.mpr (nI_lt (b := 2) hx (by decide)))) (fun _ => ?_)
  refine v_aload_n cx (tk_dc d_K_desk 5 rfl) rfl ?_
  refine v_getC cx 4 (tk_dc d_K_desk 6 rfl) f_K_27 o_K (by decide) (by rfl) ?_
  refine v_iload_n cx (tk_dc d_K_desk 7 rfl) rfl ?_
  refine w_zald cx (tk_dc d_K_desk 8 rfl) o_dk x (rfl) (by omega) (by decide) ?_
  refine v_iload_n cx (tk_dc d_K_desk 9 rfl) rfl ?_
  refine v_icmp_ne cx (tk_dc d_K_desk 10 rfl) 21 (by decide) (fun _ => ?_) (fun h => absurd h (hy))
  refine v_aload_n cx (tk_dc d_K_desk 13 rfl) rfl ?_
  refine v_getC cx 4 (tk_dc d_K_desk 14 rfl) f_K_27 o_K (by decide) (by rfl) ?_
  refine v_iload_n cx (tk_dc d_K_desk 15 rfl) rfl ?_
  refine v_iload_n cx (tk_dc d_K_desk 16 rfl) rfl ?_
  refine w_zast cx (tk_dc d_K_desk 17 rfl) o_dk x (rfl) (by omega) (by decide) (by first | exact Or.inl rfl | exact Or.inr rfl | assumption) ?_
  refine v_iconst cx (tk_dc d_K_desk 18 rfl) (1) (by decide) ?_
  exact v_zret cx hB (tk_dc d_K_desk 19 rfl) (by first | exact Or.inl rfl | exact Or.inr rfl | exact b01_01 _ | assumption) (rfl) (rfl)

set_option maxHeartbeats 4000000 in
set_option maxRecDepth 100000 in
theorem n_K_register {l : Launch} {E : tk_E} {M : tk_M} {x y w : Int32} (hb : ¬ ((¬ x < 0 ∧ x < 3) ∧ ¬ y < 0 ∧ y < 8)) : tk_Mt l y_K_register b_K_register 4 (some .int) 1 E [.ref (E.1 + 0), .int (x), .int (y), .int (w)] M M (some (.int (-1))) := by
  refine tk_ofV (by decide +kernel) [some (.ref (E.1 + 0)), some (.int (x)), some (.int (y)), some (.int (w))] rfl (Nat.le_of_ble_eq_true rfl) ?_
  intro p e s m args below meth c cx hB
  refine v_iload_n cx (tk_dc d_K_register 0 rfl) rfl ?_
  refine v_callS (rest := _) cx (tk_dc d_K_register 1 rfl) m_K_120 ks_K_isScheduler k_K_isScheduler (c_K_isScheduler) rfl rfl (Nat.le_of_ble_eq_true rfl) (by decide) ?_
  refine v_if_eq cx (tk_dc d_K_register 2 rfl) 32 (by decide) (fun h4 => ?_) (fun h4 => ?_)
  · refine v_iconst cx (tk_dc d_K_register 16 rfl) (-1) (by decide) ?_
    exact v_iret cx hB (tk_dc d_K_register 17 rfl) (rfl) (rfl)
  · refine v_iload_n cx (tk_dc d_K_register 3 rfl) rfl ?_
    refine v_callS (rest := _) cx (tk_dc d_K_register 4 rfl) m_K_74 ks_K_isJob k_K_isJob (c_K_isJob) rfl rfl (Nat.le_of_ble_eq_true rfl) (by decide) ?_
    refine v_if_eq cx (tk_dc d_K_register 5 rfl) 32 (by decide) (fun h11 => ?_) (fun h11 => ?_)
    · refine v_iconst cx (tk_dc d_K_register 16 rfl) (-1) (by decide) ?_
      exact v_iret cx hB (tk_dc d_K_register 17 rfl) (rfl) (rfl)
    · exact absurd ⟨of_decide_eq_true (b01_nz h4), of_decide_eq_true (b01_nz h11)⟩ hb

set_option maxHeartbeats 4000000 in
set_option maxRecDepth 100000 in
theorem c_K_register {l : Launch} {E : tk_E} {M : tk_M} {x j : Nat} {w : Int32} (hs : x < 3) (hj : j < 8) : tk_Mt l y_K_register b_K_register 4 (some .int) 1 E [.ref (E.1 + 0), .int (nI x), .int (nI j), .int (w)] M M (some (.int (t_tell M (eN x j) w))) := by
  refine tk_ofV (by decide +kernel) [some (.ref (E.1 + 0)), some (.int (nI x)), some (.int (nI j)), some (.int (w))] rfl (Nat.le_of_ble_eq_true rfl) ?_
  intro p e s m args below meth c cx hB
  refine v_iload_n cx (tk_dc d_K_register 0 rfl) rfl ?_
  refine v_callS (rest := _) cx (tk_dc d_K_register 1 rfl) m_K_120 ks_K_isScheduler k_K_isScheduler (c_K_isScheduler) rfl rfl (Nat.le_of_ble_eq_true rfl) (by decide) ?_
  refine v_if_eq cx (tk_dc d_K_register 2 rfl) 32 (by decide) (fun h => absurd h (b01_d (inN (n := 3) (by decide) hs))) (fun _ => ?_)
  refine v_iload_n cx (tk_dc d_K_register 3 rfl) rfl ?_
  refine v_callS (rest := _) cx (tk_dc d_K_register 4 rfl) m_K_74 ks_K_isJob k_K_isJob (c_K_isJob) rfl rfl (Nat.le_of_ble_eq_true rfl) (by decide) ?_
  refine v_if_eq cx (tk_dc d_K_register 5 rfl) 32 (by decide) (fun h => absurd h (b01_d (inN (n := 8) (by decide) hj))) (fun _ => ?_)
  refine v_aload_n cx (tk_dc d_K_register 6 rfl) rfl ?_
  refine v_getC cx 3 (tk_dc d_K_register 7 rfl) f_K_23 o_K (by decide) (by rfl) ?_
  refine v_iload_n cx (tk_dc d_K_register 8 rfl) rfl ?_
  refine w_aald cx (sN x) (tk_dc d_K_register 9 rfl) o_ss x (rfl) (by omega) (by decide) (rfl) ?_
  refine v_getC cx (sN _ + 1) (tk_dc d_K_register 10 rfl) f_K_126 (o_S (by assumption)) (by decide) (by rfl) ?_
  refine v_iload_n cx (tk_dc d_K_register 11 rfl) rfl ?_
  refine w_aald cx (eN x j) (tk_dc d_K_register 12 rfl) (o_S1 hs) j (rfl) (by omega) (by decide) (rfl) ?_
  refine v_iload_n cx (tk_dc d_K_register 13 rfl) rfl ?_
  refine v_callV (rest := _) cx (tk_dc d_K_register 14 rfl) m_K_147 kn_E_tell kv_E_tell k_E_tell (by first | assumption | exact o_E (by assumption) (by assumption)) (by decide) rfl (c_E_tell (o_E hs hj)) rfl rfl (Nat.le_of_ble_eq_true rfl) (by decide) ?_
  refine v_goto cx (tk_dc d_K_register 15 rfl) 33 (by decide) ?_
  exact v_iret cx hB (tk_dc d_K_register 17 rfl) (rfl) (rfl)

set_option maxHeartbeats 4000000 in
set_option maxRecDepth 100000 in
theorem n_K_effects {l : Launch} {E : tk_E} {M : tk_M} {x : Int32} (hb : ¬ (¬ x < 0 ∧ x < 8)) : tk_Mt l y_K_effects b_K_effects 2 (some .int) 1 E [.ref (E.1 + 0), .int (x)] M M (some (.int (-1))) := by
  refine tk_ofV (by decide +kernel) [some (.ref (E.1 + 0)), some (.int (x))] rfl (Nat.le_of_ble_eq_true rfl) ?_
  intro p e s m args below meth c cx hB
  refine v_iload_n cx (tk_dc d_K_effects 0 rfl) rfl ?_
  refine v_callS (rest := _) cx (tk_dc d_K_effects 1 rfl) m_K_74 ks_K_isJob k_K_isJob (c_K_isJob) rfl rfl (Nat.le_of_ble_eq_true rfl) (by decide) ?_
  refine v_if_eq cx (tk_dc d_K_effects 2 rfl) 19 (by decide) (fun _ => ?_) (fun h => absurd (by rw [decide_eq_false hb]; rfl) h)
  refine v_iconst cx (tk_dc d_K_effects 9 rfl) (-1) (by decide) ?_
  exact v_iret cx hB (tk_dc d_K_effects 10 rfl) (rfl) (rfl)

set_option maxHeartbeats 4000000 in
set_option maxRecDepth 100000 in
theorem c_K_effects {l : Launch} {E : tk_E} {M : tk_M} {j : Nat} (hj : j < 8) : tk_Mt l y_K_effects b_K_effects 2 (some .int) 1 E [.ref (E.1 + 0), .int (nI j)] M M (some (.int (M.1 (jN j + 4) 2))) := by
  refine tk_ofV (by decide +kernel) [some (.ref (E.1 + 0)), some (.int (nI j))] rfl (Nat.le_of_ble_eq_true rfl) ?_
  intro p e s m args below meth c cx hB
  refine v_iload_n cx (tk_dc d_K_effects 0 rfl) rfl ?_
  refine v_callS (rest := _) cx (tk_dc d_K_effects 1 rfl) m_K_74 ks_K_isJob k_K_isJob (c_K_isJob) rfl rfl (Nat.le_of_ble_eq_true rfl) (by decide) ?_
  refine v_if_eq cx (tk_dc d_K_effects 2 rfl) 19 (by decide) (fun h => absurd h (b01_d (inN (n := 8) (by decide) hj))) (fun _ => ?_)
  refine v_aload_n cx (tk_dc d_K_effects 3 rfl) rfl ?_
  refine v_getC cx 5 (tk_dc d_K_effects 4 rfl) f_K_33 o_K (by decide) (by rfl) ?_
  refine v_iload_n cx (tk_dc d_K_effects 5 rfl) rfl ?_
  refine w_aald cx (jN j + 4) (tk_dc d_K_effects 6 rfl) o_ns j (rfl) (by omega) (by decide) (rfl) ?_
  refine v_getI cx (tk_dc d_K_effects 7 rfl) f_K_150 (o_J4 (by assumption)) (by decide) (by rfl) ?_
  refine v_goto cx (tk_dc d_K_effects 8 rfl) 20 (by decide) ?_
  exact v_iret cx hB (tk_dc d_K_effects 10 rfl) (rfl) (rfl)

set_option maxHeartbeats 4000000 in
set_option maxRecDepth 100000 in
theorem n_K_effectj {l : Launch} {E : tk_E} {M : tk_M} {x y w : Int32} (hb : ¬ (¬ x < 0 ∧ x < 8)) : tk_Mt l y_K_effect b_K_effect 4 (some .int) 1 E [.ref (E.1 + 0), .int (x), .int (y), .int (w)] M M (some (.int (-1))) := by
  refine tk_ofV (by decide +kernel) [some (.ref (E.1 + 0)), some (.int (x)), some (.int (y)), some (.int (w))] rfl (Nat.le_of_ble_eq_true rfl) ?_
  intro p e s m args below meth c cx hB
  refine v_iload_n cx (tk_dc d_K_effect 0 rfl) rfl ?_
  refine v_callS (rest := _) cx (tk_dc d_K_effect 1 rfl) m_K_74 ks_K_isJob k_K_isJob (c_K_isJob) rfl rfl (Nat.le_of_ble_eq_true rfl) (by decide) ?_
  refine v_if_eq cx (tk_dc d_K_effect 2 rfl) 24 (by decide) (fun _ => ?_) (fun h => absurd (by rw [decide_eq_false hb]; rfl) h)
  refine v_iconst cx (tk_dc d_K_effect 12 rfl) (-1) (by decide) ?_
  exact v_iret cx hB (tk_dc d_K_effect 13 rfl) (rfl) (rfl)

set_option maxHeartbeats 4000000 in
set_option maxRecDepth 100000 in
theorem n_K_effect {l : Launch} {E : tk_E} {M : tk_M} {j k : Nat} {y w : Int32} (hj : j < 8) (hk : M.1 (jN j + 4) 2 = nI k) (hb : ¬ (¬ y < 0 ∧ y < nI k)) : tk_Mt l y_K_effect b_K_effect 4 (some .int) 1 E [.ref (E.1 + 0), .int (nI j), .int (y), .int (w)] M M (some (.int (-1))) := by
  refine tk_ofV (by decide +kernel) [some (.ref (E.1 + 0)), some (.int (nI j)), some (.int (y)), some (.int (w))] rfl (Nat.le_of_ble_eq_true rfl) ?_
  intro p e s m args below meth c cx hB
  refine v_iload_n cx (tk_dc d_K_effect 0 rfl) rfl ?_
  refine v_callS (rest := _) cx (tk_dc d_K_effect 1 rfl) m_K_74 ks_K_isJob k_K_isJob (c_K_isJob) rfl rfl (Nat.le_of_ble_eq_true rfl) (by decide) ?_
  refine v_if_eq cx (tk_dc d_K_effect 2 rfl) 24 (by decide) (fun h => absurd h (b01_d (inN (n := 8) (by decide) hj))) (fun _ => ?_)
  refine v_iload_n cx (tk_dc d_K_effect 3 rfl) rfl ?_
  refine v_if_lt cx (tk_dc d_K_effect 4 rfl) 24 (by decide) (fun h8 => ?_) (fun h8 => ?_)
  · refine v_iconst cx (tk_dc d_K_effect 12 rfl) (-1) (by decide) ?_
    exact v_iret cx hB (tk_dc d_K_effect 13 rfl) (rfl) (rfl)
  · refine v_iload_n cx (tk_dc d_K_effect 5 rfl) rfl ?_
    refine v_aload_n cx (tk_dc d_K_effect 6 rfl) rfl ?_
    refine v_getC cx 5 (tk_dc d_K_effect 7 rfl) f_K_33 o_K (by decide) (by rfl) ?_
    refine v_iload_n cx (tk_dc d_K_effect 8 rfl) rfl ?_
    refine w_aald cx (jN j + 4) (tk_dc d_K_effect 9 rfl) o_ns j (rfl) (by omega) (by decide) (rfl) ?_
    refine v_getI cx (tk_dc d_K_effect 10 rfl) f_K_150 (o_J4 (by assumption)) (by decide) (by rfl) ?_
    refine v_eqi (nI k) (hk) ?_
    refine v_icmp_lt cx (tk_dc d_K_effect 11 rfl) 26 (by decide) (fun h21 => ?_) (fun h21 => ?_)
    · exact absurd ⟨h8, h21⟩ hb
    · refine v_iconst cx (tk_dc d_K_effect 12 rfl) (-1) (by decide) ?_
      exact v_iret cx hB (tk_dc d_K_effect 13 rfl) (rfl) (rfl)

set_option maxHeartbeats 4000000 in
set_option maxRecDepth 100000 in
theorem c_K_effect0 {l : Launch} {E : tk_E} {M : tk_M} {j k i : Nat} (hj : j < 8) (hk : M.1 (jN j + 4) 2 = nI k) (hk4 : k ≤ 40) (hi : i < k) : tk_Mt l y_K_effect b_K_effect 4 (some .int) 1 E [.ref (E.1 + 0), .int (nI j), .int (nI i), .int (0)] M M (some (.int (M.1 (jN j + 4 + 1) i))) := by
  refine tk_ofV (by decide +kernel) [some (.ref (E.1 + 0)), some (.int (nI j)), some (.int (nI i)), some (.int (0))] rfl (Nat.le_of_ble_eq_true rfl) ?_
  intro p e s m args below meth c cx hB
  refine v_iload_n cx (tk_dc d_K_effect 0 rfl) rfl ?_
  refine v_callS (rest := _) cx (tk_dc d_K_effect 1 rfl) m_K_74 ks_K_isJob k_K_isJob (c_K_isJob) rfl rfl (Nat.le_of_ble_eq_true rfl) (by decide) ?_
  refine v_if_eq cx (tk_dc d_K_effect 2 rfl) 24 (by decide) (fun h => absurd h (b01_d (inN (n := 8) (by decide) hj))) (fun _ => ?_)
  refine v_iload_n cx (tk_dc d_K_effect 3 rfl) rfl ?_
  refine v_if_lt cx (tk_dc d_K_effect 4 rfl) 24 (by decide) (fun h => absurd h (nI_pos (by omega))) (fun _ => ?_)
  refine v_iload_n cx (tk_dc d_K_effect 5 rfl) rfl ?_
  refine v_aload_n cx (tk_dc d_K_effect 6 rfl) rfl ?_
  refine v_getC cx 5 (tk_dc d_K_effect 7 rfl) f_K_33 o_K (by decide) (by rfl) ?_
  refine v_iload_n cx (tk_dc d_K_effect 8 rfl) rfl ?_
  refine w_aald cx (jN j + 4) (tk_dc d_K_effect 9 rfl) o_ns j (rfl) (by omega) (by decide) (rfl) ?_
  refine v_getI cx (tk_dc d_K_effect 10 rfl) f_K_150 (o_J4 (by assumption)) (by decide) (by rfl) ?_
  refine v_eqi (nI k) (hk) ?_
  refine v_icmp_lt cx (tk_dc d_K_effect 11 rfl) 26 (by decide) (fun _ => ?_) (fun h => absurd (nI_lt hi (by omega)) h)
  refine v_iload_n cx (tk_dc d_K_effect 14 rfl) rfl ?_
  refine v_look (off := 25) cx (tk_dc d_K_effect 15 rfl) 52 (by decide) (by decide) (by decide) ?_
  refine v_aload_n cx (tk_dc d_K_effect 16 rfl) rfl ?_
  refine v_getC cx 5 (tk_dc d_K_effect 17 rfl) f_K_33 o_K (by decide) (by rfl) ?_
  refine v_iload_n cx (tk_dc d_K_effect 18 rfl) rfl ?_
  refine w_aald cx (jN j + 4) (tk_dc d_K_effect 19 rfl) o_ns j (rfl) (by omega) (by decide) (rfl) ?_
  refine v_getC cx (jN _ + 4 + 1) (tk_dc d_K_effect 20 rfl) f_K_153 (o_J4 (by assumption)) (by decide) (by rfl) ?_
  refine v_iload_n cx (tk_dc d_K_effect 21 rfl) rfl ?_
  refine w_iald cx (tk_dc d_K_effect 22 rfl) (o_J5 hj) i (rfl) (by omega) (by decide) ?_
  exact v_iret cx hB (tk_dc d_K_effect 23 rfl) (rfl) (rfl)

set_option maxHeartbeats 4000000 in
set_option maxRecDepth 100000 in
theorem c_K_effect1 {l : Launch} {E : tk_E} {M : tk_M} {j k i : Nat} (hj : j < 8) (hk : M.1 (jN j + 4) 2 = nI k) (hk4 : k ≤ 40) (hi : i < k) : tk_Mt l y_K_effect b_K_effect 4 (some .int) 1 E [.ref (E.1 + 0), .int (nI j), .int (nI i), .int (1)] M M (some (.int (M.1 (jN j + 4 + 2) i))) := by
  refine tk_ofV (by decide +kernel) [some (.ref (E.1 + 0)), some (.int (nI j)), some (.int (nI i)), some (.int (1))] rfl (Nat.le_of_ble_eq_true rfl) ?_
  intro p e s m args below meth c cx hB
  refine v_iload_n cx (tk_dc d_K_effect 0 rfl) rfl ?_
  refine v_callS (rest := _) cx (tk_dc d_K_effect 1 rfl) m_K_74 ks_K_isJob k_K_isJob (c_K_isJob) rfl rfl (Nat.le_of_ble_eq_true rfl) (by decide) ?_
  refine v_if_eq cx (tk_dc d_K_effect 2 rfl) 24 (by decide) (fun h => absurd h (b01_d (inN (n := 8) (by decide) hj))) (fun _ => ?_)
  refine v_iload_n cx (tk_dc d_K_effect 3 rfl) rfl ?_
  refine v_if_lt cx (tk_dc d_K_effect 4 rfl) 24 (by decide) (fun h => absurd h (nI_pos (by omega))) (fun _ => ?_)
  refine v_iload_n cx (tk_dc d_K_effect 5 rfl) rfl ?_
  refine v_aload_n cx (tk_dc d_K_effect 6 rfl) rfl ?_
  refine v_getC cx 5 (tk_dc d_K_effect 7 rfl) f_K_33 o_K (by decide) (by rfl) ?_
  refine v_iload_n cx (tk_dc d_K_effect 8 rfl) rfl ?_
  refine w_aald cx (jN j + 4) (tk_dc d_K_effect 9 rfl) o_ns j (rfl) (by omega) (by decide) (rfl) ?_
  refine v_getI cx (tk_dc d_K_effect 10 rfl) f_K_150 (o_J4 (by assumption)) (by decide) (by rfl) ?_
  refine v_eqi (nI k) (hk) ?_
  refine v_icmp_lt cx (tk_dc d_K_effect 11 rfl) 26 (by decide) (fun _ => ?_) (fun h => absurd (nI_lt hi (by omega)) h)
  refine v_iload_n cx (tk_dc d_K_effect 14 rfl) rfl ?_
  refine v_look (off := 37) cx (tk_dc d_K_effect 15 rfl) 64 (by decide) (by decide) (by decide) ?_
  refine v_aload_n cx (tk_dc d_K_effect 24 rfl) rfl ?_
  refine v_getC cx 5 (tk_dc d_K_effect 25 rfl) f_K_33 o_K (by decide) (by rfl) ?_
  refine v_iload_n cx (tk_dc d_K_effect 26 rfl) rfl ?_
  refine w_aald cx (jN j + 4) (tk_dc d_K_effect 27 rfl) o_ns j (rfl) (by omega) (by decide) (rfl) ?_
  refine v_getC cx (jN _ + 4 + 2) (tk_dc d_K_effect 28 rfl) f_K_157 (o_J4 (by assumption)) (by decide) (by rfl) ?_
  refine v_iload_n cx (tk_dc d_K_effect 29 rfl) rfl ?_
  refine w_iald cx (tk_dc d_K_effect 30 rfl) (o_J6 hj) i (rfl) (by omega) (by decide) ?_
  exact v_iret cx hB (tk_dc d_K_effect 31 rfl) (rfl) (rfl)

set_option maxHeartbeats 4000000 in
set_option maxRecDepth 100000 in
theorem c_K_effectx {l : Launch} {E : tk_E} {M : tk_M} {j k i : Nat} {w : Int32} (hj : j < 8) (hk : M.1 (jN j + 4) 2 = nI k) (hk4 : k ≤ 40) (hi : i < k) (hw0 : ¬ w = 0) (hw1 : ¬ w = 1) : tk_Mt l y_K_effect b_K_effect 4 (some .int) 1 E [.ref (E.1 + 0), .int (nI j), .int (nI i), .int (w)] M M (some (.int (-1))) := by
  refine tk_ofV (by decide +kernel) [some (.ref (E.1 + 0)), some (.int (nI j)), some (.int (nI i)), some (.int (w))] rfl (Nat.le_of_ble_eq_true rfl) ?_
  intro p e s m args below meth c cx hB
  refine v_iload_n cx (tk_dc d_K_effect 0 rfl) rfl ?_
  refine v_callS (rest := _) cx (tk_dc d_K_effect 1 rfl) m_K_74 ks_K_isJob k_K_isJob (c_K_isJob) rfl rfl (Nat.le_of_ble_eq_true rfl) (by decide) ?_
  refine v_if_eq cx (tk_dc d_K_effect 2 rfl) 24 (by decide) (fun h => absurd h (b01_d (inN (n := 8) (by decide) hj))) (fun _ => ?_)
  refine v_iload_n cx (tk_dc d_K_effect 3 rfl) rfl ?_
  refine v_if_lt cx (tk_dc d_K_effect 4 rfl) 24 (by decide) (fun h => absurd h (nI_pos (by omega))) (fun _ => ?_)
  refine v_iload_n cx (tk_dc d_K_effect 5 rfl) rfl ?_
  refine v_aload_n cx (tk_dc d_K_effect 6 rfl) rfl ?_
  refine v_getC cx 5 (tk_dc d_K_effect 7 rfl) f_K_33 o_K (by decide) (by rfl) ?_
  refine v_iload_n cx (tk_dc d_K_effect 8 rfl) rfl ?_
  refine w_aald cx (jN j + 4) (tk_dc d_K_effect 9 rfl) o_ns j (rfl) (by omega) (by decide) (rfl) ?_
  refine v_getI cx (tk_dc d_K_effect 10 rfl) f_K_150 (o_J4 (by assumption)) (by decide) (by rfl) ?_
  refine v_eqi (nI k) (hk) ?_
  refine v_icmp_lt cx (tk_dc d_K_effect 11 rfl) 26 (by decide) (fun _ => ?_) (fun h => absurd (nI_lt hi (by omega)) h)
  refine v_iload_n cx (tk_dc d_K_effect 14 rfl) rfl ?_
  refine v_look (off := 49) cx (tk_dc d_K_effect 15 rfl) 76 (by decide) ((lv_osw (k := 0) hw0 rfl).trans ((lv_osw (k := 1) hw1 rfl).trans rfl)) (by decide) ?_
  refine v_iconst cx (tk_dc d_K_effect 32 rfl) (-1) (by decide) ?_
  exact v_iret cx hB (tk_dc d_K_effect 33 rfl) (rfl) (rfl)

set_option maxHeartbeats 4000000 in
set_option maxRecDepth 100000 in
theorem c_K_letters {l : Launch} {E : tk_E} {M : tk_M}   : tk_Mt l y_K_letters b_K_letters 1 (some .int) 0 E [.ref (E.1 + 0)] M M (some (.int (M.1 6 3))) := by
  refine tk_ofV (by decide +kernel) [some (.ref (E.1 + 0))] rfl (Nat.le_of_ble_eq_true rfl) ?_
  intro p e s m args below meth c cx hB
  refine v_aload_n cx (tk_dc d_K_letters 0 rfl) rfl ?_
  refine v_getC cx 6 (tk_dc d_K_letters 1 rfl) f_K_40 o_K (by decide) (by rfl) ?_
  refine v_getI cx (tk_dc d_K_letters 2 rfl) f_K_160 o_P (by decide) (by rfl) ?_
  exact v_iret cx hB (tk_dc d_K_letters 3 rfl) (rfl) (rfl)

set_option maxHeartbeats 4000000 in
set_option maxRecDepth 100000 in
theorem n_K_lose {l : Launch} {E : tk_E} {M : tk_M} {cn : Nat} {x : Int32} (hp : po M cn) (hb : ¬ (¬ x < 0 ∧ x < nI cn)) : tk_Mt l y_K_lose b_K_lose 2 (some .boolean) 1 E [.ref (E.1 + 0), .int (x)] M M (some (.int 0)) := by
  refine tk_ofV (by decide +kernel) [some (.ref (E.1 + 0)), some (.int (x))] rfl (Nat.le_of_ble_eq_true rfl) ?_
  intro p e s m args below meth c cx hB
  refine v_aload_n cx (tk_dc d_K_lose 0 rfl) rfl ?_
  refine v_getC cx 6 (tk_dc d_K_lose 1 rfl) f_K_40 o_K (by decide) (by rfl) ?_
  refine v_iload_n cx (tk_dc d_K_lose 2 rfl) rfl ?_
  refine v_callV (rest := _) cx (tk_dc d_K_lose 3 rfl) m_K_161 kn_P_holds kv_P_holds k_P_holds o_P (by decide) rfl (c_P_holds) rfl rfl (Nat.le_of_ble_eq_true rfl) (by decide) ?_
  rw [hp.2.1]
  refine v_if_ne cx (tk_dc d_K_lose 4 rfl) 13 (by decide) (fun h8 => ?_) (fun h8 => ?_)
  · exact absurd (of_decide_eq_true (b01_nz h8)) hb
  · refine v_iconst cx (tk_dc d_K_lose 5 rfl) (0) (by decide) ?_
    exact v_zret cx hB (tk_dc d_K_lose 6 rfl) (by first | exact Or.inl rfl | exact Or.inr rfl | exact b01_01 _ | assumption) (rfl) (rfl)

set_option maxHeartbeats 4000000 in
set_option maxRecDepth 100000 in
theorem c_K_lose {l : Launch} {E : tk_E} {M : tk_M} {cn i : Nat} (hp : po M cn) (hi : i < cn)  : tk_Mt l y_K_lose b_K_lose 2 (some .boolean) 1 E [.ref (E.1 + 0), .int (nI i)] M (p_tk M i cn) (some (.int 1)) := by
  refine tk_ofV (by decide +kernel) [some (.ref (E.1 + 0)), some (.int (nI i))] rfl (Nat.le_of_ble_eq_true rfl) ?_
  intro p e s m args below meth c cx hB
  have hc6 := hp.1
  refine v_aload_n cx (tk_dc d_K_lose 0 rfl) rfl ?_
  refine v_getC cx 6 (tk_dc d_K_lose 1 rfl) f_K_40 o_K (by decide) (by rfl) ?_
  refine v_iload_n cx (tk_dc d_K_lose 2 rfl) rfl ?_
  refine v_callV (rest := _) cx (tk_dc d_K_lose 3 rfl) m_K_161 kn_P_holds kv_P_holds k_P_holds o_P (by decide) rfl (c_P_holds) rfl rfl (Nat.le_of_ble_eq_true rfl) (by decide) ?_
  rw [hp.2.1]
  refine v_if_ne cx (tk_dc d_K_lose 4 rfl) 13 (by decide) (fun _ => ?_) (fun h => absurd h (b01_d ⟨nI_pos (by omega), nI_lt hi (by omega)⟩))
  refine v_aload_n cx (tk_dc d_K_lose 7 rfl) rfl ?_
  refine v_getC cx 6 (tk_dc d_K_lose 8 rfl) f_K_40 o_K (by decide) (by rfl) ?_
  refine v_iload_n cx (tk_dc d_K_lose 9 rfl) rfl ?_
  refine v_callV (rest := _) cx (tk_dc d_K_lose 10 rfl) m_K_164 kn_P_take kv_P_take k_P_take o_P (by decide) rfl (c_P_take hp.1 hi hp.2.1 (fun b hb => by have := hp.2.2.1 b hb; omega) (fun b hb => (hp.2.2.1 b hb).2) (by have := hp.2.2.2.1; omega) hp.2.2.2.1.2) rfl rfl (Nat.le_of_ble_eq_true rfl) (by decide) ?_
  refine v_pop cx (tk_dc d_K_lose 11 rfl) rfl ?_
  refine v_iconst cx (tk_dc d_K_lose 12 rfl) (1) (by decide) ?_
  exact v_zret cx hB (tk_dc d_K_lose 13 rfl) (by first | exact Or.inl rfl | exact Or.inr rfl | exact b01_01 _ | assumption) (rfl) (rfl)

set_option maxHeartbeats 4000000 in
set_option maxRecDepth 100000 in
theorem n_K_twin {l : Launch} {E : tk_E} {M : tk_M} {cn : Nat} {x : Int32} (hp : po M cn) (hb : ¬ ((¬ x < 0 ∧ x < nI cn) ∧ cn < 60)) : tk_Mt l y_K_twin b_K_twin 2 (some .boolean) 2 E [.ref (E.1 + 0), .int (x)] M M (some (.int 0)) := by
  refine tk_ofV (by decide +kernel) [some (.ref (E.1 + 0)), some (.int (x))] rfl (Nat.le_of_ble_eq_true rfl) ?_
  intro p e s m args below meth c cx hB
  refine v_aload_n cx (tk_dc d_K_twin 0 rfl) rfl ?_
  refine v_getC cx 6 (tk_dc d_K_twin 1 rfl) f_K_40 o_K (by decide) (by rfl) ?_
  refine v_iload_n cx (tk_dc d_K_twin 2 rfl) rfl ?_
  refine v_callV (rest := _) cx (tk_dc d_K_twin 3 rfl) m_K_161 kn_P_holds kv_P_holds k_P_holds o_P (by decide) rfl (c_P_holds) rfl rfl (Nat.le_of_ble_eq_true rfl) (by decide) ?_
  rw [hp.2.1]
  refine v_if_eq cx (tk_dc d_K_twin 4 rfl) 23 (by decide) (fun h8 => ?_) (fun h8 => ?_)
  · refine v_iconst cx (tk_dc d_K_twin 10 rfl) (0) (by decide) ?_
    exact v_zret cx hB (tk_dc d_K_twin 11 rfl) (by first | exact Or.inl rfl | exact Or.inr rfl | exact b01_01 _ | assumption) (rfl) (rfl)
  · refine v_aload_n cx (tk_dc d_K_twin 5 rfl) rfl ?_
    refine v_getC cx 6 (tk_dc d_K_twin 6 rfl) f_K_40 o_K (by decide) (by rfl) ?_
    refine v_getI cx (tk_dc d_K_twin 7 rfl) f_K_160 o_P (by decide) (by rfl) ?_
    refine v_eqi (nI cn) (hp.2.1) ?_
    refine v_bipush cx (tk_dc d_K_twin 8 rfl) (60) (by decide) ?_
    refine v_icmp_lt cx (tk_dc d_K_twin 9 rfl) 25 (by decide) (fun h20 => ?_) (fun h20 => ?_)
    · exact absurd ⟨of_decide_eq_true (b01_nz h8), n_lt60 hp.1 h20⟩ hb
    · refine v_iconst cx (tk_dc d_K_twin 10 rfl) (0) (by decide) ?_
      exact v_zret cx hB (tk_dc d_K_twin 11 rfl) (by first | exact Or.inl rfl | exact Or.inr rfl | exact b01_01 _ | assumption) (rfl) (rfl)

set_option maxHeartbeats 4000000 in
set_option maxRecDepth 100000 in
theorem c_K_twin {l : Launch} {E : tk_E} {M : tk_M} {cn i : Nat} (hp : po M cn) (hi : i < cn) (h6 : cn < 60) : tk_Mt l y_K_twin b_K_twin 2 (some .boolean) 2 E [.ref (E.1 + 0), .int (nI i)] M (p_cp M cn (M.2.2 7 i)) (some (.int 1)) := by
  refine tk_ofV (by decide +kernel) [some (.ref (E.1 + 0)), some (.int (nI i))] rfl (Nat.le_of_ble_eq_true rfl) ?_
  intro p e s m args below meth c cx hB
  have hc6 := hp.1
  refine v_aload_n cx (tk_dc d_K_twin 0 rfl) rfl ?_
  refine v_getC cx 6 (tk_dc d_K_twin 1 rfl) f_K_40 o_K (by decide) (by rfl) ?_
  refine v_iload_n cx (tk_dc d_K_twin 2 rfl) rfl ?_
  refine v_callV (rest := _) cx (tk_dc d_K_twin 3 rfl) m_K_161 kn_P_holds kv_P_holds k_P_holds o_P (by decide) rfl (c_P_holds) rfl rfl (Nat.le_of_ble_eq_true rfl) (by decide) ?_
  rw [hp.2.1]
  refine v_if_eq cx (tk_dc d_K_twin 4 rfl) 23 (by decide) (fun h => absurd h (b01_d ⟨nI_pos (by omega), nI_lt hi (by omega)⟩)) (fun _ => ?_)
  refine v_aload_n cx (tk_dc d_K_twin 5 rfl) rfl ?_
  refine v_getC cx 6 (tk_dc d_K_twin 6 rfl) f_K_40 o_K (by decide) (by rfl) ?_
  refine v_getI cx (tk_dc d_K_twin 7 rfl) f_K_160 o_P (by decide) (by rfl) ?_
  refine v_eqi (nI cn) (hp.2.1) ?_
  refine v_bipush cx (tk_dc d_K_twin 8 rfl) (60) (by decide) ?_
  refine v_icmp_lt cx (tk_dc d_K_twin 9 rfl) 25 (by decide) (fun _ => ?_) (fun h => absurd (nI_lt (b := 60) h6 (by decide)) h)
  refine v_aload_n cx (tk_dc d_K_twin 12 rfl) rfl ?_
  refine v_getC cx 6 (tk_dc d_K_twin 13 rfl) f_K_40 o_K (by decide) (by rfl) ?_
  refine v_iload_n cx (tk_dc d_K_twin 14 rfl) rfl ?_
  refine v_callV (rest := _) cx (tk_dc d_K_twin 15 rfl) m_K_203 kn_P_copyToEnd kv_P_copyToEnd k_P_copyToEnd o_P (by decide) rfl (c_P_copyToEnd h6 hi hp.2.1 (fun b hb => by have := hp.2.2.1 b hb; omega) (fun b hb => (hp.2.2.1 b hb).2) (fun w => absurd (hp.2.2.2.2.1 _ _ (by omega) h6 w) (by omega))) rfl rfl (Nat.le_of_ble_eq_true rfl) (by decide) ?_
  refine v_iconst cx (tk_dc d_K_twin 16 rfl) (1) (by decide) ?_
  exact v_zret cx hB (tk_dc d_K_twin 17 rfl) (by first | exact Or.inl rfl | exact Or.inr rfl | exact b01_01 _ | assumption) (rfl) (rfl)

set_option maxHeartbeats 4000000 in
set_option maxRecDepth 100000 in
theorem n_K_letter {l : Launch} {E : tk_E} {M : tk_M} {cn : Nat} {x y : Int32} (hp : po M cn) (hb : ¬ (¬ x < 0 ∧ x < nI cn)) : tk_Mt l y_K_letter b_K_letter 3 (some .int) 1 E [.ref (E.1 + 0), .int (x), .int (y)] M M (some (.int (-1))) := by
  refine tk_ofV (by decide +kernel) [some (.ref (E.1 + 0)), some (.int (x)), some (.int (y))] rfl (Nat.le_of_ble_eq_true rfl) ?_
  intro p e s m args below meth c cx hB
  refine v_aload_n cx (tk_dc d_K_letter 0 rfl) rfl ?_
  refine v_getC cx 6 (tk_dc d_K_letter 1 rfl) f_K_40 o_K (by decide) (by rfl) ?_
  refine v_iload_n cx (tk_dc d_K_letter 2 rfl) rfl ?_
  refine v_callV (rest := _) cx (tk_dc d_K_letter 3 rfl) m_K_161 kn_P_holds kv_P_holds k_P_holds o_P (by decide) rfl (c_P_holds) rfl rfl (Nat.le_of_ble_eq_true rfl) (by decide) ?_
  rw [hp.2.1]
  refine v_if_eq cx (tk_dc d_K_letter 4 rfl) 27 (by decide) (fun h8 => ?_) (fun h8 => ?_)
  · refine v_iconst cx (tk_dc d_K_letter 13 rfl) (-1) (by decide) ?_
    exact v_iret cx hB (tk_dc d_K_letter 14 rfl) (rfl) (rfl)
  · exact absurd (of_decide_eq_true (b01_nz h8)) hb

set_option maxHeartbeats 4000000 in
set_option maxRecDepth 100000 in
theorem c_K_letter {l : Launch} {E : tk_E} {M : tk_M} {cn i : Nat} {w : Int32} (hp : po M cn) (hi : i < cn)  : tk_Mt l y_K_letter b_K_letter 3 (some .int) 1 E [.ref (E.1 + 0), .int (nI i), .int (w)] M M (some (.int (t_tell M (M.2.2 7 i) w))) := by
  refine tk_ofV (by decide +kernel) [some (.ref (E.1 + 0)), some (.int (nI i)), some (.int (w))] rfl (Nat.le_of_ble_eq_true rfl) ?_
  intro p e s m args below meth c cx hB
  have hc6 := hp.1
  have hq : 8 ≤ M.2.2 7 i ∧ M.2.2 7 i < 70 := by have := hp.2.2.1 i (by omega); omega
  refine v_aload_n cx (tk_dc d_K_letter 0 rfl) rfl ?_
  refine v_getC cx 6 (tk_dc d_K_letter 1 rfl) f_K_40 o_K (by decide) (by rfl) ?_
  refine v_iload_n cx (tk_dc d_K_letter 2 rfl) rfl ?_
  refine v_callV (rest := _) cx (tk_dc d_K_letter 3 rfl) m_K_161 kn_P_holds kv_P_holds k_P_holds o_P (by decide) rfl (c_P_holds) rfl rfl (Nat.le_of_ble_eq_true rfl) (by decide) ?_
  rw [hp.2.1]
  refine v_if_eq cx (tk_dc d_K_letter 4 rfl) 27 (by decide) (fun h => absurd h (b01_d ⟨nI_pos (by omega), nI_lt hi (by omega)⟩)) (fun _ => ?_)
  refine v_aload_n cx (tk_dc d_K_letter 5 rfl) rfl ?_
  refine v_getC cx 6 (tk_dc d_K_letter 6 rfl) f_K_40 o_K (by decide) (by rfl) ?_
  refine v_getC cx 7 (tk_dc d_K_letter 7 rfl) f_K_206 o_P (by decide) (by rfl) ?_
  refine v_iload_n cx (tk_dc d_K_letter 8 rfl) rfl ?_
  refine w_aald cx (M.2.2 7 i) (tk_dc d_K_letter 9 rfl) o_row i (rfl) (by omega) (by decide) (rfl) ?_
  refine v_iload_n cx (tk_dc d_K_letter 10 rfl) rfl ?_
  refine v_callV (rest := _) cx (tk_dc d_K_letter 11 rfl) m_K_210 kn_L_tell kv_L_tell k_L_tell (o_L hq.1 hq.2) (by decide) rfl (c_L_tell (o_L hq.1 hq.2)) rfl rfl (Nat.le_of_ble_eq_true rfl) (by decide) ?_
  refine v_goto cx (tk_dc d_K_letter 12 rfl) 28 (by decide) ?_
  exact v_iret cx hB (tk_dc d_K_letter 14 rfl) (rfl) (rfl)

set_option maxHeartbeats 4000000 in
set_option maxRecDepth 100000 in
theorem n_K_ups {l : Launch} {E : tk_E} {M : tk_M} {x y : Int32} (hb : ¬ (¬ x < 0 ∧ x < 3)) : tk_Mt l y_K_up b_K_up 3 (some .boolean) 2 E [.ref (E.1 + 0), .int (x), .int (y)] M M (some (.int 0)) := by
  refine tk_ofV (by decide +kernel) [some (.ref (E.1 + 0)), some (.int (x)), some (.int (y))] rfl (Nat.le_of_ble_eq_true rfl) ?_
  intro p e s m args below meth c cx hB
  refine v_iload_n cx (tk_dc d_K_up 0 rfl) rfl ?_
  refine v_callS (rest := _) cx (tk_dc d_K_up 1 rfl) m_K_120 ks_K_isScheduler k_K_isScheduler (c_K_isScheduler) rfl rfl (Nat.le_of_ble_eq_true rfl) (by decide) ?_
  refine v_if_eq cx (tk_dc d_K_up 2 rfl) 20 (by decide) (fun _ => ?_) (fun h => absurd (by rw [decide_eq_false hb]; rfl) h)
  refine v_iconst cx (tk_dc d_K_up 10 rfl) (0) (by decide) ?_
  exact v_zret cx hB (tk_dc d_K_up 11 rfl) (by first | exact Or.inl rfl | exact Or.inr rfl | exact b01_01 _ | assumption) (rfl) (rfl)

set_option maxHeartbeats 4000000 in
set_option maxRecDepth 100000 in
theorem n_K_up {l : Launch} {E : tk_E} {M : tk_M} {x : Nat} {y : Int32} (hs : x < 3) (hy : M.1 (sN x) 1 = y) : tk_Mt l y_K_up b_K_up 3 (some .boolean) 2 E [.ref (E.1 + 0), .int (nI x), .int (y)] M M (some (.int 0)) := by
  refine tk_ofV (by decide +kernel) [some (.ref (E.1 + 0)), some (.int (nI x)), some (.int (y))] rfl (Nat.le_of_ble_eq_true rfl) ?_
  intro p e s m args below meth c cx hB
  refine v_iload_n cx (tk_dc d_K_up 0 rfl) rfl ?_
  refine v_callS (rest := _) cx (tk_dc d_K_up 1 rfl) m_K_120 ks_K_isScheduler k_K_isScheduler (c_K_isScheduler) rfl rfl (Nat.le_of_ble_eq_true rfl) (by decide) ?_
  refine v_if_eq cx (tk_dc d_K_up 2 rfl) 20 (by decide) (fun h => absurd h (b01_d (inN (n := 3) (by decide) hs))) (fun _ => ?_)
  refine v_aload_n cx (tk_dc d_K_up 3 rfl) rfl ?_
  refine v_getC cx 3 (tk_dc d_K_up 4 rfl) f_K_23 o_K (by decide) (by rfl) ?_
  refine v_iload_n cx (tk_dc d_K_up 5 rfl) rfl ?_
  refine w_aald cx (sN x) (tk_dc d_K_up 6 rfl) o_ss x (rfl) (by omega) (by decide) (rfl) ?_
  refine v_getI cx (tk_dc d_K_up 7 rfl) f_K_123 (o_S (by assumption)) (by decide) (by rfl) ?_
  refine v_iload_n cx (tk_dc d_K_up 8 rfl) rfl ?_
  refine v_icmp_ne cx (tk_dc d_K_up 9 rfl) 22 (by decide) (fun h => absurd (hy) h) (fun _ => ?_)
  refine v_iconst cx (tk_dc d_K_up 10 rfl) (0) (by decide) ?_
  exact v_zret cx hB (tk_dc d_K_up 11 rfl) (by first | exact Or.inl rfl | exact Or.inr rfl | exact b01_01 _ | assumption) (rfl) (rfl)

set_option maxHeartbeats 4000000 in
set_option maxRecDepth 100000 in
theorem c_K_up0 {l : Launch} {E : tk_E} {M : tk_M} {x : Nat} (hs : x < 3) (hy : ¬ M.1 (sN x) 1 = 0) : tk_Mt l y_K_up b_K_up 3 (some .boolean) 2 E [.ref (E.1 + 0), .int (nI x), .int (0)] M (e_fgt (wI M (sN x) 1 0) x 8) (some (.int 1)) := by
  refine tk_ofV (by decide +kernel) [some (.ref (E.1 + 0)), some (.int (nI x)), some (.int (0))] rfl (Nat.le_of_ble_eq_true rfl) ?_
  intro p e s m args below meth c cx hB
  refine v_iload_n cx (tk_dc d_K_up 0 rfl) rfl ?_
  refine v_callS (rest := _) cx (tk_dc d_K_up 1 rfl) m_K_120 ks_K_isScheduler k_K_isScheduler (c_K_isScheduler) rfl rfl (Nat.le_of_ble_eq_true rfl) (by decide) ?_
  refine v_if_eq cx (tk_dc d_K_up 2 rfl) 20 (by decide) (fun h => absurd h (b01_d (inN (n := 3) (by decide) hs))) (fun _ => ?_)
  refine v_aload_n cx (tk_dc d_K_up 3 rfl) rfl ?_
  refine v_getC cx 3 (tk_dc d_K_up 4 rfl) f_K_23 o_K (by decide) (by rfl) ?_
  refine v_iload_n cx (tk_dc d_K_up 5 rfl) rfl ?_
  refine w_aald cx (sN x) (tk_dc d_K_up 6 rfl) o_ss x (rfl) (by omega) (by decide) (rfl) ?_
  refine v_getI cx (tk_dc d_K_up 7 rfl) f_K_123 (o_S (by assumption)) (by decide) (by rfl) ?_
  refine v_iload_n cx (tk_dc d_K_up 8 rfl) rfl ?_
  refine v_icmp_ne cx (tk_dc d_K_up 9 rfl) 22 (by decide) (fun _ => ?_) (fun h => absurd h (hy))
  refine v_aload_n cx (tk_dc d_K_up 12 rfl) rfl ?_
  refine v_getC cx 3 (tk_dc d_K_up 13 rfl) f_K_23 o_K (by decide) (by rfl) ?_
  refine v_iload_n cx (tk_dc d_K_up 14 rfl) rfl ?_
  refine w_aald cx (sN x) (tk_dc d_K_up 15 rfl) o_ss x (rfl) (by omega) (by decide) (rfl) ?_
  refine v_iload_n cx (tk_dc d_K_up 16 rfl) rfl ?_
  refine v_putZ cx (tk_dc d_K_up 17 rfl) f_K_123 (o_S (by assumption)) (by decide) (by rfl) ⟨rfl, rfl⟩ (by first | exact Or.inl rfl | exact Or.inr rfl | assumption) ?_
  refine v_iload_n cx (tk_dc d_K_up 18 rfl) rfl ?_
  refine v_if_ne cx (tk_dc d_K_up 19 rfl) 45 (by decide) (fun h => absurd (rfl) h) (fun _ => ?_)
  refine v_aload_n cx (tk_dc d_K_up 20 rfl) rfl ?_
  refine v_getC cx 3 (tk_dc d_K_up 21 rfl) f_K_23 o_K (by decide) (by rfl) ?_
  refine v_iload_n cx (tk_dc d_K_up 22 rfl) rfl ?_
  refine w_aald cx (sN x) (tk_dc d_K_up 23 rfl) o_ss x (rfl) (by omega) (by decide) (rfl) ?_
  refine v_callV (rest := _) cx (tk_dc d_K_up 24 rfl) m_K_144 kn_S_forget kv_S_forget k_S_forget (o_S (by assumption)) (by decide) rfl (c_S_forget hs) rfl rfl (Nat.le_of_ble_eq_true rfl) (by decide) ?_
  refine v_iconst cx (tk_dc d_K_up 25 rfl) (1) (by decide) ?_
  exact v_zret cx hB (tk_dc d_K_up 26 rfl) (by first | exact Or.inl rfl | exact Or.inr rfl | exact b01_01 _ | assumption) (rfl) (rfl)

set_option maxHeartbeats 4000000 in
set_option maxRecDepth 100000 in
theorem c_K_up1 {l : Launch} {E : tk_E} {M : tk_M} {x : Nat} (hs : x < 3) (hy : ¬ M.1 (sN x) 1 = 1) : tk_Mt l y_K_up b_K_up 3 (some .boolean) 2 E [.ref (E.1 + 0), .int (nI x), .int (1)] M (wI M (sN x) 1 1) (some (.int 1)) := by
  refine tk_ofV (by decide +kernel) [some (.ref (E.1 + 0)), some (.int (nI x)), some (.int (1))] rfl (Nat.le_of_ble_eq_true rfl) ?_
  intro p e s m args below meth c cx hB
  refine v_iload_n cx (tk_dc d_K_up 0 rfl) rfl ?_
  refine v_callS (rest := _) cx (tk_dc d_K_up 1 rfl) m_K_120 ks_K_isScheduler k_K_isScheduler (c_K_isScheduler) rfl rfl (Nat.le_of_ble_eq_true rfl) (by decide) ?_
  refine v_if_eq cx (tk_dc d_K_up 2 rfl) 20 (by decide) (fun h => absurd h (b01_d (inN (n := 3) (by decide) hs))) (fun _ => ?_)
  refine v_aload_n cx (tk_dc d_K_up 3 rfl) rfl ?_
  refine v_getC cx 3 (tk_dc d_K_up 4 rfl) f_K_23 o_K (by decide) (by rfl) ?_
  refine v_iload_n cx (tk_dc d_K_up 5 rfl) rfl ?_
  refine w_aald cx (sN x) (tk_dc d_K_up 6 rfl) o_ss x (rfl) (by omega) (by decide) (rfl) ?_
  refine v_getI cx (tk_dc d_K_up 7 rfl) f_K_123 (o_S (by assumption)) (by decide) (by rfl) ?_
  refine v_iload_n cx (tk_dc d_K_up 8 rfl) rfl ?_
  refine v_icmp_ne cx (tk_dc d_K_up 9 rfl) 22 (by decide) (fun _ => ?_) (fun h => absurd h (hy))
  refine v_aload_n cx (tk_dc d_K_up 12 rfl) rfl ?_
  refine v_getC cx 3 (tk_dc d_K_up 13 rfl) f_K_23 o_K (by decide) (by rfl) ?_
  refine v_iload_n cx (tk_dc d_K_up 14 rfl) rfl ?_
  refine w_aald cx (sN x) (tk_dc d_K_up 15 rfl) o_ss x (rfl) (by omega) (by decide) (rfl) ?_
  refine v_iload_n cx (tk_dc d_K_up 16 rfl) rfl ?_
  refine v_putZ cx (tk_dc d_K_up 17 rfl) f_K_123 (o_S (by assumption)) (by decide) (by rfl) ⟨rfl, rfl⟩ (by first | exact Or.inl rfl | exact Or.inr rfl | assumption) ?_
  refine v_iload_n cx (tk_dc d_K_up 18 rfl) rfl ?_
  refine v_if_ne cx (tk_dc d_K_up 19 rfl) 45 (by decide) (fun _ => ?_) (fun h => absurd h (by decide))
  refine v_iconst cx (tk_dc d_K_up 25 rfl) (1) (by decide) ?_
  exact v_zret cx hB (tk_dc d_K_up 26 rfl) (by first | exact Or.inl rfl | exact Or.inr rfl | exact b01_01 _ | assumption) (rfl) (rfl)

set_option maxHeartbeats 4000000 in
set_option maxRecDepth 100000 in
theorem c_K_hasWork {l : Launch} {E : tk_E} {M : tk_M} {g : gJ} {nw : Int} {x j : Nat} (hs : x < 3) (hj : j < 8) (H : calK M j g) (hnw : M.1 0 6 = iI nw) (hn0 : 0 ≤ nw) (hn1 : nw ≤ 52595999) (hm : -1 ≤ (M.1 (eN x j) 2).toInt ∧ (M.1 (eN x j) 2).toInt ≤ 52595999) : tk_Mt l y_K_hasWork b_K_hasWork 3 (some .boolean) 6 E [.ref (E.1 + 0), .ref (E.1 + eN x j), .ref (E.1 + jN j)] M M (some (.int (b01 (k_hw g nw M x j)))) := by
  refine tk_ofV (by decide +kernel) [some (.ref (E.1 + 0)), some (.ref (E.1 + eN x j)), some (.ref (E.1 + jN j))] rfl (Nat.le_of_ble_eq_true rfl) ?_
  intro p e s m args below meth c cx hB
  obtain ⟨z, h, ne, n, ρ, mv, st, os, e1, e2, e3, e4, e5, e6, e7, e8, e9, e10, e11⟩ := H
  refine v_aload_n cx (tk_dc d_K_hasWork 0 rfl) rfl ?_
  refine v_getI cx (tk_dc d_K_hasWork 1 rfl) f_K_107 (o_J hj) (by decide) (by rfl) ?_
  refine v_if_ne cx (tk_dc d_K_hasWork 2 rfl) 37 (by decide) (fun h4 => ?_) (fun h4 => ?_)
  · refine v_iconst cx (tk_dc d_K_hasWork 17 rfl) (0) (by decide) ?_
    exact v_zret cx hB (tk_dc d_K_hasWork 18 rfl) (by first | exact Or.inl rfl | exact Or.inr rfl | exact b01_01 _ | assumption) (by unfold k_hw; simp [h4]; rfl) (rfl)
  · refine v_aload_n cx (tk_dc d_K_hasWork 3 rfl) rfl ?_
    refine v_getI cx (tk_dc d_K_hasWork 4 rfl) f_K_224 (o_E hs hj) (by decide) (by rfl) ?_
    refine v_aload_n cx (tk_dc d_K_hasWork 5 rfl) rfl ?_
    refine v_getI cx (tk_dc d_K_hasWork 6 rfl) f_K_227 (o_E hs hj) (by decide) (by rfl) ?_
    refine v_icmp_gt cx (tk_dc d_K_hasWork 7 rfl) 33 (by decide) (fun h15 => ?_) (fun h15 => ?_)
    · refine v_iconst cx (tk_dc d_K_hasWork 15 rfl) (1) (by decide) ?_
      refine v_goto cx (tk_dc d_K_hasWork 16 rfl) 38 (by decide) ?_
      exact v_zret cx hB (tk_dc d_K_hasWork 18 rfl) (by first | exact Or.inl rfl | exact Or.inr rfl | exact b01_01 _ | assumption) (by unfold k_hw; simp [h4, h15]; rfl) (rfl)
    · refine v_aload_n cx (tk_dc d_K_hasWork 8 rfl) rfl ?_
      refine v_aload_n cx (tk_dc d_K_hasWork 9 rfl) rfl ?_
      refine v_getI cx (tk_dc d_K_hasWork 10 rfl) f_K_224 (o_E hs hj) (by decide) (by rfl) ?_
      refine v_eqi (iI (M.1 (eN x j) 2).toInt) (iI_of _) ?_
      refine v_aload_n cx (tk_dc d_K_hasWork 11 rfl) rfl ?_
      refine v_getI cx (tk_dc d_K_hasWork 12 rfl) f_K_44 o_K (by decide) (by rfl) ?_
      refine v_eqi (iI nw) (hnw) ?_
      refine v_callVI (rest := _) cx (tk_dc d_K_hasWork 13 rfl) m_K_230 kn_J_hasNext kv_J_hasNext k_J_hasNext (o_J hj) (by decide) rfl (c_J_hasNext e1 e2 e3 e4 e6 e8 e7 hm.1 hm.2 hn0 hn1 e9 e10) rfl rfl (Nat.le_of_ble_eq_true rfl) (by decide) (fun x9 hx9 => ?_)
      rw [e5] at hx9
      have hx8 := nx_exd hx9
      subst hx8
      refine v_if_eq cx (tk_dc d_K_hasWork 14 rfl) 37 (by decide) (fun h30 => ?_) (fun h30 => ?_)
      · have g30 := b01_z h30
        refine v_iconst cx (tk_dc d_K_hasWork 17 rfl) (0) (by decide) ?_
        exact v_zret cx hB (tk_dc d_K_hasWork 18 rfl) (by first | exact Or.inl rfl | exact Or.inr rfl | exact b01_01 _ | assumption) (by unfold k_hw; rw [g30]; simp [h4, h15]; rfl) (rfl)
      · have g30 := b01_nz h30
        refine v_iconst cx (tk_dc d_K_hasWork 15 rfl) (1) (by decide) ?_
        refine v_goto cx (tk_dc d_K_hasWork 16 rfl) 38 (by decide) ?_
        exact v_zret cx hB (tk_dc d_K_hasWork 18 rfl) (by first | exact Or.inl rfl | exact Or.inr rfl | exact b01_01 _ | assumption) (by unfold k_hw; rw [g30]; simp [h4, h15]; rfl) (rfl)

set_option maxHeartbeats 4000000 in
set_option maxRecDepth 100000 in
theorem c_K_sendToOthers {l : Launch} {E : tk_E} {M : tk_M} {cn x j : Nat} {kk : Int32} (hp : po M cn) (hs : x < 3) (hj : j < 8) : tk_Mt l y_K_sendToOthers b_K_sendToOthers 7 none 1 E [.ref (E.1 + 0), .int (kk), .int (nI x), .int (nI j)] M (k_oth M cn x (fun t => [kk, nI x, nI t, nI j, M.1 (eN x j) 6, M.1 (eN x j) 7, M.1 (eN x j) 8, 0]) 3).1 none := by
  refine tk_ofV (by decide +kernel) [some (.ref (E.1 + 0)), some (.int (kk)), some (.int (nI x)), some (.int (nI j)), none, none, none] rfl (Nat.le_of_ble_eq_true rfl) ?_
  intro p e s m args below meth c cx hB
  have loop : ∀ (r t : Nat) (w6 : Option Value), t + r = 3 → tk_V p l e (tk_rm 1 0 0) s m args below meth c (MQ below (tk_Q E 209 (tk_ct E (k_oth M cn x (fun t => [kk, nI x, nI t, nI j, M.1 (eN x j) 6, M.1 (eN x j) 7, M.1 (eN x j) 8, 0]) 3).1) none) args s 0 0 (tk_A E)) E 7 209 (tk_ct E (k_oth M cn x (fun t => [kk, nI x, nI t, nI j, M.1 (eN x j) 6, M.1 (eN x j) 7, M.1 (eN x j) 8, 0]) t).1) 0 0 16 [some (.ref (E.1 + 0)), some (.int (kk)), some (.int (nI x)), some (.int (nI j)), some (.ref (E.1 + eN x j)), some (.int (nI t)), w6] [] := by
    intro r
    induction r with
    | zero =>
      intro t w6 ht
      have : t = 3 := by omega
      subst this
      refine v_iload cx (tk_dc d_K_sendToOthers 10 rfl) rfl ?_
      refine v_iconst cx (tk_dc d_K_sendToOthers 11 rfl) (3) (by decide) ?_
      refine v_icmp_ge cx (tk_dc d_K_sendToOthers 12 rfl) 78 (by decide) (fun _ => ?_) (fun h => absurd (by decide) h)
      exact v_vret cx hB (tk_dc d_K_sendToOthers 38 rfl) (rfl)
    | succ r ih =>
      intro t w6 ht
      have hq := k_oth_p (x := x) (f := (fun t => [kk, nI x, nI t, nI j, M.1 (eN x j) 6, M.1 (eN x j) 7, M.1 (eN x j) 8, 0])) hp t
      have hat := fun (b : Nat) => k_oth_at (x := x) (f := (fun t => [kk, nI x, nI t, nI j, M.1 (eN x j) 6, M.1 (eN x j) 7, M.1 (eN x j) 8, 0])) (a := eN x j) (b := b) hp (by unfold eN; omega) (by unfold eN; omega) t
      have hn := k_oth_n (M := M) (c := cn) (x := x) (t := t) (f := (fun t => [kk, nI x, nI t, nI j, M.1 (eN x j) 6, M.1 (eN x j) 7, M.1 (eN x j) 8, 0]))
      have hy := k_oth_y (M := M) (c := cn) (x := x) (t := t) (f := (fun t => [kk, nI x, nI t, nI j, M.1 (eN x j) 6, M.1 (eN x j) 7, M.1 (eN x j) 8, 0]))
      generalize k_oth M cn x (fun t => [kk, nI x, nI t, nI j, M.1 (eN x j) 6, M.1 (eN x j) 7, M.1 (eN x j) 8, 0]) t = S at hq hat hn hy
      have he : eN x j ≠ p_q S.1 S.2 := by have := hq.q; unfold eN; omega
      refine v_iload cx (tk_dc d_K_sendToOthers 10 rfl) rfl ?_
      refine v_iconst cx (tk_dc d_K_sendToOthers 11 rfl) (3) (by decide) ?_
      refine v_icmp_ge cx (tk_dc d_K_sendToOthers 12 rfl) 78 (by decide) (fun h => absurd h (Int32.not_le.mpr (nI_lt (b := 3) (by omega) (by decide)))) (fun _ => ?_)
      refine v_iload cx (tk_dc d_K_sendToOthers 13 rfl) rfl ?_
      refine v_iload_n cx (tk_dc d_K_sendToOthers 14 rfl) rfl ?_
      refine v_icmp_eq cx (tk_dc d_K_sendToOthers 15 rfl) 72 (by decide) (fun h25 => ?_) (fun h25 => ?_)
      · have g25 : t = x := nI_inj (by omega) (by omega) h25
        refine v_iinc (lo' := [_, _, _, _, _, _, _]) cx (tk_dc d_K_sendToOthers 36 rfl) rfl (nI (t + 1)) ((nI_succ t).symm) (by decide) rfl ?_
        refine v_goto cx (tk_dc d_K_sendToOthers 37 rfl) 16 (by decide) ?_
        exact v_eqM (by rw [hy g25]) (ih (t + 1) _ (by omega))
      · have g25 : ¬ t = x := fun w => h25 (by rw [w])
        refine v_aload_n cx (tk_dc d_K_sendToOthers 16 rfl) rfl ?_
        refine v_getC cx 6 (tk_dc d_K_sendToOthers 17 rfl) f_K_40 o_K (by decide) (by rfl) ?_
        refine v_iload_n cx (tk_dc d_K_sendToOthers 18 rfl) rfl ?_
        refine v_iload_n cx (tk_dc d_K_sendToOthers 19 rfl) rfl ?_
        refine v_iload cx (tk_dc d_K_sendToOthers 20 rfl) rfl ?_
        refine v_iload_n cx (tk_dc d_K_sendToOthers 21 rfl) rfl ?_
        refine v_callV (rest := _) cx (tk_dc d_K_sendToOthers 22 rfl) m_K_220 kn_P_open kv_P_open k_P_open o_P (by decide) rfl (c_P_open hq.1 hq.2.1 (fun h => by have := hq.2.2.1 _ h; omega) (fun h => (hq.2.2.1 _ h).2)) rfl rfl (Nat.le_of_ble_eq_true rfl) (by decide) ?_
        refine v_eqM (M' := k_snd S.1 S.2 [kk, nI x, nI t, nI j, 0, -1, 0, 0]) rfl ?_
        refine v_astore (lo' := [_, _, _, _, _, _, _]) cx (tk_dc d_K_sendToOthers 23 rfl) (by decide) rfl ?_
        refine v_aload cx (tk_dc d_K_sendToOthers 24 rfl) rfl ?_
        refine v_aload cx (tk_dc d_K_sendToOthers 25 rfl) rfl ?_
        refine v_getI cx (tk_dc d_K_sendToOthers 26 rfl) f_K_233 (o_E hs hj) (by decide) (by rfl) ?_
        refine v_eqi (M.1 (eN x j) 6) (by (try simp only [wI_ne (show ¬ (eN x j = p_q S.1 S.2 ∧ _) from fun w => he w.1)]); exact (k_snd_q he (by unfold eN; omega)).trans (hat 6)) ?_
        refine v_putI cx (tk_dc d_K_sendToOthers 27 rfl) f_K_236 (o_L hq.q.1 hq.q.2) (by decide) (by rfl) ⟨rfl, rfl⟩ ?_
        refine v_aload cx (tk_dc d_K_sendToOthers 28 rfl) rfl ?_
        refine v_aload cx (tk_dc d_K_sendToOthers 29 rfl) rfl ?_
        refine v_getI cx (tk_dc d_K_sendToOthers 30 rfl) f_K_237 (o_E hs hj) (by decide) (by rfl) ?_
        refine v_eqi (M.1 (eN x j) 7) (by (try simp only [wI_ne (show ¬ (eN x j = p_q S.1 S.2 ∧ _) from fun w => he w.1)]); exact (k_snd_q he (by unfold eN; omega)).trans (hat 7)) ?_
        refine v_putI cx (tk_dc d_K_sendToOthers 31 rfl) f_K_197 (o_L hq.q.1 hq.q.2) (by decide) (by rfl) ⟨rfl, rfl⟩ ?_
        refine v_aload cx (tk_dc d_K_sendToOthers 32 rfl) rfl ?_
        refine v_aload cx (tk_dc d_K_sendToOthers 33 rfl) rfl ?_
        refine v_getI cx (tk_dc d_K_sendToOthers 34 rfl) f_K_240 (o_E hs hj) (by decide) (by rfl) ?_
        refine v_eqi (M.1 (eN x j) 8) (by (try simp only [wI_ne (show ¬ (eN x j = p_q S.1 S.2 ∧ _) from fun w => he w.1)]); exact (k_snd_q he (by unfold eN; omega)).trans (hat 8)) ?_
        refine v_putI cx (tk_dc d_K_sendToOthers 35 rfl) f_K_243 (o_L hq.q.1 hq.q.2) (by decide) (by rfl) ⟨rfl, rfl⟩ ?_
        refine v_iinc (lo' := [_, _, _, _, _, _, _]) cx (tk_dc d_K_sendToOthers 36 rfl) rfl (nI (t + 1)) ((nI_succ t).symm) (by decide) rfl ?_
        refine v_goto cx (tk_dc d_K_sendToOthers 37 rfl) 16 (by decide) ?_
        exact v_eqM (by rw [hn g25]; unfold k_snd; rw [wO_set (by simp), wO_set (by simp), wO_set (by simp)]; rfl) (ih (t + 1) _ (by omega))
  refine v_aload_n cx (tk_dc d_K_sendToOthers 0 rfl) rfl ?_
  refine v_getC cx 3 (tk_dc d_K_sendToOthers 1 rfl) f_K_23 o_K (by decide) (by rfl) ?_
  refine v_iload_n cx (tk_dc d_K_sendToOthers 2 rfl) rfl ?_
  refine w_aald cx (sN x) (tk_dc d_K_sendToOthers 3 rfl) o_ss x (rfl) (by omega) (by decide) (rfl) ?_
  refine v_getC cx (sN _ + 1) (tk_dc d_K_sendToOthers 4 rfl) f_K_126 (o_S (by assumption)) (by decide) (by rfl) ?_
  refine v_iload_n cx (tk_dc d_K_sendToOthers 5 rfl) rfl ?_
  refine w_aald cx (eN x j) (tk_dc d_K_sendToOthers 6 rfl) (o_S1 hs) j (rfl) (by omega) (by decide) (rfl) ?_
  refine v_astore (lo' := [_, _, _, _, _, _, _]) cx (tk_dc d_K_sendToOthers 7 rfl) (by decide) rfl ?_
  refine v_iconst cx (tk_dc d_K_sendToOthers 8 rfl) (0) (by decide) ?_
  refine v_istore (lo' := [_, _, _, _, _, _, _]) cx (tk_dc d_K_sendToOthers 9 rfl) (by decide) rfl ?_
  exact loop 3 0 _ rfl

set_option maxHeartbeats 4000000 in
set_option maxRecDepth 100000 in
theorem c_K_hasToWait {l : Launch} {E : tk_E} {M : tk_M} {G : Nat → gJ} {x j : Nat} {a : Int} (hG : ∀ i, i < 8 → calK M i (G i)) (hkn : ∀ i, i < 8 → -1 ≤ (M.1 (eN x i) 4).toInt ∧ (M.1 (eN x i) 4).toInt ≤ 52595999) (hs : x < 3) (hj : j < 8) (h1 : 0 ≤ a) (h2 : a ≤ 52595999) : tk_Mt l y_K_hasToWait b_K_hasToWait 7 (some .boolean) 2 E [.ref (E.1 + 0), .ref (E.1 + sN x), .ref (E.1 + jN j), .int (iI a)] M M (some (.int (b01 (k_htw G M x j a 8)))) := by
  refine tk_ofV (by decide +kernel) [some (.ref (E.1 + 0)), some (.ref (E.1 + sN x)), some (.ref (E.1 + jN j)), some (.int (iI a)), none, none, none] rfl (Nat.le_of_ble_eq_true rfl) ?_
  intro p e s m args below meth c cx hB
  have dj := (hG j hj).lm h1 h2
  have loop : ∀ (r k : Nat) (w6 : Option Value), k + r = 8 → k_htw G M x j a k = false → tk_V p l e (tk_rm 2 0 0) s m args below meth c (MQ below (tk_Q E 209 (tk_ct E M) (some (.int (b01 (k_htw G M x j a 8))))) args s 0 0 (tk_A E)) E 7 209 (tk_ct E M) 0 0 13 [some (.ref (E.1 + 0)), some (.ref (E.1 + sN x)), some (.ref (E.1 + jN j)), some (.int (iI a)), some (.int (iI ((G j).2.2.2 a / 1440))), some (.int (nI k)), w6] [] := by
    intro r
    induction r with
    | zero =>
      intro k w6 hk hf
      have : k = 8 := by omega
      subst this
      refine v_iload cx (tk_dc d_K_hasToWait 7 rfl) rfl ?_
      refine v_bipush cx (tk_dc d_K_hasToWait 8 rfl) (8) (by decide) ?_
      refine v_icmp_ge cx (tk_dc d_K_hasToWait 9 rfl) 76 (by decide) (fun _ => ?_) (fun h => absurd (by decide) h)
      refine v_iconst cx (tk_dc d_K_hasToWait 37 rfl) (0) (by decide) ?_
      exact v_zret cx hB (tk_dc d_K_hasToWait 38 rfl) (by first | exact Or.inl rfl | exact Or.inr rfl | exact b01_01 _ | assumption) (by rw [hf]; rfl) (rfl)
    | succ r ih =>
      intro k w6 hk hf
      have hk8 : k < 8 := by omega
      have kn := hkn k hk8
      obtain ⟨y, hy⟩ : ∃ y, y = M.1 (eN x k) 4 := ⟨_, rfl⟩
      rw [← hy] at kn
      have st1 : k_htw G M x j a (k + 1) = (k_htw G M x j a k || ((!decide (M.1 (jN j + 3) k = 0)) && (decide (y = -1) || decide ((G k).2.2.2 y.toInt / 1440 < (G j).2.2.2 a / 1440)))) := by rw [hy]; rfl
      rw [hf, Bool.false_or] at st1
      have yes : k_htw G M x j a (k + 1) = true → b01 (k_htw G M x j a 8) = 1 := fun w => by rw [show k_htw G M x j a 8 = true from anyN_le (by omega) w]; rfl
      refine v_iload cx (tk_dc d_K_hasToWait 7 rfl) rfl ?_
      refine v_bipush cx (tk_dc d_K_hasToWait 8 rfl) (8) (by decide) ?_
      refine v_icmp_ge cx (tk_dc d_K_hasToWait 9 rfl) 76 (by decide) (fun h => absurd h (Int32.not_le.mpr (nI_lt (b := 8) (by omega) (by decide)))) (fun _ => ?_)
      refine v_aload_n cx (tk_dc d_K_hasToWait 10 rfl) rfl ?_
      refine v_getC cx (sN _ + 1) (tk_dc d_K_hasToWait 11 rfl) f_K_126 (o_S (by assumption)) (by decide) (by rfl) ?_
      refine v_iload cx (tk_dc d_K_hasToWait 12 rfl) rfl ?_
      refine w_aald cx (eN x k) (tk_dc d_K_hasToWait 13 rfl) (o_S1 hs) k (rfl) (by omega) (by decide) (rfl) ?_
      refine v_getI cx (tk_dc d_K_hasToWait 14 rfl) f_K_227 (o_E hs hk8) (by decide) (by rfl) ?_
      refine v_eqi (y) (hy.symm) ?_
      refine v_istore (lo' := [_, _, _, _, _, _, _]) cx (tk_dc d_K_hasToWait 15 rfl) (by decide) rfl ?_
      refine v_aload_n cx (tk_dc d_K_hasToWait 16 rfl) rfl ?_
      refine v_getC cx (jN _ + 3) (tk_dc d_K_hasToWait 17 rfl) f_K_113 (o_J (by assumption)) (by decide) (by rfl) ?_
      refine v_iload cx (tk_dc d_K_hasToWait 18 rfl) rfl ?_
      refine w_zald cx (tk_dc d_K_hasToWait 19 rfl) (o_J3 hj) k (rfl) (by omega) (by decide) ?_
      refine v_if_eq cx (tk_dc d_K_hasToWait 20 rfl) 70 (by decide) (fun h39 => ?_) (fun h39 => ?_)
      · refine v_iinc (lo' := [_, _, _, _, _, _, _]) cx (tk_dc d_K_hasToWait 35 rfl) rfl (nI (k + 1)) ((nI_succ k).symm) (by decide) rfl ?_
        refine v_goto cx (tk_dc d_K_hasToWait 36 rfl) 13 (by decide) ?_
        exact ih (k + 1) _ (by omega) (by rw [st1]; simp [h39])
      · refine v_iload cx (tk_dc d_K_hasToWait 21 rfl) rfl ?_
        refine v_iconst cx (tk_dc d_K_hasToWait 22 rfl) (-1) (by decide) ?_
        refine v_icmp_eq cx (tk_dc d_K_hasToWait 23 rfl) 68 (by decide) (fun h45 => ?_) (fun h45 => ?_)
        · refine v_iconst cx (tk_dc d_K_hasToWait 33 rfl) (1) (by decide) ?_
          exact v_zret cx hB (tk_dc d_K_hasToWait 34 rfl) (by first | exact Or.inl rfl | exact Or.inr rfl | exact b01_01 _ | assumption) ((yes (by rw [st1]; simp [h39, h45])).symm) (rfl)
        · have kz : 0 ≤ y.toInt := by by_cases w : y.toInt < 0; (exact absurd (iI_ext (z := -1) (by omega)) h45); omega
          have dk := (hG k hk8).lm kz kn.2
          obtain ⟨z, h, ne, n, ρ, mv, st, os, e1, e2, e3, e4, e5, e6, e7, e8, e9, e10, e11⟩ := hG k hk8
          refine v_aload_n cx (tk_dc d_K_hasToWait 24 rfl) rfl ?_
          refine v_getC cx 2 (tk_dc d_K_hasToWait 25 rfl) f_K_17 o_K (by decide) (by rfl) ?_
          refine v_iload cx (tk_dc d_K_hasToWait 26 rfl) rfl ?_
          refine w_aald cx (jN k) (tk_dc d_K_hasToWait 27 rfl) o_js k (rfl) (by omega) (by decide) (rfl) ?_
          refine v_getR cx (tk_dc d_K_hasToWait 28 rfl) f_K_93 (o_J hk8) (by decide) (by rfl) (e1.2.2.1) ?_
          refine v_iload cx (tk_dc d_K_hasToWait 29 rfl) rfl ?_
          refine v_eqi (iI y.toInt) (iI_of y) ?_
          refine v_callV (rest := _) cx (tk_dc d_K_hasToWait 30 rfl) m_K_275 kn_Z_localDay kv_Z_localDay k_Z_localDay (o_Z e1.2.1) (by decide) rfl (c_Z_localDay e1.2.1 e2.1.1 e2.1.2.1 e2.2.1) rfl rfl (Nat.le_of_ble_eq_true rfl) (by decide) ?_
          refine v_eqi (iI ((G k).2.2.2 y.toInt / 1440)) (by rw [z_loc_I e2 kn.1 kn.2, ← e11, show (1440 : Int32) = iI 1440 from rfl, i_fd_eq (by omega) (by omega) (by omega) (by omega)]) ?_
          refine v_iload cx (tk_dc d_K_hasToWait 31 rfl) rfl ?_
          refine v_icmp_ge cx (tk_dc d_K_hasToWait 32 rfl) 70 (by decide) (fun h65 => ?_) (fun h65 => ?_)
          · have g65 : ¬ (G k).2.2.2 y.toInt / 1440 < (G j).2.2.2 a / 1440 := fun w => absurd h65 (Int32.not_le.mpr ((iI_lt (by omega) (by omega) (by omega) (by omega)).mpr w))
            refine v_iinc (lo' := [_, _, _, _, _, _, _]) cx (tk_dc d_K_hasToWait 35 rfl) rfl (nI (k + 1)) ((nI_succ k).symm) (by decide) rfl ?_
            refine v_goto cx (tk_dc d_K_hasToWait 36 rfl) 13 (by decide) ?_
            exact ih (k + 1) _ (by omega) (by rw [st1]; simp [h45, g65])
          · have g65 : (G k).2.2.2 y.toInt / 1440 < (G j).2.2.2 a / 1440 := (iI_lt (by omega) (by omega) (by omega) (by omega)).mp (Int32.not_le.mp h65)
            refine v_iconst cx (tk_dc d_K_hasToWait 33 rfl) (1) (by decide) ?_
            exact v_zret cx hB (tk_dc d_K_hasToWait 34 rfl) (by first | exact Or.inl rfl | exact Or.inr rfl | exact b01_01 _ | assumption) ((yes (by rw [st1]; simp [h39, g65])).symm) (rfl)
  obtain ⟨z, h, ne, n, ρ, mv, st, os, e1, e2, e3, e4, e5, e6, e7, e8, e9, e10, e11⟩ := hG j hj
  refine v_aload_n cx (tk_dc d_K_hasToWait 0 rfl) rfl ?_
  refine v_getR cx (tk_dc d_K_hasToWait 1 rfl) f_K_93 (o_J hj) (by decide) (by rfl) (e1.2.2.1) ?_
  refine v_iload_n cx (tk_dc d_K_hasToWait 2 rfl) rfl ?_
  refine v_callV (rest := _) cx (tk_dc d_K_hasToWait 3 rfl) m_K_275 kn_Z_localDay kv_Z_localDay k_Z_localDay (o_Z e1.2.1) (by decide) rfl (c_Z_localDay e1.2.1 e2.1.1 e2.1.2.1 e2.2.1) rfl rfl (Nat.le_of_ble_eq_true rfl) (by decide) ?_
  refine v_eqi (iI ((G j).2.2.2 a / 1440)) (by rw [z_loc_I e2 (by omega) h2, ← e11, show (1440 : Int32) = iI 1440 from rfl, i_fd_eq (by omega) (by omega) (by omega) (by omega)]) ?_
  refine v_istore (lo' := [_, _, _, _, _, _, _]) cx (tk_dc d_K_hasToWait 4 rfl) (by decide) rfl ?_
  refine v_iconst cx (tk_dc d_K_hasToWait 5 rfl) (0) (by decide) ?_
  refine v_istore (lo' := [_, _, _, _, _, _, _]) cx (tk_dc d_K_hasToWait 6 rfl) (by decide) rfl ?_
  exact loop 8 0 _ rfl rfl
