/-! both sides: refused calls, clock, zones, queries -/
abbrev sK_time : tk_Sig := (y_K_time, b_K_time, 2, (some .boolean), 0)
abbrev sM_time : tk_Sig := (y_M_time, b_M_time, 2, (some .boolean), 0)
abbrev sK_shift : tk_Sig := (y_K_shift, b_K_shift, 4, (some .boolean), 1)
abbrev sM_shift : tk_Sig := (y_M_shift, b_M_shift, 4, (some .boolean), 1)
abbrev sK_holiday : tk_Sig := (y_K_holiday, b_K_holiday, 3, (some .boolean), 2)
abbrev sM_holiday : tk_Sig := (y_M_holiday, b_M_holiday, 3, (some .boolean), 1)
abbrev sK_local : tk_Sig := (y_K_local, b_K_local, 3, (some .int), 1)
abbrev sM_local : tk_Sig := (y_M_local, b_M_local, 3, (some .int), 2)
abbrev sK_mask : tk_Sig := (y_K_mask, b_K_mask, 5, (some .boolean), 1)
abbrev sM_mask : tk_Sig := (y_M_mask, b_M_mask, 5, (some .boolean), 1)
abbrev sK_nth : tk_Sig := (y_K_nth, b_K_nth, 4, (some .boolean), 1)
abbrev sM_nth : tk_Sig := (y_M_nth, b_M_nth, 4, (some .boolean), 1)
abbrev sK_set : tk_Sig := (y_K_set, b_K_set, 4, (some .boolean), 1)
abbrev sM_set : tk_Sig := (y_M_set, b_M_set, 5, (some .boolean), 1)
abbrev sK_after : tk_Sig := (y_K_after, b_K_after, 4, (some .boolean), 1)
abbrev sM_after : tk_Sig := (y_M_after, b_M_after, 4, (some .boolean), 1)
abbrev sK_isDue : tk_Sig := (y_K_isDue, b_K_isDue, 3, (some .boolean), 5)
abbrev sM_isDue : tk_Sig := (y_M_isDue, b_M_isDue, 3, (some .boolean), 8)
abbrev sK_due : tk_Sig := (y_K_due, b_K_due, 3, (some .int), 5)
abbrev sM_due : tk_Sig := (y_M_due, b_M_due, 3, (some .int), 9)
abbrev sK_desk : tk_Sig := (y_K_desk, b_K_desk, 3, (some .boolean), 0)
abbrev sM_desk : tk_Sig := (y_M_desk, b_M_desk, 3, (some .boolean), 0)
abbrev sK_register : tk_Sig := (y_K_register, b_K_register, 4, (some .int), 1)
abbrev sM_register : tk_Sig := (y_M_register, b_M_register, 5, (some .int), 1)
abbrev sK_effects : tk_Sig := (y_K_effects, b_K_effects, 2, (some .int), 1)
abbrev sM_effects : tk_Sig := (y_M_effects, b_M_effects, 2, (some .int), 1)
abbrev sK_effect : tk_Sig := (y_K_effect, b_K_effect, 4, (some .int), 1)
abbrev sM_effect : tk_Sig := (y_M_effect, b_M_effect, 4, (some .int), 1)
abbrev sK_letters : tk_Sig := (y_K_letters, b_K_letters, 1, (some .int), 0)
abbrev sM_letters : tk_Sig := (y_M_letters, b_M_letters, 1, (some .int), 0)
abbrev sK_lose : tk_Sig := (y_K_lose, b_K_lose, 2, (some .boolean), 1)
abbrev sM_lose : tk_Sig := (y_M_lose, b_M_lose, 2, (some .boolean), 1)
abbrev sK_twin : tk_Sig := (y_K_twin, b_K_twin, 2, (some .boolean), 2)
abbrev sM_twin : tk_Sig := (y_M_twin, b_M_twin, 3, (some .boolean), 0)
abbrev sK_letter : tk_Sig := (y_K_letter, b_K_letter, 3, (some .int), 1)
abbrev sM_letter : tk_Sig := (y_M_letter, b_M_letter, 3, (some .int), 0)
abbrev sK_up : tk_Sig := (y_K_up, b_K_up, 3, (some .boolean), 2)
abbrev sM_up : tk_Sig := (y_M_up, b_M_up, 4, (some .boolean), 1)
abbrev sK_wake : tk_Sig := (y_K_wake, b_K_wake, 5, (some .int), 7)
abbrev sM_wake : tk_Sig := (y_M_wake, b_M_wake, 6, (some .int), 10)
abbrev sK_deliver : tk_Sig := (y_K_deliver, b_K_deliver, 3, (some .int), 7)
abbrev sM_deliver : tk_Sig := (y_M_deliver, b_M_deliver, 12, (some .int), 12)
abbrev sK_except : tk_Sig := (y_K_except, b_K_except, 3, (some .boolean), 2)
abbrev sM_except : tk_Sig := (y_M_except, b_M_except, 3, (some .boolean), 1)
theorem sim_ref {l : Launch} {E : tk_E} {K Y : tk_Sig} {as : List Value} {M : tk_M} {T c : Nat} {r : Int32} (h : RR M M T c) (hK : tk_Mt l K.1 K.2.1 K.2.2.1 K.2.2.2.1 K.2.2.2.2 E (.ref (E.1 + 0) :: as) M M (some (.int r))) (hM : tk_MR l Y.1 Y.2.1 Y.2.2.1 Y.2.2.2.1 Y.2.2.2.2 E (.ref (E.1 + 172) :: as) M (NR (some (.int r)) M)) : tk_sim l E K Y as M T :=
  sim_mk h hK kHi.rf (fun h' => ⟨M, c, hM, kLo.rf, h'.mono (Nat.le_succ T)⟩)
theorem czR {l : Launch} {Y : tk_Sig} {E : tk_E} {as : List Value} {M : tk_M} {r : Option Value} (h0 : M.1 172 0 = 0) (hM : tk_Mt l Y.1 Y.2.1 Y.2.2.1 Y.2.2.2.1 Y.2.2.2.2 E as M (cz M) r) : tk_MR l Y.1 Y.2.1 Y.2.2.1 Y.2.2.2.1 Y.2.2.2.2 E as M (NR r M) := by
  rw [cz_id h0] at hM
  exact tk_MtR hM
theorem sim_time {l : Launch} {E : tk_E} {M : tk_M} {T c : Nat} {x : Int32} (h : RR M M T c)  : tk_sim l E sK_time sM_time [.int (x)] M T := by
  have hK := c_K_time (l := l) (E := E) (M := M) (x := x)
  obtain ⟨z0, nw, n1, n2, n3, n4⟩ := h.1
  have rx := iI_range x
  by_cases hc : x < M.1 0 6 ∨ 52595999 < x
  · rw [if_pos hc, if_pos hc] at hK
    refine sim_ref h hK ?_
    have hM := c_M_time (l := l) (E := E) (M := M) (x := x)
    rw [if_pos (by rw [n2, ← n1]; exact hc), if_pos (by rw [n2, ← n1]; exact hc)] at hM
    exact czR z0 hM
  · rw [if_neg hc, if_neg hc] at hK
    refine sim_mk h hK (kHi.wI (by decide)) (fun h' => ?_)
    have hM := c_M_time (l := l) (E := E) (M := wI M 0 6 x) (x := x)
    have e1 : (wI M 0 6 x).1 172 1 = M.1 0 6 := by rw [wI_ne (by omega), n2, n1]
    rw [e1, if_neg hc, if_neg hc, cz_id ((wI_ne (by omega)).trans z0)] at hM
    refine ⟨_, c, tk_MtR hM, kLo.wI (by decide), ?_⟩
    obtain ⟨h1, h2, h3, h4, h5, h6⟩ := h'.mono (Nat.le_succ T)
    have hx1 : nw ≤ x.toInt := by have w : ¬ x < iI nw := fun w => hc (Or.inl (by rw [n1]; exact w)); rw [Int32.not_lt, Int32.le_iff_toInt_le, iI_toInt (by omega) (by omega)] at w; exact w
    have hx2 : x.toInt ≤ 52595999 := by have w : ¬ 52595999 < x := fun w => hc (Or.inr w); rw [Int32.not_lt, Int32.le_iff_toInt_le] at w; exact w
    exact ⟨⟨(wI_ne (by omega)).trans h1.1, x.toInt, (wI_at _ _ _ _).trans (iI_of x), (wI_at _ _ _ _).trans (iI_of x), by omega, hx2⟩, rZ.all (fun a b w1 w2 => wI_ne (by omega)) (fun a b w1 w2 => wI_ne (by omega)) h2, rJ.all (fun a b w1 w2 => wI_ne (by omega)) (fun a b w1 w2 => by rfl) (fun a b w1 w2 => by rfl) (fun a b w => wI_ne (by omega)) (fun b => by rfl) h3, rE.all (fun a b w1 w2 => wI_ne (by omega)) (fun a b w => wI_ne (by omega)) h4, rO.all (fun b => wI_ne (by omega)) (fun b => wI_ne (by omega)) h5, h6.of (wI_ne (by omega)) (fun a b w1 w2 => wI_ne (by omega)) (fun b => by rfl) (by rfl) (wI_ne (by omega)) (fun b => wI_ne (by omega))⟩
theorem sim_shift {l : Launch} {E : tk_E} {M : tk_M} {T c : Nat} {x y w : Int32} (h : RR M M T c)  : tk_sim l E sK_shift sM_shift [.int (x), .int (y), .int (w)] M T := by
  by_cases hb : (¬ x < 0 ∧ x < 4) ∧ (¬ y < 0 ∧ y ≤ 52595999) ∧ (¬ w < -900) ∧ (¬ 900 < w)
  rotate_left
  · exact sim_ref h (n_K_shift hb) (czR h.1.1 (n_M_shift hb))
  obtain ⟨g1, g2, g3, g4⟩ := hb
  obtain ⟨z, hz, rfl⟩ := exN (n := 4) (by decide) g1
  obtain ⟨a, a1, a2, rfl⟩ := exM g2
  obtain ⟨b, hb, rb⟩ : ∃ b, w = iI b ∧ b = w.toInt := ⟨w.toInt, iI_of w, rfl⟩
  rw [Int32.not_lt, Int32.le_iff_toInt_le] at g3 g4
  have b1 : -900 ≤ b := by rw [rb]; exact g3
  have b2 : b ≤ 900 := by rw [rb]; exact g4
  subst hb
  clear rb g3 g4
  obtain ⟨n, hh, st, os, z1, z2, z3, z4, z5, z6⟩ := h.2.1 z hz
  obtain ⟨⟨n1, n9, zs0, zo0, zr, zm⟩, zp, zc⟩ := z1
  have hK := c_K_shift (l := l) (E := E) (M := M) (n := n) hz a1 a2 b1 b2 n1 n9 zp
  have e1 : M.1 (zN z + 1) (n - 1) = iI (st (n - 1)) := (zc (n - 1) (by omega)).1
  have e2 : 1 < n → M.1 173 (8 * z + (n - 1 - 1)) = iI (st (n - 1)) := fun q => by rw [(z2.2.2.2 (n - 1 - 1) (by omega)).1, Nat.sub_add_cancel (by omega)]
  have ec : (9 ≤ n ∨ (1 < n ∧ iI a ≤ M.1 (zN z + 1) (n - 1))) ↔ (n - 1 = 8 ∨ (0 < n - 1 ∧ iI a ≤ M.1 173 (8 * z + (n - 1 - 1)))) := by
    rw [e1]
    constructor
    · rintro (q | q)
      · exact Or.inl (by omega)
      · exact Or.inr ⟨by omega, by rw [e2 q.1]; exact q.2⟩
    · rintro (q | q)
      · exact Or.inl (by omega)
      · exact Or.inr ⟨by omega, by have q2 := q.2; rw [e2 (by omega)] at q2; exact q2⟩
  by_cases hc : 9 ≤ n ∨ (1 < n ∧ iI a ≤ M.1 (zN z + 1) (n - 1))
  · rw [if_pos hc, if_pos hc] at hK
    have hM := c_M_shift (l := l) (E := E) (M := M) (k := n - 1) hz a1 a2 b1 b2 (by omega) z2.2.2.1
    rw [if_pos (ec.mp hc), if_pos (ec.mp hc)] at hM
    exact sim_ref h hK (czR h.1.1 hM)
  · rw [if_neg hc, if_neg hc] at hK
    have hN : ∀ (y0 w0 : Int), ∀ a b, 172 ≤ a → (z_ash M z n (iI y0) (iI w0)).1 a b = M.1 a b := fun _ _ a b q => by unfold z_ash; rw [wI_ne (by unfold zN; omega), wI_ne (by unfold zN; omega), wI_ne (by unfold zN; omega)]
    refine sim_mk h hK (fun a b q => ⟨hN _ _ a b q, rfl⟩) (fun h' => ?_)
    have hM := c_M_shift (l := l) (E := E) (M := z_ash M z n (iI a) (iI b)) (k := n - 1) hz a1 a2 b1 b2 (by omega) ((hN _ _ _ _ (by omega)).trans z2.2.2.1)
    rw [hN _ _ 173 _ (by omega), if_neg (fun q => hc (ec.mpr q)), if_neg (fun q => hc (ec.mpr q)), cz_id ((hN _ _ _ _ (by omega)).trans h.1.1), Nat.sub_add_cancel n1] at hM
    refine ⟨_, c, tk_MtR hM, fun a b q => ⟨by rw [wI_ne (by omega), wI_ne (by omega), wI_ne (by omega)], rfl, rfl⟩, ?_⟩
    obtain ⟨h1, h2, h3, h4, h5, h6⟩ := h'.mono (Nat.le_succ T)
    have n8 : n ≤ 8 := by omega
    have hlt : 1 < n → st (n - 1) < a := fun q => by
      rcases Int.lt_or_le (st (n - 1)) a with v | v
      · exact v
      · exact absurd (Or.inr ⟨q, by rw [e1]; exact (iI_le (by omega) (by omega) (by have := zr (n - 1) (by omega); omega) (by have := zr (n - 1) (by omega); omega)).mpr v⟩) hc
    have pn : zo (n + 1) (fun i => if i = n then a else st i) (fun i => if i = n then b else os i) := by
      refine ⟨by omega, by omega, ?_, ?_, fun i hi => ?_, fun i v1 v2 => ?_⟩
      · simp only; rw [if_neg (by omega)]; exact zs0
      · simp only; rw [if_neg (by omega)]; exact zo0
      · by_cases q : i = n
        · simp only [if_pos q]; omega
        · simp only [if_neg q]; exact zr i (by omega)
      · by_cases q : i + 1 = n
        · simp only [if_pos q]; rw [if_neg (by omega)]; have := hlt (by omega); rw [show n - 1 = i by omega] at this; exact this
        · simp only; rw [if_neg (by omega), if_neg (by omega)]; exact zm i v1 (by omega)
    refine ⟨h1.of (by unfold z_ash; rw [wI_ne (by unfold zN; omega), wI_ne (by unfold zN; omega), wI_ne (by unfold zN; omega)]) (by rw [wI_ne (by omega), wI_ne (by omega), wI_ne (by omega)]) (by rw [wI_ne (by omega), wI_ne (by omega), wI_ne (by omega)]), fun y hy => ?_, rJ.all (fun a b w1 w2 => by unfold z_ash; rw [wI_ne (by unfold zN; omega), wI_ne (by unfold zN; omega), wI_ne (by unfold zN; omega)]) (fun a b w1 w2 => by rfl) (fun a b w1 w2 => by rfl) (fun a b w => by rw [wI_ne (by omega), wI_ne (by omega), wI_ne (by omega)]) (fun b => by rfl) h3, rE.all (fun a b w1 w2 => by unfold z_ash; rw [wI_ne (by unfold zN; omega), wI_ne (by unfold zN; omega), wI_ne (by unfold zN; omega)]) (fun a b w => by rw [wI_ne (by omega), wI_ne (by omega), wI_ne (by omega)]) h4, rO.all (fun b => by unfold z_ash; rw [wI_ne (by unfold zN; omega), wI_ne (by unfold zN; omega), wI_ne (by unfold zN; omega)]) (fun b => by rw [wI_ne (by omega), wI_ne (by omega), wI_ne (by omega)]) h5, h6.of (by unfold z_ash; rw [wI_ne (by unfold zN; omega), wI_ne (by unfold zN; omega), wI_ne (by unfold zN; omega)]) (fun a b w1 w2 => by unfold z_ash; rw [wI_ne (by unfold zN; omega), wI_ne (by unfold zN; omega), wI_ne (by unfold zN; omega)]) (fun b => by rfl) (by rfl) (by rw [wI_ne (by omega), wI_ne (by omega), wI_ne (by omega)]) (fun b => by rw [wI_ne (by omega), wI_ne (by omega), wI_ne (by omega)])⟩
    by_cases q : y = z
    · subst q
      refine ⟨n + 1, hh, _, _, ⟨pn, ?_, fun i hi => ?_⟩, ⟨pn, hy, ?_, fun i hi => ?_⟩, z3, ?_, ?_, fun i hi => ?_⟩
      · unfold z_ash; exact wI_at _ _ _ _
      · unfold z_ash
        by_cases v : i = n
        · subst v
          simp only [if_pos]
          exact ⟨by rw [wI_ne (by unfold zN; omega), wI_ne (by unfold zN; omega), wI_at], by rw [wI_ne (by unfold zN; omega), wI_at]⟩
        · simp only [if_neg v]
          exact ⟨by rw [wI_ne (by unfold zN; omega), wI_ne (by unfold zN; omega), wI_ne (by unfold zN; omega)]; exact (zc i (by omega)).1, by rw [wI_ne (by unfold zN; omega), wI_ne (by unfold zN; omega), wI_ne (by unfold zN; omega)]; exact (zc i (by omega)).2⟩
      · rw [wI_at, Nat.add_sub_cancel]
      · by_cases v : i + 1 = n
        · simp only [if_pos v]
          rw [show 8 * y + i = 8 * y + (n - 1) by omega]
          exact ⟨by rw [wI_ne (by omega), wI_ne (by omega), wI_at], by rw [wI_ne (by omega), wI_at]⟩
        · simp only [if_neg v]
          rw [wI_ne (by omega), wI_ne (by omega), wI_ne (by omega), wI_ne (by omega), wI_ne (by omega), wI_ne (by omega), hN _ _ _ _ (by omega), hN _ _ _ _ (by omega)]
          exact z2.2.2.2 i (by omega)
      · unfold z_ash; rw [wI_nk (by decide), wI_ne (by unfold zN; omega), wI_ne (by unfold zN; omega)]; exact z4
      · rw [wI_ne (by omega), wI_ne (by omega), wI_ne (by omega), hN _ _ _ _ (by omega)]; exact z5
      · unfold z_ash
        rw [wI_ne (by unfold zN; omega), wI_ne (by unfold zN; omega), wI_ne (by unfold zN; omega), wI_ne (by omega), wI_ne (by omega), wI_ne (by omega), wI_ne (by unfold zN; omega), wI_ne (by unfold zN; omega), wI_ne (by unfold zN; omega)]
        exact z6 i hi
    · refine (h2 y hy).of hy (fun a b v1 v2 => ?_) (fun a b v1 => ?_)
      · unfold z_ash; unfold zN at v1 v2; rw [wI_ne (by unfold zN; omega), wI_ne (by unfold zN; omega), wI_ne (by unfold zN; omega)]
      · rw [wI_ne (by omega), wI_ne (by omega), wI_ne (by omega)]