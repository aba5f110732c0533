/-! both sides: up and down, a waking -/
theorem e_fgt_at {M : tk_M} {x a b : Nat} : ∀ k, (∀ j, j < k → a ≠ eN x j) → (e_fgt M x k).1 a b = M.1 a b
  | 0, _ => rfl
  | k + 1, h => by
    unfold e_fgt
    rw [e_end_at (h k (by omega)), wI_ne (fun w => h k (by omega) w.1)]
    exact e_fgt_at k (fun j hj => h j (by omega))
theorem e_fgt_2 {M : tk_M} {x : Nat} : ∀ k, (e_fgt M x k).2 = M.2
  | 0 => rfl
  | k + 1 => by
    unfold e_fgt
    exact e_fgt_2 k
theorem e_fgt_e {M : tk_M} {x j f : Nat} : ∀ k, j < k → k ≤ 8 → (e_fgt M x k).1 (eN x j) f = if f = 4 then -1 else if f = 5 then 0 else if f = 6 then 0 else if f = 7 then -1 else if f = 8 then 0 else M.1 (eN x j) f
  | 0, h, _ => by omega
  | k + 1, h, h8 => by
    unfold e_fgt
    by_cases q : j = k
    · subst q
      have e := e_fgt_at (M := M) (x := x) (a := eN x j) (b := f) j (fun i hi w => by have := (eN_inj (by omega) (by omega) w).2; omega)
      by_cases f4 : f = 4
      · subst f4; simp [e_end, wI]
      · by_cases f5 : f = 5
        · subst f5; simp [e_end, wI]
        · by_cases f6 : f = 6
          · subst f6; simp [e_end, wI]
          · by_cases f7 : f = 7
            · subst f7; simp [e_end, wI]
            · by_cases f8 : f = 8
              · subst f8; simp [e_end, wI]
              · rw [if_neg f4, if_neg f5, if_neg f6, if_neg f7, if_neg f8, ← e]
                unfold e_end
                rw [wI_ne (by omega), wI_ne (by omega), wI_ne (by omega), wI_ne (by omega), wI_ne (by omega)]
    · have w : eN x j ≠ eN x k := fun v => q (eN_inj (by omega) (by omega) v).2
      rw [e_end_at w, wI_ne (fun v => w v.1)]
      exact e_fgt_e k (by omega) (by omega)
theorem m_up_at {M : tk_M} {x a b : Nat} : ∀ k, ¬ (199 ≤ a ∧ a ≤ 202 ∧ 8 * x ≤ b ∧ b < 8 * x + k) → (m_up M x k).1 a b = M.1 a b
  | 0, _ => rfl
  | k + 1, h => by
    unfold m_up m_ovr
    rw [wI_ne (by omega), wI_ne (by omega), wI_ne (by omega), wI_ne (by omega)]
    exact m_up_at k (by omega)
theorem m_up_2 {M : tk_M} {x : Nat} : ∀ k, (m_up M x k).2 = M.2
  | 0 => rfl
  | k + 1 => by
    unfold m_up
    exact m_up_2 k
theorem m_up_e {M : tk_M} {x j : Nat} : ∀ k, j < k → (m_up M x k).1 199 (8 * x + j) = -1 ∧ (m_up M x k).1 200 (8 * x + j) = 0 ∧ (m_up M x k).1 201 (8 * x + j) = 0 ∧ (m_up M x k).1 202 (8 * x + j) = -1
  | 0, h => by omega
  | k + 1, h => by
    unfold m_up m_ovr
    by_cases q : j = k
    · subst q
      exact ⟨by rw [wI_ne (by omega), wI_ne (by omega), wI_ne (by omega), wI_at], by rw [wI_ne (by omega), wI_ne (by omega), wI_at], by rw [wI_ne (by omega), wI_at], wI_at _ _ _ _⟩
    · rw [wI_ne (by omega), wI_ne (by omega), wI_ne (by omega), wI_ne (by omega), wI_ne (by omega), wI_ne (by omega), wI_ne (by omega), wI_ne (by omega), wI_ne (by omega), wI_ne (by omega), wI_ne (by omega), wI_ne (by omega), wI_ne (by omega), wI_ne (by omega), wI_ne (by omega), wI_ne (by omega)]
      exact m_up_e k (by omega)
theorem bnd0 {T : Nat} : bnd T 0 := ⟨0, by omega, rfl⟩
theorem rgm : rg (-1) := by unfold rg; decide
theorem sim_up {l : Launch} {E : tk_E} {M : tk_M} {T c : Nat} {x y : Int32} (h : RR M M T c) (hy : y = 0 ∨ y = 1) : tk_sim l E sK_up sM_up [.int (x), .int (y)] M T := by
  by_cases hb : ¬ x < 0 ∧ x < 3
  rotate_left
  · exact sim_ref h (n_K_ups hb) (tk_MtR (n_M_ups h.1.1 hb))
  obtain ⟨u, hu, rfl⟩ := exN (n := 3) (by decide) hb
  obtain ⟨d1, d2⟩ := (h.2.2.2.1 u hu).1
  have hs := (h.2.2.2.1 u hu).2
  have hsN : sN u = 142 + 10 * u := rfl
  by_cases he : M.1 (sN u) 1 = y
  · exact sim_ref h (n_K_up hu he) (tk_MtR (n_M_up h.1.1 hu (d1.symm.trans he)))
  rcases hy with rfl | rfl
  · refine sim_mk h (c_K_up0 hu he) (fun a b q => ⟨by rw [e_fgt_at 8 (fun j hj => by unfold eN; omega), wI_ne (by unfold sN; omega)], by rw [e_fgt_2]; rfl⟩) (fun h' => ?_)
    have hat : ∀ a b, 172 ≤ a → (e_fgt (wI M (sN u) 1 0) u 8).1 a b = M.1 a b := fun a b q => by rw [e_fgt_at 8 (fun j hj => by unfold eN; omega), wI_ne (by unfold sN; omega)]
    have hM := c_M_up (l := l) (E := E) (M := e_fgt (wI M (sN u) 1 0) u 8) ((hat _ _ (by omega)).trans h.1.1) hu (by rw [hat _ _ (by omega), ← d1]; exact he) (Or.inl rfl)
    refine ⟨_, c, tk_MtR hM, fun a b q => ⟨by rw [m_up_at 8 (by omega), wI_ne (by omega)], by rw [m_up_2]; rfl, by rw [m_up_2]; rfl⟩, ?_⟩
    obtain ⟨h1, h2, h3, h4, h5, h6⟩ := h'.mono (Nat.le_succ T)
    refine ⟨h1.of (by rw [e_fgt_at 8 (fun j hj => by have := eN_ge u j; omega), wI_ne (by unfold sN; omega)]) (by rw [m_up_at 8 (by omega), wI_ne (by omega)]) (by rw [m_up_at 8 (by omega), wI_ne (by omega)]), rZ.all (fun a b w1 w2 => by rw [e_fgt_at 8 (fun j hj => by have := eN_ge u j; omega), wI_ne (by unfold sN; omega)]) (fun a b w1 w2 => by rw [m_up_at 8 (by omega), wI_ne (by omega)]) h2, rJ.all (fun a b w1 w2 => by rw [e_fgt_at 8 (fun j hj => by have := eN_ge u j; omega), wI_ne (by unfold sN; omega)]) (fun a b w1 w2 => by rw [e_fgt_2]; rfl) (fun a b w1 w2 => by rw [e_fgt_2]; rfl) (fun a b w => by rw [m_up_at 8 (by omega), wI_ne (by omega)]) (fun b => by rw [m_up_2]; rfl) h3, fun v hv => ?_, rO.all (fun b => by rw [e_fgt_at 8 (fun j hj => by have := eN_ge u j; omega), wI_ne (by unfold sN; omega)]) (fun b => by rw [m_up_at 8 (by omega), wI_ne (by omega)]) h5, h6.of (by rw [e_fgt_at 8 (fun j hj => by have := eN_ge u j; omega), wI_ne (by unfold sN; omega)]) (fun a b w1 w2 => by rw [e_fgt_at 8 (fun j hj => by have := eN_ge u j; omega), wI_ne (by unfold sN; omega)]) (fun b => by rw [e_fgt_2]; rfl) (by rw [e_fgt_2]; rfl) (by rw [m_up_at 8 (by omega), wI_ne (by omega)]) (fun b => by rw [m_up_at 8 (by omega), wI_ne (by omega)])⟩
    by_cases q : v = u
    · subst q
      refine ⟨⟨by rw [e_fgt_at 8 (fun j hj w => by unfold eN at w; unfold sN at w; omega), wI_at, m_up_at 8 (by omega), wI_at], Or.inl (by rw [e_fgt_at 8 (fun j hj w => by unfold eN at w; unfold sN at w; omega), wI_at])⟩, fun j hj => ?_⟩
      obtain ⟨s1, s2, s3, s4, s5, s6, s7, s8, s9⟩ := (h4 v hv).2 j hj
      have hE := fun f => e_fgt_e (M := wI M (sN v) 1 0) (x := v) (f := f) 8 hj (by omega)
      have hM0 : ∀ f, (wI M (sN v) 1 0).1 (eN v j) f = M.1 (eN v j) f := fun f => wI_ne (by unfold sN eN; omega)
      obtain ⟨m1, m2, m3, m4⟩ := m_up_e (M := wI (e_fgt (wI M (sN v) 1 0) v 8) 193 v 0) (x := v) 8 hj
      refine ⟨fun f hf => ?_, fun w => ?_, ?_, ?_, ?_, ?_, ?_, ?_, fun _ => ?_⟩
      · rcases (show f = 0 ∨ f = 1 ∨ f = 2 ∨ f = 3 ∨ f = 4 ∨ f = 5 ∨ f = 6 ∨ f = 7 by omega) with rfl | rfl | rfl | rfl | rfl | rfl | rfl | rfl
        · rw [hE, if_neg (by decide), if_neg (by decide), if_neg (by decide), if_neg (by decide), if_neg (by decide), hM0, m_up_at 8 (by omega), wI_ne (by omega)]; exact s1 0 (by omega)
        · rw [hE, if_neg (by decide), if_neg (by decide), if_neg (by decide), if_neg (by decide), if_neg (by decide), hM0, m_up_at 8 (by omega), wI_ne (by omega)]; exact s1 1 (by omega)
        · rw [hE, if_neg (by decide), if_neg (by decide), if_neg (by decide), if_neg (by decide), if_neg (by decide), hM0, m_up_at 8 (by omega), wI_ne (by omega)]; exact s1 2 (by omega)
        · rw [hE, if_neg (by decide), if_neg (by decide), if_neg (by decide), if_neg (by decide), if_neg (by decide), hM0, m_up_at 8 (by omega), wI_ne (by omega)]; exact s1 3 (by omega)
        · rw [hE]; exact m1.symm
        · rw [hE]; exact m2.symm
        · rw [hE]; exact m3.symm
        · rw [hE]; exact m4.symm
      · rw [hE] at w; exact absurd (show (0 : Int32) = 2 from w) (by decide)
      · rw [hE, if_neg (by decide), if_neg (by decide), if_neg (by decide), if_neg (by decide), if_neg (by decide), hM0]; exact s3
      · rw [hE, if_neg (by decide), if_neg (by decide), if_neg (by decide), if_neg (by decide), if_neg (by decide), hM0]; exact s4
      · rw [hE]; exact bnd0
      · rw [hE, if_neg (by decide), if_neg (by decide), if_neg (by decide), if_neg (by decide), if_neg (by decide), hM0]; exact s6
      · rw [hE]; exact rgm
      · rw [hE]; exact rgm
      · rw [hE, hE, hE, hE]; exact ⟨rfl, rfl, rfl, rfl⟩
    · refine ⟨(h4 v hv).1.of (by rw [e_fgt_at 8 (fun j hj w => by unfold eN at w; unfold sN at w; omega), wI_ne (by unfold sN; omega)]) (by rw [m_up_at 8 (by omega), wI_ne (by omega)]), fun j hj => ((h4 v hv).2 j hj).of (fun b => by rw [e_fgt_at 8 (fun i hi w => q (eN_inj hj hi w).1), wI_ne (by unfold eN sN; omega)]) (by rw [e_fgt_at 8 (fun j hj w => by unfold eN at w; unfold sN at w; omega), wI_ne (by unfold sN; omega)]) (fun a w1 w2 => by rw [m_up_at 8 (by omega), wI_ne (by omega)])⟩
  · refine sim_mk h (c_K_up1 hu he) (kHi.wI (by omega)) (fun h' => ?_)
    have h0 : M.1 (sN u) 1 = 0 := by rcases d2 with q | q; (exact q); exact absurd q he
    have hM := c_M_up (l := l) (E := E) (M := wI M (sN u) 1 1) ((wI_ne (by omega)).trans h.1.1) hu (by rw [wI_ne (by omega), ← d1]; exact he) (Or.inr rfl)
    refine ⟨_, c, tk_MtR hM, fun a b q => ⟨by rw [m_up_at 8 (by omega), wI_ne (by omega)], by rw [m_up_2]; rfl, by rw [m_up_2]; rfl⟩, ?_⟩
    obtain ⟨h1, h2, h3, h4, h5, h6⟩ := h'.mono (Nat.le_succ T)
    refine ⟨h1.of (wI_ne (by omega)) (by rw [m_up_at 8 (by omega), wI_ne (by omega)]) (by rw [m_up_at 8 (by omega), wI_ne (by omega)]), rZ.all (fun a b w1 w2 => wI_ne (by omega)) (fun a b w1 w2 => by rw [m_up_at 8 (by omega), wI_ne (by omega)]) h2, rJ.all (fun a b w1 w2 => wI_ne (by omega)) (fun a b w1 w2 => by rfl) (fun a b w1 w2 => by rfl) (fun a b w => by rw [m_up_at 8 (by omega), wI_ne (by omega)]) (fun b => by rw [m_up_2]; rfl) h3, fun v hv => ?_, rO.all (fun b => wI_ne (by omega)) (fun b => by rw [m_up_at 8 (by omega), wI_ne (by omega)]) h5, h6.of (wI_ne (by omega)) (fun a b w1 w2 => wI_ne (by omega)) (fun b => by rfl) (by rfl) (by rw [m_up_at 8 (by omega), wI_ne (by omega)]) (fun b => by rw [m_up_at 8 (by omega), wI_ne (by omega)])⟩
    by_cases q : v = u
    · subst q
      refine ⟨⟨by rw [wI_at, m_up_at 8 (by omega), wI_at], Or.inr (wI_at _ _ _ _)⟩, fun j hj => ?_⟩
      obtain ⟨s1, s2, s3, s4, s5, s6, s7, s8, s9⟩ := (h4 v hv).2 j hj
      obtain ⟨f4, f5, f6, f7⟩ := s9 h0
      have hM0 : ∀ f, (wI M (sN v) 1 1).1 (eN v j) f = M.1 (eN v j) f := fun f => wI_ne (by unfold sN eN; omega)
      obtain ⟨m1, m2, m3, m4⟩ := m_up_e (M := wI (wI M (sN v) 1 1) 193 v 1) (x := v) 8 hj
      refine ⟨fun f hf => ?_, fun w => ?_, ?_, ?_, ?_, ?_, ?_, ?_, fun w => ?_⟩
      · rcases (show f = 0 ∨ f = 1 ∨ f = 2 ∨ f = 3 ∨ f = 4 ∨ f = 5 ∨ f = 6 ∨ f = 7 by omega) with rfl | rfl | rfl | rfl | rfl | rfl | rfl | rfl
        · rw [hM0, m_up_at 8 (by omega), wI_ne (by omega)]; exact s1 0 (by omega)
        · rw [hM0, m_up_at 8 (by omega), wI_ne (by omega)]; exact s1 1 (by omega)
        · rw [hM0, m_up_at 8 (by omega), wI_ne (by omega)]; exact s1 2 (by omega)
        · rw [hM0, m_up_at 8 (by omega), wI_ne (by omega)]; exact s1 3 (by omega)
        · rw [hM0, f4]; exact m1.symm
        · rw [hM0, f5]; exact m2.symm
        · rw [hM0, f6]; exact m3.symm
        · rw [hM0, f7]; exact m4.symm
      · rw [hM0, f5] at w; exact absurd w (by decide)
      · rw [hM0]; exact s3
      · rw [hM0]; exact s4
      · rw [hM0]; exact s5
      · rw [hM0]; exact s6
      · rw [hM0]; exact s7
      · rw [hM0]; exact s8
      · rw [wI_at] at w; exact absurd w (by decide)
    · refine ⟨(h4 v hv).1.of (wI_ne (by unfold sN; omega)) (by rw [m_up_at 8 (by omega), wI_ne (by omega)]), fun j hj => ((h4 v hv).2 j hj).of (fun b => wI_ne (by unfold eN sN; omega)) (wI_ne (by unfold sN; omega)) (fun a w1 w2 => by rw [m_up_at 8 (by omega), wI_ne (by omega)])⟩
theorem e_bal_N {p x : Nat} (hp : p ≤ 100000) (hx : x < 3) : e_bal (nI p) (nI x) = nI (balN p x) := by
  unfold e_bal balN
  by_cases w : x < p
  · rw [if_pos w, if_pos (nI_lt w (by omega)), show (1 : Int32) = nI 1 from rfl, nI_subN (by omega), nI_subN (by omega), show (3 : Int32) = nI 3 from rfl, iI_nI (p - x - 1), iI_nI 3, iI_divN (by omega) (by omega) (by omega) (by omega), show iI (((p - x - 1 : Nat) : Int) / ((3 : Nat) : Int)) = nI ((p - x - 1) / 3) from rfl, show iI ((3 : Nat) : Int) = nI 3 from rfl, nI_add, nI_add, pk_mul, nI_add]
  · rw [if_neg w, if_neg (fun v => w ((nI_ltI (by omega) (by omega)).mp v)), show (1 : Int32) = nI 1 from rfl, nI_add, show (3 : Int32) * 0 = nI 0 from rfl, nI_add]
theorem balN_le {p x T : Nat} (hp : p ≤ 3 * T) (hx : x < 3) : balN p x ≤ 3 * (T + 1) := by
  unfold balN
  split <;> omega
theorem e_beg_f {M : tk_M} {i : Nat} {x : Int32} : (e_beg M i x).1 i 0 = e_bal (M.1 i 0) x ∧ (e_beg M i x).1 i 1 = M.1 i 1 ∧ (e_beg M i x).1 i 2 = M.1 i 2 ∧ (e_beg M i x).1 i 3 = M.1 i 3 ∧ (e_beg M i x).1 i 4 = M.1 i 4 ∧ (e_beg M i x).1 i 5 = 1 ∧ (e_beg M i x).1 i 6 = e_bal (M.1 i 0) x ∧ (e_beg M i x).1 i 7 = -1 ∧ (e_beg M i x).1 i 8 = 0 := by
  unfold e_beg e_end
  simp [wI]
theorem m_bg_f {M : tk_M} {k : Nat} {b : Int32} : (m_bg M k b).1 195 k = b ∧ (m_bg M k b).1 200 k = 1 ∧ (m_bg M k b).1 201 k = b ∧ (m_bg M k b).1 202 k = -1 := by
  unfold m_bg
  simp [wI]
theorem wk_cond {A B : tk_M} {T c x j : Nat} {g : gJ} {nw : Int} (h : RR A B T c) (hx : x < 3) (hj : j < 8) : k_hw g nw A x j = true ↔ ¬ (¬ B.1 192 j = 0 ∨ (B.1 197 (8 * x + j) ≤ B.1 199 (8 * x + j) ∧ nxI g nw (B.1 197 (8 * x + j)).toInt = -1)) := by
  have e1 : A.1 (jN j) 8 = B.1 192 j := (h.2.2.1 j hj).2.2.2.2.1
  have e2 : A.1 (eN x j) 2 = B.1 197 (8 * x + j) := ((h.2.2.2.1 x hx).2 j hj).1 2 (by omega)
  have e3 : A.1 (eN x j) 4 = B.1 199 (8 * x + j) := ((h.2.2.2.1 x hx).2 j hj).1 4 (by omega)
  unfold k_hw
  rw [e1, e2, e3]
  simp only [Bool.and_eq_true, Bool.or_eq_true, decide_eq_true_eq, Bool.not_eq_true', decide_eq_false_iff_not]
  constructor
  · rintro ⟨w1, w2⟩ (v | v)
    · exact v w1
    · rcases w2 with w2 | w2
      · exact absurd v.1 (Int32.not_le.mpr w2)
      · exact w2 v.2
  · intro w
    refine ⟨Decidable.not_not.mp (fun v => w (Or.inl v)), ?_⟩
    by_cases v : B.1 199 (8 * x + j) < B.1 197 (8 * x + j)
    · exact Or.inl v
    · exact Or.inr (fun u => w (Or.inr ⟨Int32.not_lt.mp v, u⟩))
theorem RR.wake {A B : tk_M} {T c x : Nat} {G : Nat → gJ} {nw : Int} (h : RR A B T c) (hT : T ≤ 1000) (hx : x < 3) (hu : ¬ A.1 (sN x) 1 = 0) : ∀ j, j ≤ 8 → (k_wk G nw x A c j).2 = (m_wk G nw x B c j).2 ∧ RR (k_wk G nw x A c j).1 (m_wk G nw x B c j).1 (T + 1) (m_wk G nw x B c j).2.1
  | 0, _ => ⟨rfl, h.mono (Nat.le_succ T)⟩
  | j + 1, hj => by
    obtain ⟨ih1, ih2⟩ := RR.wake (G := G) (nw := nw) h hT hx hu j (by omega)
    have hp := h.2.2.2.2.2.1
    have ka := k_wk_at (G := G) (nw := nw) (x := x) (a := eN x j) (b := 0) hp (Or.inr (by have := eN_ge x j; omega)) (by have := eN_ge x j; omega) j (fun i hi w => by have := (eN_inj (by omega) (by omega) w).2; omega)
    have kr := k_wk_at (G := G) (nw := nw) (x := x) (a := sN x) (b := 1) hp (Or.inr (by unfold sN; omega)) (by unfold sN; omega) j (fun i hi w => by unfold sN eN at w; omega)
    obtain ⟨q, hq1, hq2⟩ := ((h.2.2.2.1 x hx).2 j (by omega)).2.2.1
    rw [hq2] at ka
    rw [k_wk, m_wk]
    generalize k_wk G nw x A c j = S at ih1 ih2 ka kr
    generalize m_wk G nw x B c j = U at ih1 ih2
    have hcond := wk_cond (g := G j) (nw := nw) ih2 hx (show j < 8 by omega)
    unfold k_wk1 m_wk1
    by_cases hk : k_hw (G j) nw S.1 x j = true
    · rw [if_pos hk, if_neg (hcond.mp hk)]
      obtain ⟨s1, s2, s3, s4, s5, s6, s7, s8, s9⟩ := (ih2.2.2.2.1 x hx).2 j (by omega)
      have eb : (U.1.1 195 (8 * x + j)).toNatClampNeg = q := by rw [← s1 0 (by omega), ka, nI_clamp (by omega)]
      obtain ⟨b0, b1, b2, b3, b4, b5, b6, b7, b8⟩ := e_beg_f (M := S.1) (i := eN x j) (x := nI x)
      rw [ka, e_bal_N (by omega) hx] at b0 b6
      obtain ⟨c0, c5, c6, c7⟩ := m_bg_f (M := U.1) (k := 8 * x + j) (b := nI (balN q x))
      have hbb : bnd (T + 1) (nI (balN q x)) := ⟨balN q x, balN_le hq1 hx, rfl⟩
      rw [eb, b6, b7, b8, show S.2.1 = U.2.1 by rw [ih1], show S.2.2 = U.2.2 by rw [ih1]]
      have hse : RR (e_beg S.1 (eN x j) (nI x)) (m_bg U.1 (8 * x + j) (nI (balN q x))) (T + 1) U.2.1 := by
        refine ih2.seat hx (show j < 8 by omega) (fun a b w => e_beg_at w) rfl (fun a b w => by unfold m_bg; rw [wI_ne (by omega), wI_ne (by omega), wI_ne (by omega), wI_ne (by omega)]) rfl ⟨fun f hf => ?_, fun w => ?_, ?_, ?_, ?_, ?_, ?_, ?_, fun w => ?_⟩
        · rcases (show f = 0 ∨ f = 1 ∨ f = 2 ∨ f = 3 ∨ f = 4 ∨ f = 5 ∨ f = 6 ∨ f = 7 by omega) with rfl | rfl | rfl | rfl | rfl | rfl | rfl | rfl
          · rw [b0]; exact c0.symm
          · rw [b1, m_bg_at (by omega) (by omega) (by omega) (by omega)]; exact s1 1 (by omega)
          · rw [b2, m_bg_at (by omega) (by omega) (by omega) (by omega)]; exact s1 2 (by omega)
          · rw [b3, m_bg_at (by omega) (by omega) (by omega) (by omega)]; exact s1 3 (by omega)
          · rw [b4, m_bg_at (by omega) (by omega) (by omega) (by omega)]; exact s1 4 (by omega)
          · rw [b5]; exact c5.symm
          · rw [b6]; exact c6.symm
          · rw [b7]; exact c7.symm
        · rw [b5] at w; exact absurd w (by decide)
        · rw [b0]; exact hbb
        · rw [b1]; exact s4
        · rw [b6]; exact hbb
        · rw [b2]; exact s6
        · rw [b4]; exact s7
        · rw [b7]; exact rgm
        · rw [e_beg_at (by unfold sN eN; omega), kr] at w; exact absurd w hu
      have ho := hse.oth (f := fun t => [nI 0, nI x, nI t, nI j, nI (balN q x), -1, 0, 0]) x (fun _ => rfl) 3 (fun t w1 w2 => ⟨0, x, t, j, by omega, hx, w1, by omega, rfl, rfl, rfl, rfl, fun w => absurd w (by decide), hbb, rgm⟩)
      exact ⟨by rw [ho.1], ho.2⟩
    · rw [if_neg hk, if_pos (Decidable.not_not.mp (fun w => hk (hcond.mpr w)))]
      exact ⟨ih1, ih2⟩
theorem sim_wake {l : Launch} {E : tk_E} {M : tk_M} {T c : Nat} {x : Int32} (h : RR M M T c) (hT : T ≤ 1000) : tk_sim l E sK_wake sM_wake [.int (x)] M T := by
  by_cases hb : ¬ x < 0 ∧ x < 3
  rotate_left
  · exact sim_ref h (n_K_wakes hb) (tk_MtR (n_M_wakes h.1.1 hb))
  obtain ⟨u, hu, rfl⟩ := exN (n := 3) (by decide) hb
  obtain ⟨d1, d2⟩ := (h.2.2.2.1 u hu).1
  by_cases he : M.1 (sN u) 1 = 0
  · exact sim_ref h (n_K_wake hu he) (tk_MtR (n_M_wake h.1.1 hu (d1.symm.trans he)))
  obtain ⟨G, hG⟩ := h.cal
  obtain ⟨z0, nw, n1, n2, n3, n4⟩ := h.1
  have hp := h.2.2.2.2.2.1
  have hs := (h.2.2.2.1 u hu).2
  have hK := c_K_wake (l := l) (E := E) (G := G) hp (fun i hi => (hG i hi).1) n1 n3 n4 hu he (fun i hi => (hs i hi).2.2.2.2.2.1)
  refine sim_mk h hK (fun a b q => ⟨k_wk_at hp (by omega) (by omega) 8 (fun i hi => by unfold eN; omega), by rw [k_wk_2]⟩) (fun h' => ?_)
  have hat : ∀ a b, 172 ≤ a → (k_wk G nw u M c 8).1.1 a b = M.1 a b := fun a b q => k_wk_at hp (by omega) (by omega) 8 (fun i hi => by unfold eN; omega)
  have hce : CE M (k_wk G nw u M c 8).1 := ⟨fun b => by rw [k_wk_2], fun a b w1 w2 w3 => hat a b (by omega)⟩
  obtain ⟨r1, r2⟩ := h'.wake (G := G) (nw := nw) hT hu he 8 (by omega)
  rw [r1]
  skip
  have hM := c_M_wake (l := l) (E := E) (M := (k_wk G nw u M c 8).1) (G := G) (nw := nw) ((hat _ _ (by omega)).trans z0) ((hat _ _ (by omega)).trans h.2.2.2.2.2.2.1) hp.1 (fun i hi => (hG i hi).2.ce hce) ((hat _ _ (by omega)).trans n2) n3 n4 hu (by rw [hat _ _ (by omega), ← d1]; exact he) (fun i hi => by rw [hat _ _ (by omega), ← (hs i hi).1 2 (by omega)]; exact (hs i hi).2.2.2.2.2.1) (fun i hi => by obtain ⟨q, q1, q2⟩ := (hs i hi).2.2.1; exact ⟨q, by omega, by rw [hat _ _ (by omega), ← (hs i hi).1 0 (by omega)]; exact q2⟩)
  exact ⟨_, _, hM, fun a b q => ⟨m_wk_at (by omega) (by omega) (by omega) (by omega) (by omega) 8 (by omega), by rw [m_wk_2], by rw [m_wk_2]⟩, r2⟩