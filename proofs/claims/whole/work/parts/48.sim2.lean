/-! both sides: holidays, queries, desks, letters -/
theorem hol_eq {A B : tk_M} {z k : Nat} (h : ∀ i, i < k → A.1 (zN z + 3) i = B.1 176 (16 * z + i)) (y : Int32) : z_hol A z k y = m_hol B z k y := anyN_congr (fun i hi => by rw [h i hi])
theorem exc_eq {A B : tk_M} {j k : Nat} (h : ∀ i, i < k → A.1 (jN j + 2) i = B.1 188 (8 * j + i)) (y : Int32) : j_exc A j k y = m_exc B j k y := anyN_congr (fun i hi => by rw [h i hi])
theorem sim_holiday {l : Launch} {E : tk_E} {M : tk_M} {T c : Nat} {x y : Int32} (h : RR M M T c)  : tk_sim l E sK_holiday sM_holiday [.int (x), .int (y)] M T := by
  by_cases hb : (¬ x < 0 ∧ x < 4) ∧ (¬ y < 0) ∧ (¬ 36524 < y)
  rotate_left
  · exact sim_ref h (n_K_holiday hb) (czR h.1.1 (n_M_holiday hb))
  obtain ⟨g1, g2, g3⟩ := hb
  obtain ⟨z, hz, rfl⟩ := exN (n := 4) (by decide) g1
  obtain ⟨n, k, st, os, z1, z2, z3, z4, z5, z6⟩ := h.2.1 z hz
  have hK := c_K_holiday (l := l) (E := E) (M := M) (y := y) hz g2 g3 z3 z4
  have eh := hol_eq (A := M) (B := M) z6 y
  by_cases hc : k = 16 ∨ z_hol M z k y = true
  · rw [if_pos hc, if_pos hc] at hK
    have hM := c_M_holiday (l := l) (E := E) (M := M) hz g2 g3 z3 z5
    rw [← eh, if_pos hc, if_pos hc] at hM
    exact sim_ref h hK (czR h.1.1 hM)
  · rw [if_neg hc, if_neg hc] at hK
    have hN : ∀ a b, 172 ≤ a → (z_ahd M z k y).1 a b = M.1 a b := fun a b q => by unfold z_ahd; exact by rw [wI_ne (by unfold zN; omega), wI_ne (by unfold zN; omega)]
    refine sim_mk h hK (fun a b q => ⟨hN a b q, rfl⟩) (fun h' => ?_)
    have hM := c_M_holiday (l := l) (E := E) (M := z_ahd M z k y) hz g2 g3 z3 ((hN _ _ (by omega)).trans z5)
    have e2 : m_hol (z_ahd M z k y) z k y = z_hol M z k y := by rw [eh]; exact anyN_congr (fun i hi => by rw [hN _ _ (by omega)])
    rw [e2, if_neg hc, if_neg hc, cz_id ((hN _ _ (by omega)).trans h.1.1)] at hM
    refine ⟨_, c, tk_MtR hM, fun a b q => ⟨by rw [wI_ne (by omega), wI_ne (by omega)], rfl, rfl⟩, ?_⟩
    obtain ⟨h1, h2, h3, h4, h5, h6⟩ := h'.mono (Nat.le_succ T)
    have k16 : k < 16 := by omega
    refine ⟨h1.of (by unfold z_ahd; exact by rw [wI_ne (by unfold zN; omega), wI_ne (by unfold zN; omega)]) (by rw [wI_ne (by omega), wI_ne (by omega)]) (by rw [wI_ne (by omega), wI_ne (by omega)]), fun u hu => ?_, rJ.all (fun a b w1 w2 => by unfold z_ahd; exact by rw [wI_ne (by unfold zN; omega), wI_ne (by unfold zN; omega)]) (fun a b w1 w2 => by rfl) (fun a b w1 w2 => by rfl) (fun a b w => by rw [wI_ne (by omega), wI_ne (by omega)]) (fun b => by rfl) h3, rE.all (fun a b w1 w2 => by unfold z_ahd; exact by rw [wI_ne (by unfold zN; omega), wI_ne (by unfold zN; omega)]) (fun a b w => by rw [wI_ne (by omega), wI_ne (by omega)]) h4, rO.all (fun b => by unfold z_ahd; exact by rw [wI_ne (by unfold zN; omega), wI_ne (by unfold zN; omega)]) (fun b => by rw [wI_ne (by omega), wI_ne (by omega)]) h5, h6.of (by unfold z_ahd; exact by rw [wI_ne (by unfold zN; omega), wI_ne (by unfold zN; omega)]) (fun a b w1 w2 => by unfold z_ahd; exact by rw [wI_ne (by unfold zN; omega), wI_ne (by unfold zN; omega)]) (fun b => by rfl) (by rfl) (by rw [wI_ne (by omega), wI_ne (by omega)]) (fun b => by rw [wI_ne (by omega), wI_ne (by omega)])⟩
    by_cases q : u = z
    · subst q
      refine ⟨n, k + 1, st, os, ⟨z1.1, ?_, fun i hi => ?_⟩, ⟨z2.1, hu, ?_, fun i hi => ?_⟩, by omega, ?_, wI_at _ _ _ _, fun i hi => ?_⟩
      · unfold z_ahd; rw [wI_nk (by decide), wI_ne (by unfold zN; omega)]; exact z1.2.1
      · unfold z_ahd; rw [wI_ne (by unfold zN; omega), wI_ne (by unfold zN; omega), wI_ne (by unfold zN; omega), wI_ne (by unfold zN; omega)]; exact z1.2.2 i hi
      · rw [wI_ne (by omega), wI_ne (by omega), hN _ _ (by omega)]; exact z2.2.2.1
      · rw [wI_ne (by omega), wI_ne (by omega), wI_ne (by omega), wI_ne (by omega), hN _ _ (by omega), hN _ _ (by omega)]; exact z2.2.2.2 i hi
      · exact wI_at _ _ _ _
      · by_cases v : i = k
        · subst v
          unfold z_ahd; rw [wI_ne (by unfold zN; omega), wI_at, wI_ne (by omega), wI_at]
        · rw [wI_ne (by omega), wI_ne (by omega), hN 176 _ (by omega)]; unfold z_ahd; rw [wI_ne (by unfold zN; omega), wI_ne (by unfold zN; omega)]; exact z6 i (by omega)
    · refine (h2 u hu).of hu (fun a b v1 v2 => ?_) (fun a b v1 => ?_)
      · unfold z_ahd; unfold zN at v1 v2; rw [wI_ne (by unfold zN; omega), wI_ne (by unfold zN; omega)]
      · rw [wI_ne (by omega), wI_ne (by omega)]
theorem sim_isDue {l : Launch} {E : tk_E} {M : tk_M} {T c : Nat} {x y : Int32} (h : RR M M T c)  : tk_sim l E sK_isDue sM_isDue [.int (x), .int (y)] M T := by
  by_cases hb : (¬ x < 0 ∧ x < 8) ∧ ¬ y < 0 ∧ y ≤ 52595999
  rotate_left
  · exact sim_ref h (n_K_isDue hb) (tk_MtR (n_M_isDue h.1.1 hb))
  obtain ⟨j, hj, rfl⟩ := exN (n := 8) (by decide) hb.1
  obtain ⟨a, a1, a2, rfl⟩ := exM hb.2
  obtain ⟨g, k1, k2⟩ := h.cal1 hj
  exact sim_ref h (c_K_isDue hj a1 a2 k1) (c_M_isDue h.1.1 hj a1 a2 k2)
theorem sim_due {l : Launch} {E : tk_E} {M : tk_M} {T c : Nat} {x y : Int32} (h : RR M M T c)  : tk_sim l E sK_due sM_due [.int (x), .int (y)] M T := by
  by_cases hb : (¬ x < 0 ∧ x < 8) ∧ ¬ y < 0 ∧ y ≤ 52595999
  rotate_left
  · exact sim_ref h (n_K_due hb) (tk_MtR (n_M_due h.1.1 hb))
  obtain ⟨j, hj, rfl⟩ := exN (n := 8) (by decide) hb.1
  obtain ⟨a, a1, a2, rfl⟩ := exM hb.2
  obtain ⟨g, k1, k2⟩ := h.cal1 hj
  exact sim_ref h (c_K_due hj a1 a2 k1) (c_M_due h.1.1 hj a1 a2 k2)
theorem sim_local {l : Launch} {E : tk_E} {M : tk_M} {T c : Nat} {x y : Int32} (h : RR M M T c)  : tk_sim l E sK_local sM_local [.int (x), .int (y)] M T := by
  by_cases hb : (¬ x < 0 ∧ x < 4) ∧ ¬ y < 0 ∧ y ≤ 52595999
  rotate_left
  · exact sim_ref h (n_K_local hb) (tk_MtR (n_M_local h.1.1 hb))
  obtain ⟨z, hz, rfl⟩ := exN (n := 4) (by decide) hb.1
  obtain ⟨a, a1, a2, rfl⟩ := exM hb.2
  obtain ⟨n, k, st, os, z1, z2, z3⟩ := h.2.1 z hz
  exact sim_ref h (c_K_local hz a1 a2 z1) (tk_MtR (c_M_local h.1.1 hz a1 a2 z2))
theorem sim_desk {l : Launch} {E : tk_E} {M : tk_M} {T c : Nat} {x y : Int32} (h : RR M M T c) (hy : y = 0 ∨ y = 1) : tk_sim l E sK_desk sM_desk [.int (x), .int (y)] M T := by
  by_cases hb : ¬ x < 0 ∧ x < 2
  rotate_left
  · exact sim_ref h (n_K_desks hb) (tk_MtR (n_M_desks h.1.1 hb))
  obtain ⟨d, hd, rfl⟩ := exN (n := 2) (by decide) hb
  obtain ⟨d1, d2⟩ := h.2.2.2.2.1 d hd
  by_cases he : M.1 4 d = y
  · exact sim_ref h (n_K_desk hd he) (tk_MtR (n_M_desk h.1.1 hd (d1.symm.trans he)))
  · refine sim_mk h (c_K_desk hd he hy) (kHi.wI (by decide)) (fun h' => ?_)
    have hM := c_M_desk (l := l) (E := E) (M := wI M 4 d y) ((wI_ne (by omega)).trans h.1.1) hd (by rw [wI_ne (by omega), ← d1]; exact he) hy
    refine ⟨_, c, tk_MtR hM, kLo.wI (by decide), ?_⟩
    obtain ⟨h1, h2, h3, h4, h5, h6⟩ := h'.mono (Nat.le_succ T)
    refine ⟨h1.of (wI_ne (by omega)) (wI_ne (by omega)) (wI_ne (by omega)), rZ.all (fun a b w1 w2 => wI_ne (by omega)) (fun a b w1 w2 => wI_ne (by omega)) h2, rJ.all (fun a b w1 w2 => wI_ne (by omega)) (fun a b w1 w2 => by rfl) (fun a b w1 w2 => by rfl) (fun a b w => wI_ne (by omega)) (fun b => by rfl) h3, rE.all (fun a b w1 w2 => wI_ne (by omega)) (fun a b w => wI_ne (by omega)) h4, fun u hu => ?_, h6.of (wI_ne (by omega)) (fun a b w1 w2 => wI_ne (by omega)) (fun b => by rfl) (by rfl) (wI_ne (by omega)) (fun b => wI_ne (by omega))⟩
    by_cases q : u = d
    · subst q; exact ⟨(wI_at _ _ _ _).trans (wI_at _ _ _ _).symm, by rw [wI_at]; exact hy⟩
    · exact (h5 u hu).of (wI_ne (by omega)) (wI_ne (by omega))
theorem sim_letters {l : Launch} {E : tk_E} {M : tk_M} {T c : Nat} (h : RR M M T c) : tk_sim l E sK_letters sM_letters [] M T := by
  have hK := c_K_letters (l := l) (E := E) (M := M)
  have hM := c_M_letters (l := l) (E := E) (M := M) h.1.1
  rw [h.2.2.2.2.2.1.2.1] at hK
  rw [h.2.2.2.2.2.2.1] at hM
  exact sim_ref h hK (tk_MtR hM)
theorem sim_lose {l : Launch} {E : tk_E} {M : tk_M} {T c : Nat} {x : Int32} (h : RR M M T c)  : tk_sim l E sK_lose sM_lose [.int (x)] M T := by
  have hp := h.2.2.2.2.2.1
  have hcm := h.2.2.2.2.2.2.1
  have hc6 := hp.1
  by_cases hb : ¬ x < 0 ∧ x < nI c
  rotate_left
  · exact sim_ref h (n_K_lose hp hb) (tk_MtR (n_M_lose h.1.1 hcm hc6 hb))
  obtain ⟨i, hi, rfl⟩ := exN (n := c) (by omega) hb
  refine sim_mk h (c_K_lose hp hi) (fun a b q => ⟨p_tk_at (by omega), rfl⟩) (fun h' => ?_)
  have hM := c_M_lose (l := l) (E := E) (M := p_tk M i c) ((p_tk_at (by omega)).trans h.1.1) ((p_tk_at (by omega)).trans hcm) hc6 hi
  exact ⟨_, c - 1, tk_MtR hM, fun a b q => ⟨m_rem_at (by omega) (by omega), rfl, rfl⟩, (h'.take hi).mono (Nat.le_succ T)⟩
theorem k_snd_hi {M : tk_M} {c : Nat} {l : List Int32} (hp : po M c) : kHi M (k_snd M c l) := fun a b q => ⟨k_snd_at hp (by omega) (by omega), by rw [k_snd_2]⟩
theorem m_snd_lo {M : tk_M} {c : Nat} {l : List Int32} : kLo M (m_snd M c l) := fun a b q => ⟨m_snd_at (by omega) (by omega), by rw [m_snd_2], by rw [m_snd_2]⟩
theorem k_oth_hi {M : tk_M} {c x : Nat} {f : Nat → List Int32} (hp : po M c) (t : Nat) : kHi M (k_oth M c x f t).1 := fun a b q => ⟨k_oth_at hp (by omega) (by omega) t, by rw [k_oth_2]⟩
theorem m_oth_lo {M : tk_M} {c x : Nat} {f : Nat → List Int32} (t : Nat) : kLo M (m_oth M c x f t).1 := fun a b q => ⟨m_oth_at (by omega) (by omega) t, by rw [m_oth_2], by rw [m_oth_2]⟩
theorem sim_twin {l : Launch} {E : tk_E} {M : tk_M} {T c : Nat} {x : Int32} (h : RR M M T c)  : tk_sim l E sK_twin sM_twin [.int (x)] M T := by
  have hp := h.2.2.2.2.2.1
  have hcm := h.2.2.2.2.2.2.1
  have hc6 := hp.1
  by_cases hb : (¬ x < 0 ∧ x < nI c) ∧ c < 60
  rotate_left
  · exact sim_ref h (n_K_twin hp hb) (tk_MtR (n_M_twin h.1.1 hcm hc6 hb))
  obtain ⟨i, hi, rfl⟩ := exN (n := c) (by omega) hb.1
  obtain ⟨r1, r2⟩ := h.2.2.2.2.2.2.2 i hi
  have eK : p_cp M c (M.2.2 7 i) = k_snd M c [M.1 208 (8 * i), M.1 208 (8 * i + 1), M.1 208 (8 * i + 2), M.1 208 (8 * i + 3), M.1 208 (8 * i + 4), M.1 208 (8 * i + 5), M.1 208 (8 * i + 6), M.1 208 (8 * i + 7)] := by
    unfold p_cp k_snd
    rw [r1 0 (by omega), r1 1 (by omega), r1 2 (by omega), r1 3 (by omega), r1 4 (by omega), r1 5 (by omega), r1 6 (by omega), r1 7 (by omega)]
    rfl
  have hK := c_K_twin (l := l) (E := E) hp hi hb.2
  rw [eK] at hK
  refine sim_mk h hK (k_snd_hi hp) (fun h' => ?_)
  have hat : ∀ a b, 172 ≤ a → (k_snd M c [M.1 208 (8 * i), M.1 208 (8 * i + 1), M.1 208 (8 * i + 2), M.1 208 (8 * i + 3), M.1 208 (8 * i + 4), M.1 208 (8 * i + 5), M.1 208 (8 * i + 6), M.1 208 (8 * i + 7)]).1 a b = M.1 a b := fun a b q => k_snd_at hp (by omega) (by omega)
  generalize hN : k_snd M c [M.1 208 (8 * i), M.1 208 (8 * i + 1), M.1 208 (8 * i + 2), M.1 208 (8 * i + 3), M.1 208 (8 * i + 4), M.1 208 (8 * i + 5), M.1 208 (8 * i + 6), M.1 208 (8 * i + 7)] = N at hat h' ⊢
  have hM := c_M_twin (l := l) (E := E) (M := N) ((hat _ _ (by omega)).trans h.1.1) ((hat _ _ (by omega)).trans hcm) hc6 hi hb.2
  have eM : wI (m_cpy N i c 8) 172 38 (nI (c + 1)) = m_snd N c [M.1 208 (8 * i), M.1 208 (8 * i + 1), M.1 208 (8 * i + 2), M.1 208 (8 * i + 3), M.1 208 (8 * i + 4), M.1 208 (8 * i + 5), M.1 208 (8 * i + 6), M.1 208 (8 * i + 7)] := by
    rw [m_cpy_8]
    unfold m_snd
    rw [if_pos hb.2, hat _ _ (by omega), hat _ _ (by omega), hat _ _ (by omega), hat _ _ (by omega), hat _ _ (by omega), hat _ _ (by omega), hat _ _ (by omega), hat _ _ (by omega)]
  rw [eM] at hM
  refine ⟨_, cup c, tk_MtR hM, m_snd_lo, ?_⟩
  have hr := h'.send (l := [M.1 208 (8 * i), M.1 208 (8 * i + 1), M.1 208 (8 * i + 2), M.1 208 (8 * i + 3), M.1 208 (8 * i + 4), M.1 208 (8 * i + 5), M.1 208 (8 * i + 6), M.1 208 (8 * i + 7)]) rfl (by
    obtain ⟨k, f, t, j, w1, w2, w3, w4, w5, w6, w7, w8, w9, w10, w11⟩ := r2
    exact ⟨k, f, t, j, w1, w2, w3, w4, w5, w6, w7, w8, w9, w10, w11⟩)
  rw [hN] at hr
  exact hr.mono (Nat.le_succ T)
theorem sim_letter {l : Launch} {E : tk_E} {M : tk_M} {T c : Nat} {x y : Int32} (h : RR M M T c)  : tk_sim l E sK_letter sM_letter [.int (x), .int (y)] M T := by
  have hp := h.2.2.2.2.2.1
  have hcm := h.2.2.2.2.2.2.1
  have hc6 := hp.1
  by_cases hb : ¬ x < 0 ∧ x < nI c
  rotate_left
  · exact sim_ref h (n_K_letter hp hb) (tk_MtR (n_M_letter h.1.1 hcm hc6 (fun q => hb q.1)))
  obtain ⟨i, hi, rfl⟩ := exN (n := c) (by omega) hb
  have hK := c_K_letter (l := l) (E := E) (M := M) (w := y) hp hi
  rcases pk_ix y (n := 8) (by decide) with q | q | ⟨k, hk, rfl⟩
  · unfold t_tell at hK; rw [if_pos q] at hK
    exact sim_ref h hK (tk_MtR (n_M_letter h.1.1 hcm hc6 (fun v => v.2.1 q)))
  · have q1 : ¬ y < 0 := Int32.not_lt.mpr (Int32.le_trans (by decide) q)
    unfold t_tell at hK; rw [if_neg q1, if_pos q] at hK
    exact sim_ref h hK (tk_MtR (n_M_letter h.1.1 hcm hc6 (fun v => by have v2 := v.2.2; rw [Int32.le_iff_toInt_le] at v2 q; exact absurd (Int.le_trans q v2) (by decide))))
  · unfold t_tell at hK; rw [if_neg (nI_pos (by omega)), if_neg (Int32.not_le.mpr (nI_lt hk (by decide))), nI_clamp (by omega), (h.2.2.2.2.2.2.2 i hi).1 k hk] at hK
    exact sim_ref h hK (tk_MtR (c_M_letter h.1.1 hcm hc6 hi hk))
theorem sim_register {l : Launch} {E : tk_E} {M : tk_M} {T c : Nat} {x y w : Int32} (h : RR M M T c)  : tk_sim l E sK_register sM_register [.int (x), .int (y), .int (w)] M T := by
  by_cases hb : (¬ x < 0 ∧ x < 3) ∧ ¬ y < 0 ∧ y < 8
  rotate_left
  · exact sim_ref h (n_K_register hb) (tk_MtR (n_M_register h.1.1 hb))
  obtain ⟨u, hu, rfl⟩ := exN (n := 3) (by decide) hb.1
  obtain ⟨j, hj, rfl⟩ := exN (n := 8) (by decide) hb.2
  have hK := c_K_register (l := l) (E := E) (M := M) (w := w) hu hj
  have e : t_tell M (eN u j) w = m_reg M (8 * u + j) w := by
    unfold t_tell m_reg
    rcases pk_ix w (n := 8) (by decide) with q | q | ⟨k, hk, rfl⟩
    · rw [if_pos q, if_pos q]
    · rw [if_neg (Int32.not_lt.mpr (Int32.le_trans (by decide) q)), if_neg (Int32.not_lt.mpr (Int32.le_trans (by decide) q)), if_pos q, if_pos q]
    · rw [if_neg (nI_pos (by omega)), if_neg (nI_pos (by omega)), if_neg (Int32.not_le.mpr (nI_lt hk (by decide))), if_neg (Int32.not_le.mpr (nI_lt hk (by decide))), nI_clamp (by omega)]
      exact ((h.2.2.2.1 u hu).2 j hj).1 k hk
  rw [e] at hK
  exact sim_ref h hK (tk_MtR (c_M_register h.1.1 hu hj))
theorem sim_effects {l : Launch} {E : tk_E} {M : tk_M} {T c : Nat} {x : Int32} (h : RR M M T c)  : tk_sim l E sK_effects sM_effects [.int (x)] M T := by
  by_cases hb : ¬ x < 0 ∧ x < 8
  rotate_left
  · exact sim_ref h (n_K_effects hb) (tk_MtR (n_M_effects h.1.1 hb))
  obtain ⟨j, hj, rfl⟩ := exN (n := 8) (by decide) hb
  obtain ⟨k, k1, k2, k3, -⟩ := (h.2.2.1 j hj).2.2.2.2.2.2
  have hK := c_K_effects (l := l) (E := E) (M := M) hj
  rw [k2, ← k3] at hK
  exact sim_ref h hK (tk_MtR (c_M_effects h.1.1 hj))
theorem sim_effect {l : Launch} {E : tk_E} {M : tk_M} {T c : Nat} {x y w : Int32} (h : RR M M T c)  : tk_sim l E sK_effect sM_effect [.int (x), .int (y), .int (w)] M T := by
  by_cases hb : ¬ x < 0 ∧ x < 8
  rotate_left
  · exact sim_ref h (n_K_effectj hb) (tk_MtR (n_M_effectj h.1.1 hb))
  obtain ⟨j, hj, rfl⟩ := exN (n := 8) (by decide) hb
  obtain ⟨k, k1, k2, k3, -, k5⟩ := (h.2.2.1 j hj).2.2.2.2.2.2
  by_cases hi0 : ¬ y < 0 ∧ y < nI k
  rotate_left
  · exact sim_ref h (n_K_effect hj k2 hi0) (tk_MtR (n_M_effect h.1.1 hj k3 hi0))
  obtain ⟨i, hi, rfl⟩ := exN (n := k) (by omega) hi0
  have hM := c_M_effect (l := l) (E := E) (M := M) (w := w) h.1.1 hj k3 k1 hi
  obtain ⟨e1, e2, -⟩ := k5 i hi
  by_cases w0 : w = 0
  · subst w0
    rw [if_pos rfl, ← e1] at hM
    exact sim_ref h (c_K_effect0 hj k2 k1 hi) (tk_MtR hM)
  · by_cases w1 : w = 1
    · subst w1
      rw [if_neg w0, if_pos rfl, ← e2] at hM
      exact sim_ref h (c_K_effect1 hj k2 k1 hi) (tk_MtR hM)
    · rw [if_neg w0, if_neg w1] at hM
      exact sim_ref h (c_K_effectx hj k2 k1 hi w0 w1) (tk_MtR hM)