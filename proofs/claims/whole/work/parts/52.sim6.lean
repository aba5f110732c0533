/-! both sides: at a desk; a letter comes -/
theorem RR.jour {A A' B B' : tk_M} {T c j : Nat} (h : RR A B T c) (hj : j < 8) (a1 : ∀ a b, ¬ (jN j + 4 ≤ a ∧ a ≤ jN j + 4 + 2) → A'.1 a b = A.1 a b) (a2 : A'.2 = A.2) (b1 : ∀ a b, ¬ ((a = 204 ∨ a = 205) ∧ b = j) → ¬ ((a = 206 ∨ a = 207) ∧ b / 40 = j) → B'.1 a b = B.1 a b) (b2 : B'.2 = B.2) (hn : rN A' B' j) : RR A' B' T c := by
  obtain ⟨h1, h2, h3, h4, h5, h6⟩ := h
  have hN : jN j = 86 + 7 * j := rfl
  refine ⟨h1.of (a1 _ _ (by omega)) (b1 _ _ (by omega) (by omega)) (b1 _ _ (by omega) (by omega)), rZ.all (fun a b w1 w2 => a1 a b (by omega)) (fun a b w1 w2 => b1 a b (by omega) (by omega)) h2, fun u hu => ?_,
    rE.all (fun a b w1 w2 => a1 a b (by omega)) (fun a b w => b1 a b (by omega) (by omega)) h4, rO.all (fun b => a1 _ b (by omega)) (fun b => b1 _ b (by omega) (by omega)) h5,
    h6.of (a1 _ _ (by omega)) (fun a b w1 w2 => a1 a b (by omega)) (fun b => by rw [a2]) (by rw [a2]) (b1 _ _ (by omega) (by omega)) (fun b => b1 _ b (by omega) (by omega))⟩
  obtain ⟨g1, g2, g3, g4, g5, g6, g7⟩ := h3 u hu
  have hU : jN u = 86 + 7 * u := rfl
  refine ⟨g1.of (fun b => a1 _ b (by omega)) (fun b => by rw [a2]) (fun a w1 w2 => b1 a u (by omega) (by omega)) (by rw [b2]),
      g2.of (a1 _ _ (by omega)) (by rw [a2]) (b1 _ _ (by omega) (by omega)) (b1 _ _ (by omega) (by omega)),
      g3.of (a1 _ _ (by omega)) (fun b => a1 _ b (by omega)) (b1 _ _ (by omega) (by omega)) (fun b w => b1 _ b (by omega) (by omega)),
      g4.of (a1 _ _ (by omega)) (a1 _ _ (by omega)) (b1 _ _ (by omega) (by omega)) (b1 _ _ (by omega) (by omega)),
      g5.of (a1 _ _ (by omega)) (b1 _ _ (by omega) (by omega)),
      g6.of (fun b => a1 _ b (by omega)) (b1 _ _ (by omega) (by omega)), ?_⟩
  by_cases q : u = j
  · rw [q]; exact hn
  · exact g7.of (fun a b w1 w2 => a1 a b (by omega)) (b1 _ _ (by omega) (by omega)) (b1 _ _ (by omega) (by omega)) (fun b w => b1 _ b (by omega) (by omega)) (fun b w => b1 _ b (by omega) (by omega))
theorem n_last0 {M : tk_M} {i : Nat} (h : M.1 i 2 = nI 0) : n_last M i = -1 := by
  unfold n_last
  rw [h, if_pos (by decide)]
theorem n_lastS {M : tk_M} {i k : Nat} (h : M.1 i 2 = nI k) (hk : 0 < k) (hk4 : k ≤ 40) : n_last M i = M.1 (i + 1) (k - 1) := by
  unfold n_last
  rw [h, if_neg (nI_nle hk (by omega)), nI_clamp (by omega)]
theorem RR.dsk {A B : tk_M} {T c t j k : Nat} (h : RR A B T c) (ht : t < 3) (hj : j < 8) (k4 : k ≤ 40) (hk : A.1 (jN j + 4) 2 = nI k) (hk2 : B.1 205 j = nI k) : ∃ c', RR (if n_last A (jN j + 4) = -1 then A else (k_oth A c 3 (fun s => [nI 5, nI t, nI s, nI j, 0, n_last A (jN j + 4), 0, 0]) 3).1) (m_dk2 B c t j k) T c' := by
  obtain ⟨k', g1, g2, g3, g4, g5⟩ := (h.2.2.1 j hj).2.2.2.2.2.2
  have ek : k' = k := nI_inj (by omega) (by omega) (g2.symm.trans hk)
  subst ek
  unfold m_dk2
  by_cases w : k' = 0
  · subst w
    rw [if_pos (n_last0 hk), if_pos rfl]
    exact ⟨c, h⟩
  · obtain ⟨e1, e2, e3, e4⟩ := g5 (k' - 1) (by omega)
    have el : n_last A (jN j + 4) = B.1 206 (40 * j + (k' - 1)) := (n_lastS hk (by omega) k4).trans e1
    rw [if_neg w, el]
    have hrg : rg (B.1 206 (40 * j + (k' - 1))) := by rw [e1] at e3 e4; exact ⟨by omega, e4⟩
    rw [if_neg (fun v => by rw [e1, v] at e3; exact absurd e3 (by decide))]
    exact ⟨_, (h.oth (f := fun s => [nI 5, nI t, nI s, nI j, 0, B.1 206 (40 * j + (k' - 1)), 0, 0]) 3 (fun _ => rfl) 3 (fun s w1 w2 => ⟨5, t, s, j, by omega, ht, w1, hj, rfl, rfl, rfl, rfl, fun v => absurd v (by decide), bnd0, hrg⟩)).2⟩
theorem RR.dl4 {A B : tk_M} {T c q t j ec : Nat} {mm g : Int32} (h : RR A B T c) (ht : t < 3) (hj : j < 8) (hl5 : A.1 q 5 = mm) (hl6 : A.1 q 6 = g) (hm : 0 ≤ mm.toInt ∧ mm.toInt ≤ 52595999) (he : B.1 205 j = nI ec) (he4 : ec ≤ 40) : ∃ c', RR (k_h4 A c q t j) (m_ctd B c t j ec mm g) T c' := by
  obtain ⟨k', g1, g2, g3, g4, g5⟩ := (h.2.2.1 j hj).2.2.2.2.2.2
  have ek : k' = ec := nI_inj (by omega) (by omega) (g3.symm.trans he)
  subst ek
  have hN : jN j = 86 + 7 * j := rfl
  have elt : n_last A (jN j + 4) < mm ↔ (k' = 0 ∨ B.1 206 (40 * j + (k' - 1)) < mm) := by
    by_cases w : k' = 0
    · subst w
      rw [n_last0 g2]
      refine ⟨fun _ => Or.inl rfl, fun _ => ?_⟩
      rw [Int32.lt_iff_toInt_lt]
      exact Int.lt_of_lt_of_le (by decide) hm.1
    · rw [n_lastS g2 (by omega) he4, (g5 (k' - 1) (by omega)).1]
      exact ⟨fun v => Or.inr v, fun v => by rcases v with v | v; (exact absurd v w); exact v⟩
  have e40 : A.1 (jN j + 4) 2 < 40 ↔ k' < 40 := by
    rw [g2]
    exact ⟨fun w => n_lt40 he4 w, fun w => nI_lt (b := 40) w (by decide)⟩
  have eadd : (A.1 (jN j + 4) 3 < g ∧ n_last A (jN j + 4) < mm ∧ A.1 (jN j + 4) 2 < 40) ↔ m_add B j k' mm g = true := by
    rw [elt, e40, g4]
    unfold m_add
    simp only [Bool.and_eq_true, Bool.or_eq_true, decide_eq_true_eq]
    exact ⟨fun v => ⟨v.1, v.2.2, v.2.1⟩, fun v => ⟨v.1, v.2.2, v.2.1⟩⟩
  unfold k_h4 m_ctd
  rw [hl5, hl6]
  by_cases w : A.1 (jN j + 4) 3 < g ∧ n_last A (jN j + 4) < mm ∧ A.1 (jN j + 4) 2 < 40
  · rw [if_pos (eadd.mp w)]
    have k40 := e40.mp w.2.2
    have en : n_ent A (jN j + 4) mm g = wI (wI (wI (wI A (jN j + 4) 3 g) (jN j + 4 + 1) k' mm) (jN j + 4 + 2) k' g) (jN j + 4) 2 (nI (k' + 1)) := by
      unfold n_ent
      simp only
      rw [if_pos w, if_pos w.1, g2, nI_clamp (by omega), nI_succ]
    have eg : m_gr B j g = wI B 204 j g := by unfold m_gr; rw [if_pos (by rw [← g4]; exact w.1)]
    rw [en, eg]
    have hr : RR (wI (wI (wI (wI A (jN j + 4) 3 g) (jN j + 4 + 1) k' mm) (jN j + 4 + 2) k' g) (jN j + 4) 2 (nI (k' + 1))) (wI (wI (wI (wI B 204 j g) 206 (40 * j + k') mm) 207 (40 * j + k') g) 205 j (nI (k' + 1))) T c := by
      refine h.jour hj (fun a b v => by rw [wI_ne (by omega), wI_ne (by omega), wI_ne (by omega), wI_ne (by omega)]) rfl (fun a b v1 v2 => by rw [wI_ne (by omega), wI_ne (by omega), wI_ne (by omega), wI_ne (by omega)]) rfl ⟨k' + 1, by omega, wI_at _ _ _ _, wI_at _ _ _ _, ?_, fun i hi => ?_⟩
      · rw [wI_ne (by omega), wI_ne (by omega), wI_ne (by omega), wI_at, wI_ne (by omega), wI_ne (by omega), wI_ne (by omega), wI_at]
      · by_cases v : i = k'
        · subst v
          have ea : (wI (wI (wI (wI A (jN j + 4) 3 g) (jN j + 4 + 1) i mm) (jN j + 4 + 2) i g) (jN j + 4) 2 (nI (i + 1))).1 (jN j + 4 + 1) i = mm := by rw [wI_ne (by omega), wI_ne (by omega), wI_at]
          rw [ea]
          exact ⟨by rw [wI_ne (by omega), wI_ne (by omega), wI_at], by rw [wI_ne (by omega), wI_at, wI_ne (by omega), wI_at], hm.1, hm.2⟩
        · rw [wI_ne (by omega), wI_ne (by omega), wI_ne (by omega), wI_ne (by omega), wI_ne (by omega), wI_ne (by omega), wI_ne (by omega), wI_ne (by omega), wI_ne (by omega), wI_ne (by omega), wI_ne (by omega), wI_ne (by omega), wI_ne (by omega), wI_ne (by omega), wI_ne (by omega), wI_ne (by omega)]
          exact g5 i (by omega)
    exact hr.dsk ht hj (by omega) (wI_at _ _ _ _) (wI_at _ _ _ _)
  · rw [if_neg (fun v => w (eadd.mpr v))]
    have en : n_ent A (jN j + 4) mm g = wI A (jN j + 4) 3 (if A.1 (jN j + 4) 3 < g then g else A.1 (jN j + 4) 3) := by
      unfold n_ent
      simp only
      rw [if_neg w]
    rw [en]
    have hr : RR (wI A (jN j + 4) 3 (if A.1 (jN j + 4) 3 < g then g else A.1 (jN j + 4) 3)) (m_gr B j g) T c := by
      unfold m_gr
      by_cases v : A.1 (jN j + 4) 3 < g
      · rw [if_pos v, if_pos (by rw [← g4]; exact v)]
        refine h.jour hj (fun a b v => wI_ne (by omega)) rfl (fun a b v1 v2 => wI_ne (by omega)) rfl ⟨k', g1, by rw [wI_nk (by decide)]; exact g2, by rw [wI_ne (by omega)]; exact g3, by rw [wI_at, wI_at], fun i hi => ?_⟩
        rw [wI_ne (by omega), wI_ne (by omega), wI_ne (by omega), wI_ne (by omega)]
        exact g5 i hi
      · rw [if_neg v, if_neg (by rw [← g4]; exact v), wI_id rfl]
        exact h
    refine hr.dsk ht hj he4 (by rw [wI_nk (by decide)]; exact g2) ?_
    unfold m_gr
    split
    · rw [wI_ne (by omega)]; exact g3
    · exact g3
-- what is kept above and below
theorem p_tk_hi {M : tk_M} {i c : Nat} : kHi M (p_tk M i c) := fun a b q => ⟨p_tk_at (by omega), rfl⟩
theorem m_rem_lo {M : tk_M} {i c : Nat} : kLo M (m_rem M i c) := fun a b q => ⟨m_rem_at (by omega) (by omega), rfl, rfl⟩
theorem k_h0_hi {M : tk_M} {c q f t j : Nat} (hp : po M c) (ht : t < 3) (hj : j < 8) : kHi M (k_h0 M c q f t j) := by
  unfold k_h0
  split
  · exact (kHi.wI (eN_lt ht hj)).tr (k_snd_hi (hp.wI (by have := eN_ge t j; omega)))
  · exact kHi.rf
theorem k_h2_hi {M : tk_M} {c q f t j : Nat} (hp : po M c) (ht : t < 3) (hj : j < 8) : kHi M (k_h2 M c q f t j) := by
  have e := eN_lt ht hj
  unfold k_h2
  split
  · exact kHi.tr (M1 := e_acc M (eN t j) (M.1 q 4) (M.1 q 5) (M.1 q 6)) (fun a b w => ⟨e_acc_at (by omega), rfl⟩) (k_snd_hi (hp.acc (by have := eN_ge t j; omega)))
  · exact kHi.rf
theorem k_h3_hi {M : tk_M} {c q t j : Nat} (hp : po M c) (ht : t < 3) (hj : j < 8) : kHi M (k_h3 M c q t j) := by
  unfold k_h3
  split
  · exact (kHi.wI (eN_lt ht hj)).tr (k_snd_hi (hp.wI (by have := eN_ge t j; omega)))
  · exact kHi.rf
theorem k_h4_hi {M : tk_M} {c q t j : Nat} (hp : po M c) (hj : j < 8) : kHi M (k_h4 M c q t j) := by
  have hN : jN j = 86 + 7 * j := rfl
  have e : kHi M (n_ent M (jN j + 4) (M.1 q 5) (M.1 q 6)) := fun a b w => ⟨n_ent_at (by omega) (by omega) (by omega), by rw [n_ent_2]⟩
  unfold k_h4
  split
  · exact e
  · exact e.tr (k_oth_hi (hp.ent (by omega)) 3)
theorem k_h1_hi {M : tk_M} {G : Nat → gJ} {nw : Int} {c q t j : Nat} (hp : po M c) (ht : t < 3) (hj : j < 8) : kHi M (k_h1 G nw M c q t j) := by
  have e := eN_lt ht hj
  have e3 : ∀ y be, kHi M (k_pm3 G M c t j y be) := by
    intro y be
    unfold k_pm3
    split
    · exact fun a b w => ⟨e_end_at (by omega), rfl⟩
    · exact kHi.tr (M1 := e_clm M (eN t j) y (be + 1)) (fun a b w => ⟨e_clm_at (by omega), rfl⟩) (k_oth_hi (hp.clm (by have := eN_ge t j; omega)) 3)
  unfold k_h1
  split
  · exact e3 _ _
  · exact kHi.rf
theorem m_acc_lo {M : tk_M} {k : Nat} {b mm g : Int32} : kLo M (m_acc M k b mm g) := fun a q w => ⟨by unfold m_acc; rw [wI_ne (by omega), wI_ne (by omega), wI_ne (by omega), wI_ne (by omega)], rfl, rfl⟩
theorem m_clm_lo {M : tk_M} {k : Nat} {b y g : Int32} : kLo M (m_clm M k b y g) := fun a q w => ⟨by unfold m_clm; rw [wI_ne (by omega), wI_ne (by omega), wI_ne (by omega), wI_ne (by omega), wI_ne (by omega), wI_ne (by omega)], rfl, rfl⟩
theorem m_ovr_lo {M : tk_M} {k : Nat} : kLo M (m_ovr M k) := fun a q w => ⟨by unfold m_ovr; rw [wI_ne (by omega), wI_ne (by omega), wI_ne (by omega)], rfl, rfl⟩
theorem m_pmd_lo {M : tk_M} {G : Nat → gJ} {nw : Int} {c x j : Nat} {b mm g ab : Int32} : kLo M (m_pmd G nw M c x j b mm g ab) := by
  have e3 : ∀ y be, kLo M (m_pm3 G M c x j b y be) := by
    intro y be
    unfold m_pm3
    split
    · exact m_ovr_lo
    · exact m_clm_lo.tr (m_oth_lo 3)
  unfold m_pmd
  split
  · exact e3 _ _
  · exact kLo.rf
theorem m_dk2_lo {M : tk_M} {c d j k : Nat} : kLo M (m_dk2 M c d j k) := by
  unfold m_dk2
  split
  · exact kLo.rf
  · exact m_oth_lo 3
theorem m_ctd_lo {M : tk_M} {c d j k : Nat} {mm g : Int32} : kLo M (m_ctd M c d j k mm g) := by
  have e : kLo M (m_gr M j g) := by
    unfold m_gr
    split
    · exact kLo.wI (by omega)
    · exact kLo.rf
  unfold m_ctd
  split
  · exact (((e.tr (kLo.wI (by omega))).tr (kLo.wI (by omega))).tr (kLo.wI (by omega))).tr m_dk2_lo
  · exact e.tr m_dk2_lo
theorem m_lrn_lo {M : tk_M} {k : Nat} {kn : Int32} : kLo M (m_lrn M k kn) := by
  unfold m_lrn
  split
  · exact (kLo.wI (by omega)).tr m_ovr_lo
  · exact kLo.wI (by omega)
theorem e_lrn_hi {M : tk_M} {t j : Nat} {x : Int32} (ht : t < 3) (hj : j < 8) : kHi M (e_lrn M (eN t j) x) := fun a b w => ⟨e_lrn_at (by have := eN_lt ht hj; omega), by unfold e_lrn; generalize (if M.1 (eN t j) 4 < x then x else M.1 (eN t j) 4) = v; split <;> rfl⟩
theorem sim_dl0 {l : Launch} {E : tk_E} {M : tk_M} {T c i f t j : Nat}  (h : RR M M T c) (hT : T ≤ 1000) (hi : i < c) (l0 : M.1 208 (8 * i) = nI 0) (l1 : M.1 208 (8 * i + 1) = nI f) (l2 : M.1 208 (8 * i + 2) = nI t) (l3 : M.1 208 (8 * i + 3) = nI j) (hf : f < 3) (ht : t < 3) (hj : j < 8) (hb : bnd T (M.1 208 (8 * i + 4))) (hm : rg (M.1 208 (8 * i + 5)))  : tk_sim l E sK_deliver sM_deliver [.int (nI i)] M T := by
  have hp := h.2.2.2.2.2.1
  have hcm := h.2.2.2.2.2.2.1
  have hc6 := hp.1
  obtain ⟨r1, -⟩ := h.2.2.2.2.2.2.2 i hi
  obtain ⟨z0, nw, n1, n2, n3, n4⟩ := h.1
  obtain ⟨q, hq⟩ : ∃ q, M.2.2 7 i = q := ⟨_, rfl⟩
  have hq7 : q < 70 := by rw [← hq]; exact (hp.2.2.1 i (by omega)).2
  rw [hq] at r1
  have hp1 := (hp.tk hi).1
  obtain ⟨d1, d2⟩ := (h.2.2.2.1 t ht).1
  have hK := c_K_deliver0 (l := l) (E := E) hp hi hq ((r1 0 (by omega)).trans l0) ((r1 1 (by omega)).trans l1) ((r1 2 (by omega)).trans l2) ((r1 3 (by omega)).trans l3) ht hj d2
  have hH : kHi M (if M.1 (sN t) 1 = 0 then p_tk M i c else k_h0 (p_tk M i c) (c - 1) q f t j) := by
    split
    · exact p_tk_hi
    · exact p_tk_hi.tr (k_h0_hi hp1 ht hj)
  refine sim_mk h hK hH (fun h' => ?_)
  have hat : ∀ a b, 172 ≤ a → (if M.1 (sN t) 1 = 0 then p_tk M i c else k_h0 (p_tk M i c) (c - 1) q f t j).1 a b = M.1 a b := fun a b w => (hH a b w).1
  have hrr : ∃ c', RR (if M.1 (sN t) 1 = 0 then p_tk M i c else k_h0 (p_tk M i c) (c - 1) q f t j) (m_dl0 (if M.1 (sN t) 1 = 0 then p_tk M i c else k_h0 (p_tk M i c) (c - 1) q f t j) i c f t j (M.1 208 (8 * i + 4))) T c' := by
    have eu : (if M.1 (sN t) 1 = 0 then p_tk M i c else k_h0 (p_tk M i c) (c - 1) q f t j).1 193 t = M.1 (sN t) 1 := by rw [hat _ _ (by omega)]; exact d1.symm
    have lt := h'.take hi
    unfold m_dl0
    rw [eu]
    by_cases w : M.1 (sN t) 1 = 0
    · simp only [if_pos w] at lt ⊢; exact ⟨c - 1, lt⟩
    · simp only [if_neg w] at lt ⊢
      rw [← m_rem_at (i := i) (c := c) (a := 195) (by omega) (by omega), ← m_rem_at (i := i) (c := c) (a := 197) (by omega) (by omega), ← m_rem_at (i := i) (c := c) (a := 198) (by omega) (by omega), ← m_rem_at (i := i) (c := c) (a := 196) (by omega) (by omega)]
      exact lt.dl0 hq7 ((p_tk_at (by omega)).trans (r1 4 (by omega))) ht hf hj hb
  obtain ⟨c9, hrr⟩ := hrr
  generalize (if M.1 (sN t) 1 = 0 then p_tk M i c else k_h0 (p_tk M i c) (c - 1) q f t j) = N at hH hat hrr h' ⊢
  obtain ⟨q0, q1, q2⟩ := ((h.2.2.2.1 t ht).2 j hj).2.2.2.1
  have hM := tk_MtR (c_M_deliver0 (l := l) (E := E) (M := N) (q := q0) ((hat _ _ (by omega)).trans z0) ((hat _ _ (by omega)).trans hcm) hc6 hi ((hat _ _ (by omega)).trans l0) ((hat _ _ (by omega)).trans l1) ((hat _ _ (by omega)).trans l2) ((hat _ _ (by omega)).trans l3) (hat _ _ (by omega)) (hat _ _ (by omega)) (hat _ _ (by omega)) (hat _ _ (by omega))  ht hj (by omega) (by rw [hat _ _ (by omega), ← h.f ht hj 1 (by omega)]; exact q2))
  exact ⟨_, c9, hM, by unfold m_dl0; split; (exact m_rem_lo); (split; (exact (m_rem_lo.tr (kLo.wI (by omega))).tr m_snd_lo); exact m_rem_lo), hrr.mono (Nat.le_succ T)⟩
theorem sim_dl2 {l : Launch} {E : tk_E} {M : tk_M} {T c i f t j : Nat}  (h : RR M M T c) (hT : T ≤ 1000) (hi : i < c) (l0 : M.1 208 (8 * i) = nI 2) (l1 : M.1 208 (8 * i + 1) = nI f) (l2 : M.1 208 (8 * i + 2) = nI t) (l3 : M.1 208 (8 * i + 3) = nI j) (hf : f < 3) (ht : t < 3) (hj : j < 8) (hb : bnd T (M.1 208 (8 * i + 4))) (hm : rg (M.1 208 (8 * i + 5)))  : tk_sim l E sK_deliver sM_deliver [.int (nI i)] M T := by
  have hp := h.2.2.2.2.2.1
  have hcm := h.2.2.2.2.2.2.1
  have hc6 := hp.1
  obtain ⟨r1, -⟩ := h.2.2.2.2.2.2.2 i hi
  obtain ⟨z0, nw, n1, n2, n3, n4⟩ := h.1
  obtain ⟨q, hq⟩ : ∃ q, M.2.2 7 i = q := ⟨_, rfl⟩
  have hq7 : q < 70 := by rw [← hq]; exact (hp.2.2.1 i (by omega)).2
  rw [hq] at r1
  have hp1 := (hp.tk hi).1
  obtain ⟨d1, d2⟩ := (h.2.2.2.1 t ht).1
  have hK := c_K_deliver2 (l := l) (E := E) hp hi hq ((r1 0 (by omega)).trans l0) ((r1 1 (by omega)).trans l1) ((r1 2 (by omega)).trans l2) ((r1 3 (by omega)).trans l3) ht hj d2
  have hH : kHi M (if M.1 (sN t) 1 = 0 then p_tk M i c else k_h2 (p_tk M i c) (c - 1) q f t j) := by
    split
    · exact p_tk_hi
    · exact p_tk_hi.tr (k_h2_hi hp1 ht hj)
  refine sim_mk h hK hH (fun h' => ?_)
  have hat : ∀ a b, 172 ≤ a → (if M.1 (sN t) 1 = 0 then p_tk M i c else k_h2 (p_tk M i c) (c - 1) q f t j).1 a b = M.1 a b := fun a b w => (hH a b w).1
  have hrr : ∃ c', RR (if M.1 (sN t) 1 = 0 then p_tk M i c else k_h2 (p_tk M i c) (c - 1) q f t j) (m_dl2 (if M.1 (sN t) 1 = 0 then p_tk M i c else k_h2 (p_tk M i c) (c - 1) q f t j) i c f t j (M.1 208 (8 * i + 4)) (M.1 208 (8 * i + 5)) (M.1 208 (8 * i + 6))) T c' := by
    have eu : (if M.1 (sN t) 1 = 0 then p_tk M i c else k_h2 (p_tk M i c) (c - 1) q f t j).1 193 t = M.1 (sN t) 1 := by rw [hat _ _ (by omega)]; exact d1.symm
    have lt := h'.take hi
    unfold m_dl2
    rw [eu]
    by_cases w : M.1 (sN t) 1 = 0
    · simp only [if_pos w] at lt ⊢; exact ⟨c - 1, lt⟩
    · simp only [if_neg w] at lt ⊢
      rw [← m_rem_at (i := i) (c := c) (a := 195) (by omega) (by omega)]
      exact lt.dl2 ((p_tk_at (by omega)).trans (r1 4 (by omega))) ((p_tk_at (by omega)).trans (r1 5 (by omega))) ((p_tk_at (by omega)).trans (r1 6 (by omega))) ht hf hj hb hm
  obtain ⟨c9, hrr⟩ := hrr
  generalize (if M.1 (sN t) 1 = 0 then p_tk M i c else k_h2 (p_tk M i c) (c - 1) q f t j) = N at hH hat hrr h' ⊢
  have hM := tk_MtR (c_M_deliver2 (l := l) (E := E) (M := N) ((hat _ _ (by omega)).trans z0) ((hat _ _ (by omega)).trans hcm) hc6 hi ((hat _ _ (by omega)).trans l0) ((hat _ _ (by omega)).trans l1) ((hat _ _ (by omega)).trans l2) ((hat _ _ (by omega)).trans l3) (hat _ _ (by omega)) (hat _ _ (by omega)) (hat _ _ (by omega)) (hat _ _ (by omega))  ht hj)
  exact ⟨_, c9, hM, by unfold m_dl2; split; (exact m_rem_lo); (split; (exact (m_rem_lo.tr m_acc_lo).tr m_snd_lo); exact m_rem_lo), hrr.mono (Nat.le_succ T)⟩
theorem sim_dl3 {l : Launch} {E : tk_E} {M : tk_M} {T c i f t j : Nat}  (h : RR M M T c) (hT : T ≤ 1000) (hi : i < c) (l0 : M.1 208 (8 * i) = nI 3) (l1 : M.1 208 (8 * i + 1) = nI f) (l2 : M.1 208 (8 * i + 2) = nI t) (l3 : M.1 208 (8 * i + 3) = nI j) (hf : f < 3) (ht : t < 3) (hj : j < 8) (hb : bnd T (M.1 208 (8 * i + 4))) (hm : rg (M.1 208 (8 * i + 5)))  : tk_sim l E sK_deliver sM_deliver [.int (nI i)] M T := by
  have hp := h.2.2.2.2.2.1
  have hcm := h.2.2.2.2.2.2.1
  have hc6 := hp.1
  obtain ⟨r1, -⟩ := h.2.2.2.2.2.2.2 i hi
  obtain ⟨z0, nw, n1, n2, n3, n4⟩ := h.1
  obtain ⟨q, hq⟩ : ∃ q, M.2.2 7 i = q := ⟨_, rfl⟩
  have hq7 : q < 70 := by rw [← hq]; exact (hp.2.2.1 i (by omega)).2
  rw [hq] at r1
  have hp1 := (hp.tk hi).1
  obtain ⟨d1, d2⟩ := (h.2.2.2.1 t ht).1
  have hK := c_K_deliver3 (l := l) (E := E) hp hi hq ((r1 0 (by omega)).trans l0) ((r1 2 (by omega)).trans l2) ((r1 3 (by omega)).trans l3) ht hj d2
  have hH : kHi M (if M.1 (sN t) 1 = 0 then p_tk M i c else k_h3 (p_tk M i c) (c - 1) q t j) := by
    split
    · exact p_tk_hi
    · exact p_tk_hi.tr (k_h3_hi hp1 ht hj)
  refine sim_mk h hK hH (fun h' => ?_)
  have hat : ∀ a b, 172 ≤ a → (if M.1 (sN t) 1 = 0 then p_tk M i c else k_h3 (p_tk M i c) (c - 1) q t j).1 a b = M.1 a b := fun a b w => (hH a b w).1
  have hrr : ∃ c', RR (if M.1 (sN t) 1 = 0 then p_tk M i c else k_h3 (p_tk M i c) (c - 1) q t j) (m_dl3 (if M.1 (sN t) 1 = 0 then p_tk M i c else k_h3 (p_tk M i c) (c - 1) q t j) i c t j (M.1 208 (8 * i + 4))) T c' := by
    have eu : (if M.1 (sN t) 1 = 0 then p_tk M i c else k_h3 (p_tk M i c) (c - 1) q t j).1 193 t = M.1 (sN t) 1 := by rw [hat _ _ (by omega)]; exact d1.symm
    have lt := h'.take hi
    unfold m_dl3
    rw [eu]
    by_cases w : M.1 (sN t) 1 = 0
    · simp only [if_pos w] at lt ⊢; exact ⟨c - 1, lt⟩
    · simp only [if_neg w] at lt ⊢
      rw [← m_rem_at (i := i) (c := c) (a := 200) (by omega) (by omega), ← m_rem_at (i := i) (c := c) (a := 201) (by omega) (by omega), ← m_rem_at (i := i) (c := c) (a := 202) (by omega) (by omega), ← m_rem_at (i := i) (c := c) (a := 203) (by omega) (by omega)]
      exact lt.dl3 ((p_tk_at (by omega)).trans (r1 4 (by omega))) ht hj
  obtain ⟨c9, hrr⟩ := hrr
  generalize (if M.1 (sN t) 1 = 0 then p_tk M i c else k_h3 (p_tk M i c) (c - 1) q t j) = N at hH hat hrr h' ⊢
  have hM := tk_MtR (c_M_deliver3 (l := l) (E := E) (M := N) ((hat _ _ (by omega)).trans z0) ((hat _ _ (by omega)).trans hcm) hc6 hi ((hat _ _ (by omega)).trans l0) ((hat _ _ (by omega)).trans l1) ((hat _ _ (by omega)).trans l2) ((hat _ _ (by omega)).trans l3) (hat _ _ (by omega)) (hat _ _ (by omega)) (hat _ _ (by omega)) (hat _ _ (by omega))  ht hj)
  exact ⟨_, c9, hM, by unfold m_dl3; split; (exact m_rem_lo); (split; (exact (m_rem_lo.tr (kLo.wI (by omega))).tr m_snd_lo); exact m_rem_lo), hrr.mono (Nat.le_succ T)⟩
theorem sim_dl4 {l : Launch} {E : tk_E} {M : tk_M} {T c i f t j : Nat}  (h : RR M M T c) (hT : T ≤ 1000) (hi : i < c) (l0 : M.1 208 (8 * i) = nI 4) (l1 : M.1 208 (8 * i + 1) = nI f) (l2 : M.1 208 (8 * i + 2) = nI t) (l3 : M.1 208 (8 * i + 3) = nI j) (hf : f < 3) (ht : t < 3) (hj : j < 8) (hb : bnd T (M.1 208 (8 * i + 4))) (hm : rg (M.1 208 (8 * i + 5))) (ht2 : t < 2) (hm0 : 0 ≤ (M.1 208 (8 * i + 5)).toInt) : tk_sim l E sK_deliver sM_deliver [.int (nI i)] M T := by
  have hp := h.2.2.2.2.2.1
  have hcm := h.2.2.2.2.2.2.1
  have hc6 := hp.1
  obtain ⟨r1, -⟩ := h.2.2.2.2.2.2.2 i hi
  obtain ⟨z0, nw, n1, n2, n3, n4⟩ := h.1
  obtain ⟨q, hq⟩ : ∃ q, M.2.2 7 i = q := ⟨_, rfl⟩
  have hq7 : q < 70 := by rw [← hq]; exact (hp.2.2.1 i (by omega)).2
  rw [hq] at r1
  have hp1 := (hp.tk hi).1
  obtain ⟨d1, d2⟩ := h.2.2.2.2.1 t ht2
  obtain ⟨k, k4, k2, k3, -⟩ := (h.2.2.1 j hj).2.2.2.2.2.2
  have hK := c_K_deliver4 (l := l) (E := E) hp hi hq ((r1 0 (by omega)).trans l0) ((r1 2 (by omega)).trans l2) ((r1 3 (by omega)).trans l3) ht2 hj d2 k4 k2
  have hH : kHi M (if M.1 4 t = 0 then p_tk M i c else k_h4 (p_tk M i c) (c - 1) q t j) := by
    split
    · exact p_tk_hi
    · exact p_tk_hi.tr (k_h4_hi hp1 hj)
  refine sim_mk h hK hH (fun h' => ?_)
  have hat : ∀ a b, 172 ≤ a → (if M.1 4 t = 0 then p_tk M i c else k_h4 (p_tk M i c) (c - 1) q t j).1 a b = M.1 a b := fun a b w => (hH a b w).1
  have hrr : ∃ c', RR (if M.1 4 t = 0 then p_tk M i c else k_h4 (p_tk M i c) (c - 1) q t j) (m_dl4 (if M.1 4 t = 0 then p_tk M i c else k_h4 (p_tk M i c) (c - 1) q t j) i c t j k (M.1 208 (8 * i + 5)) (M.1 208 (8 * i + 6))) T c' := by
    have eu : (if M.1 4 t = 0 then p_tk M i c else k_h4 (p_tk M i c) (c - 1) q t j).1 194 t = M.1 4 t := by rw [hat _ _ (by omega)]; exact d1.symm
    have lt := h'.take hi
    unfold m_dl4
    rw [eu]
    by_cases w : M.1 4 t = 0
    · simp only [if_pos w] at lt ⊢; exact ⟨c - 1, lt⟩
    · simp only [if_neg w] at lt ⊢
      have k9 := (hat 205 j (by omega)).trans k3
      simp only [if_neg w] at k9
      exact lt.dl4 ht hj ((p_tk_at (by omega)).trans (r1 5 (by omega))) ((p_tk_at (by omega)).trans (r1 6 (by omega))) ⟨hm0, hm.2⟩ (by rw [m_rem_at (by omega) (by omega)]; exact k9) k4
  obtain ⟨c9, hrr⟩ := hrr
  generalize (if M.1 4 t = 0 then p_tk M i c else k_h4 (p_tk M i c) (c - 1) q t j) = N at hH hat hrr h' ⊢
  have hM := tk_MtR (c_M_deliver4 (l := l) (E := E) (M := N) (ec := k) ((hat _ _ (by omega)).trans z0) ((hat _ _ (by omega)).trans hcm) hc6 hi ((hat _ _ (by omega)).trans l0) ((hat _ _ (by omega)).trans l1) ((hat _ _ (by omega)).trans l2) ((hat _ _ (by omega)).trans l3) (hat _ _ (by omega)) (hat _ _ (by omega)) (hat _ _ (by omega)) (hat _ _ (by omega))  ht2 hj k4 ((hat _ _ (by omega)).trans k3))
  exact ⟨_, c9, hM, by unfold m_dl4; split; (exact m_rem_lo); exact m_rem_lo.tr m_ctd_lo, hrr.mono (Nat.le_succ T)⟩
theorem sim_dl5 {l : Launch} {E : tk_E} {M : tk_M} {T c i f t j : Nat}  (h : RR M M T c) (hT : T ≤ 1000) (hi : i < c) (l0 : M.1 208 (8 * i) = nI 5) (l1 : M.1 208 (8 * i + 1) = nI f) (l2 : M.1 208 (8 * i + 2) = nI t) (l3 : M.1 208 (8 * i + 3) = nI j) (hf : f < 3) (ht : t < 3) (hj : j < 8) (hb : bnd T (M.1 208 (8 * i + 4))) (hm : rg (M.1 208 (8 * i + 5)))  : tk_sim l E sK_deliver sM_deliver [.int (nI i)] M T := by
  have hp := h.2.2.2.2.2.1
  have hcm := h.2.2.2.2.2.2.1
  have hc6 := hp.1
  obtain ⟨r1, -⟩ := h.2.2.2.2.2.2.2 i hi
  obtain ⟨z0, nw, n1, n2, n3, n4⟩ := h.1
  obtain ⟨q, hq⟩ : ∃ q, M.2.2 7 i = q := ⟨_, rfl⟩
  have hq7 : q < 70 := by rw [← hq]; exact (hp.2.2.1 i (by omega)).2
  rw [hq] at r1
  have hp1 := (hp.tk hi).1
  obtain ⟨d1, d2⟩ := (h.2.2.2.1 t ht).1
  have hK := by have hK0 := c_K_deliver5 (l := l) (E := E) hp hi hq ((r1 0 (by omega)).trans l0) ((r1 2 (by omega)).trans l2) ((r1 3 (by omega)).trans l3) ht hj d2; rw [r1 5 (by omega)] at hK0; exact hK0
  have hH : kHi M (if M.1 (sN t) 1 = 0 then p_tk M i c else e_lrn (p_tk M i c) (eN t j) (M.1 208 (8 * i + 5))) := by
    split
    · exact p_tk_hi
    · exact p_tk_hi.tr (e_lrn_hi ht hj)
  refine sim_mk h hK hH (fun h' => ?_)
  have hat : ∀ a b, 172 ≤ a → (if M.1 (sN t) 1 = 0 then p_tk M i c else e_lrn (p_tk M i c) (eN t j) (M.1 208 (8 * i + 5))).1 a b = M.1 a b := fun a b w => (hH a b w).1
  have hrr : ∃ c', RR (if M.1 (sN t) 1 = 0 then p_tk M i c else e_lrn (p_tk M i c) (eN t j) (M.1 208 (8 * i + 5))) (m_dl5 (if M.1 (sN t) 1 = 0 then p_tk M i c else e_lrn (p_tk M i c) (eN t j) (M.1 208 (8 * i + 5))) i c t j (M.1 208 (8 * i + 5))) T c' := by
    have eu : (if M.1 (sN t) 1 = 0 then p_tk M i c else e_lrn (p_tk M i c) (eN t j) (M.1 208 (8 * i + 5))).1 193 t = M.1 (sN t) 1 := by rw [hat _ _ (by omega)]; exact d1.symm
    have lt := h'.take hi
    unfold m_dl5
    rw [eu]
    by_cases w : M.1 (sN t) 1 = 0
    · simp only [if_pos w] at lt ⊢; exact ⟨c - 1, lt⟩
    · simp only [if_neg w] at lt ⊢
      rw [← m_rem_at (i := i) (c := c) (a := 199) (by omega) (by omega)]
      exact ⟨_, lt.dl5 ht hj (by rw [p_tk_at (by unfold sN; omega)]; exact w) hm⟩
  obtain ⟨c9, hrr⟩ := hrr
  generalize (if M.1 (sN t) 1 = 0 then p_tk M i c else e_lrn (p_tk M i c) (eN t j) (M.1 208 (8 * i + 5))) = N at hH hat hrr h' ⊢
  have hM := tk_MtR (c_M_deliver5 (l := l) (E := E) (M := N) ((hat _ _ (by omega)).trans z0) ((hat _ _ (by omega)).trans hcm) hc6 hi ((hat _ _ (by omega)).trans l0) ((hat _ _ (by omega)).trans l1) ((hat _ _ (by omega)).trans l2) ((hat _ _ (by omega)).trans l3) (hat _ _ (by omega)) (hat _ _ (by omega)) (hat _ _ (by omega)) (hat _ _ (by omega))  ht hj)
  exact ⟨_, c9, hM, by unfold m_dl5; split; (exact m_rem_lo); exact m_rem_lo.tr m_lrn_lo, hrr.mono (Nat.le_succ T)⟩
theorem sim_dl1 {l : Launch} {E : tk_E} {M : tk_M} {T c i f t j : Nat}  (h : RR M M T c) (hT : T ≤ 1000) (hi : i < c) (l0 : M.1 208 (8 * i) = nI 1) (l1 : M.1 208 (8 * i + 1) = nI f) (l2 : M.1 208 (8 * i + 2) = nI t) (l3 : M.1 208 (8 * i + 3) = nI j) (hf : f < 3) (ht : t < 3) (hj : j < 8) (hb : bnd T (M.1 208 (8 * i + 4))) (hm : rg (M.1 208 (8 * i + 5)))  : tk_sim l E sK_deliver sM_deliver [.int (nI i)] M T := by
  have hp := h.2.2.2.2.2.1
  have hcm := h.2.2.2.2.2.2.1
  have hc6 := hp.1
  obtain ⟨r1, -⟩ := h.2.2.2.2.2.2.2 i hi
  obtain ⟨z0, nw, n1, n2, n3, n4⟩ := h.1
  obtain ⟨q, hq⟩ : ∃ q, M.2.2 7 i = q := ⟨_, rfl⟩
  have hq7 : q < 70 := by rw [← hq]; exact (hp.2.2.1 i (by omega)).2
  rw [hq] at r1
  have hp1 := (hp.tk hi).1
  obtain ⟨d1, d2⟩ := (h.2.2.2.1 t ht).1
  obtain ⟨G, hG⟩ := h.cal
  have hs := (h.2.2.2.1 t ht).2
  have hK := c_K_deliver1 (l := l) (E := E) (G := G) hp hi hq ((r1 0 (by omega)).trans l0) ((r1 2 (by omega)).trans l2) ((r1 3 (by omega)).trans l3) ht hj d2 (fun u hu => (hG u hu).1) (fun u hu => (hs u hu).2.2.2.2.2.2.1) n1 n3 n4 (by rw [r1 5 (by omega)]; exact hm) (hs j hj).2.2.2.2.2.1
  have hH : kHi M (if M.1 (sN t) 1 = 0 then p_tk M i c else k_h1 G nw (p_tk M i c) (c - 1) q t j) := by
    split
    · exact p_tk_hi
    · exact p_tk_hi.tr (k_h1_hi hp1 ht hj)
  refine sim_mk h hK hH (fun h' => ?_)
  have hat : ∀ a b, 172 ≤ a → (if M.1 (sN t) 1 = 0 then p_tk M i c else k_h1 G nw (p_tk M i c) (c - 1) q t j).1 a b = M.1 a b := fun a b w => (hH a b w).1
  have hrr : ∃ c', RR (if M.1 (sN t) 1 = 0 then p_tk M i c else k_h1 G nw (p_tk M i c) (c - 1) q t j) (m_dl1 G nw (if M.1 (sN t) 1 = 0 then p_tk M i c else k_h1 G nw (p_tk M i c) (c - 1) q t j) i c t j (M.1 208 (8 * i + 4)) (M.1 208 (8 * i + 5)) (M.1 208 (8 * i + 6)) (M.1 208 (8 * i + 7))) T c' := by
    have eu : (if M.1 (sN t) 1 = 0 then p_tk M i c else k_h1 G nw (p_tk M i c) (c - 1) q t j).1 193 t = M.1 (sN t) 1 := by rw [hat _ _ (by omega)]; exact d1.symm
    have lt := h'.take hi
    unfold m_dl1
    rw [eu]
    by_cases w : M.1 (sN t) 1 = 0
    · simp only [if_pos w] at lt ⊢; exact ⟨c - 1, lt⟩
    · simp only [if_neg w] at lt ⊢
      exact lt.dl1 ht hj (by rw [p_tk_at (by unfold sN; omega)]; exact w) ((p_tk_at (by omega)).trans (r1 4 (by omega))) ((p_tk_at (by omega)).trans (r1 5 (by omega))) ((p_tk_at (by omega)).trans (r1 6 (by omega))) ((p_tk_at (by omega)).trans (r1 7 (by omega))) hm n3 n4
  obtain ⟨c9, hrr⟩ := hrr
  generalize (if M.1 (sN t) 1 = 0 then p_tk M i c else k_h1 G nw (p_tk M i c) (c - 1) q t j) = N at hH hat hrr h' ⊢
  have hM := c_M_deliver1 (l := l) (E := E) (M := N) (G := G) (nw := nw) ((hat _ _ (by omega)).trans z0) ((hat _ _ (by omega)).trans hcm) hc6 hi ((hat _ _ (by omega)).trans l0) ((hat _ _ (by omega)).trans l1) ((hat _ _ (by omega)).trans l2) ((hat _ _ (by omega)).trans l3) (hat _ _ (by omega)) (hat _ _ (by omega)) (hat _ _ (by omega)) (hat _ _ (by omega))  ht hj (fun u hu => (hG u hu).2.ce ⟨fun b => (hH 178 b (by omega)).2, fun a b w1 w2 w3 => hat a b (by omega)⟩) (fun u hu => by rw [hat _ _ (by omega), ← h.f ht hu 4 (by omega)]; exact (hs u hu).2.2.2.2.2.2.1) ((hat _ _ (by omega)).trans n2) n3 n4 hm (by rw [hat _ _ (by omega), ← h.f ht hj 2 (by omega)]; exact (hs j hj).2.2.2.2.2.1)
  exact ⟨_, c9, hM, by unfold m_dl1; split; (exact m_rem_lo); exact m_rem_lo.tr m_pmd_lo, hrr.mono (Nat.le_succ T)⟩
theorem sim_deliver {l : Launch} {E : tk_E} {M : tk_M} {T c : Nat} {x : Int32} (h : RR M M T c) (hT : T ≤ 1000) : tk_sim l E sK_deliver sM_deliver [.int (x)] M T := by
  have hp := h.2.2.2.2.2.1
  have hcm := h.2.2.2.2.2.2.1
  have hc6 := hp.1
  by_cases hb : ¬ x < 0 ∧ x < nI c
  rotate_left
  · exact sim_ref h (n_K_deliver hp hb) (tk_MtR (n_M_deliver h.1.1 hcm hc6 hb))
  obtain ⟨i, hi, rfl⟩ := exN (n := c) (by omega) hb
  obtain ⟨k, f, t, j, w1, w2, w3, w4, w5, w6, w7, w8, w9, w10, w11⟩ := (h.2.2.2.2.2.2.2 i hi).2
  simp only [Nat.add_zero] at w5 w6 w7 w8 w9 w10 w11
  rcases (show k = 0 ∨ k = 1 ∨ k = 2 ∨ k = 3 ∨ k = 4 ∨ k = 5 by omega) with rfl | rfl | rfl | rfl | rfl | rfl
  · exact sim_dl0 h hT hi w5 w6 w7 w8 w2 w3 w4 w10 w11
  · exact sim_dl1 h hT hi w5 w6 w7 w8 w2 w3 w4 w10 w11
  · exact sim_dl2 h hT hi w5 w6 w7 w8 w2 w3 w4 w10 w11
  · exact sim_dl3 h hT hi w5 w6 w7 w8 w2 w3 w4 w10 w11
  · exact sim_dl4 h hT hi w5 w6 w7 w8 w2 w3 w4 w10 w11 (w9 rfl).1 (w9 rfl).2
  · exact sim_dl5 h hT hi w5 w6 w7 w8 w2 w3 w4 w10 w11