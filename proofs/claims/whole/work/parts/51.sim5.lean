/-! both sides: a letter comes -/
theorem eN_lt {x j : Nat} (hx : x < 3) (hj : j < 8) : eN x j < 172 := by unfold eN; omega
theorem RR.f {A B : tk_M} {T c x j : Nat} (h : RR A B T c) (hx : x < 3) (hj : j < 8) (f : Nat) (hf : f < 8) : A.1 (eN x j) f = B.1 (195 + f) (8 * x + j) := ((h.2.2.2.1 x hx).2 j hj).1 f hf
theorem RR.dl0 {A B : tk_M} {T c q f t j : Nat} {b : Int32} (h : RR A B T c) (hq7 : q < 70) (hl4 : A.1 q 4 = b) (ht : t < 3) (hf : f < 3) (hj : j < 8) (hb : bnd T b) : ∃ c', RR (k_h0 A c q f t j) (if B.1 195 (8 * t + j) ≤ b then m_snd (wI B 195 (8 * t + j) b) c [nI 1, nI t, nI f, nI j, b, B.1 197 (8 * t + j), B.1 198 (8 * t + j), B.1 196 (8 * t + j)] else B) T c' := by
  have e := h.f ht hj
  unfold k_h0
  rw [hl4, e 0 (by omega), e 1 (by omega), e 2 (by omega), e 3 (by omega)]
  simp only [Nat.reduceAdd]
  by_cases w : B.1 195 (8 * t + j) ≤ b
  · rw [if_pos w, if_pos w]
    obtain ⟨s1, s2, s3, s4, s5, s6, s7, s8, s9⟩ := (h.2.2.2.1 t ht).2 j hj
    have hse : RR (wI A (eN t j) 0 b) (wI B 195 (8 * t + j) b) T c := by
      refine h.seat ht hj (fun a b w => wI_ne (fun v => w v.1)) rfl (fun a b w => wI_ne (by omega)) rfl ⟨fun f0 hf0 => ?_, ?_, ?_, ?_, ?_, ?_, ?_, ?_, ?_⟩
      · by_cases v : f0 = 0
        · subst v; rw [wI_at, wI_at]
        · rw [wI_ne (by omega), wI_ne (by omega)]; exact s1 f0 hf0
      · rw [wI_nk (by decide), wI_nk (by decide), wI_nk (by decide), wI_ne (by omega)]; exact s2
      · rw [wI_at]; exact hb
      · rw [wI_nk (by decide)]; exact s4
      · rw [wI_nk (by decide)]; exact s5
      · rw [wI_nk (by decide)]; exact s6
      · rw [wI_nk (by decide)]; exact s7
      · rw [wI_nk (by decide)]; exact s8
      · rw [wI_ne (by unfold sN eN; omega), wI_nk (by decide), wI_nk (by decide), wI_nk (by decide), wI_nk (by decide)]; exact s9
    exact ⟨_, hse.send rfl ⟨1, t, f, j, by omega, ht, hf, hj, rfl, rfl, rfl, rfl, fun v => absurd v (by decide), hb, by have := s6; rw [s1 2 (by omega)] at this; exact this⟩⟩
  · rw [if_neg w, if_neg w]
    exact ⟨c, h⟩
theorem RR.dl2 {A B : tk_M} {T c q f t j : Nat} {b mm g : Int32} (h : RR A B T c) (hl4 : A.1 q 4 = b) (hl5 : A.1 q 5 = mm) (hl6 : A.1 q 6 = g) (ht : t < 3) (hf : f < 3) (hj : j < 8) (hb : bnd T b) (hm : rg mm) : ∃ c', RR (k_h2 A c q f t j) (if B.1 195 (8 * t + j) ≤ b then m_snd (m_acc B (8 * t + j) b mm g) c [nI 3, nI t, nI f, nI j, b, -1, 0, 0] else B) T c' := by
  have e := h.f ht hj
  unfold k_h2
  rw [hl4, hl5, hl6, e 0 (by omega)]
  simp only [Nat.reduceAdd]
  by_cases w : B.1 195 (8 * t + j) ≤ b
  · rw [if_pos w, if_pos w]
    obtain ⟨s1, s2, s3, s4, s5, s6, s7, s8, s9⟩ := (h.2.2.2.1 t ht).2 j hj
    have hse : RR (e_acc A (eN t j) b mm g) (m_acc B (8 * t + j) b mm g) T c := by
      have ea : (e_acc A (eN t j) b mm g).1 (eN t j) 0 = b ∧ (e_acc A (eN t j) b mm g).1 (eN t j) 1 = b ∧ (e_acc A (eN t j) b mm g).1 (eN t j) 2 = mm ∧ (e_acc A (eN t j) b mm g).1 (eN t j) 3 = g ∧ ∀ k, 4 ≤ k → (e_acc A (eN t j) b mm g).1 (eN t j) k = A.1 (eN t j) k := by
        unfold e_acc
        exact ⟨by simp [wI], by simp [wI], by simp [wI], by simp [wI], fun k hk => by rw [wI_ne (by omega), wI_ne (by omega), wI_ne (by omega), wI_ne (by omega)]⟩
      obtain ⟨a0, a1, a2, a3, a4⟩ := ea
      have ma : (m_acc B (8 * t + j) b mm g).1 195 (8 * t + j) = b ∧ (m_acc B (8 * t + j) b mm g).1 196 (8 * t + j) = b ∧ (m_acc B (8 * t + j) b mm g).1 197 (8 * t + j) = mm ∧ (m_acc B (8 * t + j) b mm g).1 198 (8 * t + j) = g ∧ ∀ k q, (k < 195 ∨ 198 < k ∨ q ≠ 8 * t + j) → (m_acc B (8 * t + j) b mm g).1 k q = B.1 k q := by
        unfold m_acc
        exact ⟨by simp [wI], by simp [wI], by simp [wI], by simp [wI], fun k q hk => by rw [wI_ne (by omega), wI_ne (by omega), wI_ne (by omega), wI_ne (by omega)]⟩
      obtain ⟨m0, m1, m2, m3, m4⟩ := ma
      refine h.seat ht hj (fun a b w => e_acc_at w) rfl (fun a b w => m4 a b (by omega)) rfl ⟨fun f0 hf0 => ?_, ?_, ?_, ?_, ?_, ?_, ?_, ?_, ?_⟩
      · rcases (show f0 = 0 ∨ f0 = 1 ∨ f0 = 2 ∨ f0 = 3 ∨ f0 = 4 ∨ f0 = 5 ∨ f0 = 6 ∨ f0 = 7 by omega) with rfl | rfl | rfl | rfl | rfl | rfl | rfl | rfl
        · rw [a0, m0]
        · rw [a1, m1]
        · rw [a2, m2]
        · rw [a3, m3]
        · rw [a4 _ (by omega), m4 _ _ (by omega)]; exact s1 4 (by omega)
        · rw [a4 _ (by omega), m4 _ _ (by omega)]; exact s1 5 (by omega)
        · rw [a4 _ (by omega), m4 _ _ (by omega)]; exact s1 6 (by omega)
        · rw [a4 _ (by omega), m4 _ _ (by omega)]; exact s1 7 (by omega)
      · rw [a4 _ (by omega), a4 _ (by omega), a4 _ (by omega), m4 _ _ (by omega)]; exact s2
      · rw [a0]; exact hb
      · rw [a1]; exact hb
      · rw [a4 _ (by omega)]; exact s5
      · rw [a2]; exact hm
      · rw [a4 _ (by omega)]; exact s7
      · rw [a4 _ (by omega)]; exact s8
      · rw [e_acc_at (by unfold sN eN; omega), a4 _ (by omega), a4 _ (by omega), a4 _ (by omega), a4 _ (by omega)]; exact s9
    exact ⟨_, hse.send rfl ⟨3, t, f, j, by omega, ht, hf, hj, rfl, rfl, rfl, rfl, fun v => absurd v (by decide), hb, rgm⟩⟩
  · rw [if_neg w, if_neg w]
    exact ⟨c, h⟩
theorem RR.dl3 {A B : tk_M} {T c q t j : Nat} {b : Int32} (h : RR A B T c) (hl4 : A.1 q 4 = b) (ht : t < 3) (hj : j < 8) : ∃ c', RR (k_h3 A c q t j) (if B.1 200 (8 * t + j) = 2 ∧ B.1 201 (8 * t + j) = b then m_snd (wI B 200 (8 * t + j) 3) c [nI 4, nI t, nI (j % 2), nI j, 0, B.1 202 (8 * t + j), B.1 203 (8 * t + j), 0] else B) T c' := by
  have e := h.f ht hj
  obtain ⟨s1, s2, s3, s4, s5, s6, s7, s8, s9⟩ := (h.2.2.2.1 t ht).2 j hj
  unfold k_h3
  rw [hl4, e 5 (by omega), e 6 (by omega), e 7 (by omega)]
  simp only [Nat.reduceAdd]
  by_cases w : B.1 200 (8 * t + j) = 2 ∧ B.1 201 (8 * t + j) = b
  · rw [if_pos w, if_pos w]
    obtain ⟨g1, g2⟩ := s2 ((e 5 (by omega)).trans w.1)
    rw [g1]
    have hse : RR (wI A (eN t j) 5 3) (wI B 200 (8 * t + j) 3) T c := by
      refine h.seat ht hj (fun a b w => wI_ne (fun v => w v.1)) rfl (fun a b w => wI_ne (by omega)) rfl ⟨fun f0 hf0 => ?_, ?_, ?_, ?_, ?_, ?_, ?_, ?_, ?_⟩
      · by_cases v : f0 = 5
        · subst v; rw [wI_at, wI_at]
        · rw [wI_ne (by omega), wI_ne (by omega)]; exact s1 f0 hf0
      · rw [wI_at]; exact fun v => absurd v (by decide)
      · rw [wI_nk (by decide)]; exact s3
      · rw [wI_nk (by decide)]; exact s4
      · rw [wI_nk (by decide)]; exact s5
      · rw [wI_nk (by decide)]; exact s6
      · rw [wI_nk (by decide)]; exact s7
      · rw [wI_nk (by decide)]; exact s8
      · rw [wI_ne (by unfold sN eN; omega)]
        intro v
        have v5 := (s9 v).2.1
        rw [e 5 (by omega), w.1] at v5
        exact absurd v5 (by decide)
    exact ⟨_, hse.send rfl ⟨4, t, j % 2, j, by omega, ht, by omega, hj, rfl, rfl, rfl, rfl, fun _ => ⟨by omega, by rw [e 7 (by omega)] at g2; exact g2⟩, bnd0, by have := s8; rw [e 7 (by omega)] at this; exact this⟩⟩
  · rw [if_neg w, if_neg w]
    exact ⟨c, h⟩
/-- the round is over, on both sides -/
theorem RR.over {A B : tk_M} {T c t j : Nat} (h : RR A B T c) (ht : t < 3) (hj : j < 8) : RR (e_end A (eN t j)) (m_ovr B (8 * t + j)) T c := by
  obtain ⟨s1, s2, s3, s4, s5, s6, s7, s8, s9⟩ := (h.2.2.2.1 t ht).2 j hj
  have ea : (e_end A (eN t j)).1 (eN t j) 5 = 0 ∧ (e_end A (eN t j)).1 (eN t j) 6 = 0 ∧ (e_end A (eN t j)).1 (eN t j) 7 = -1 ∧ ∀ k, k < 5 → (e_end A (eN t j)).1 (eN t j) k = A.1 (eN t j) k := by
    unfold e_end
    exact ⟨by simp [wI], by simp [wI], by simp [wI], fun k hk => by rw [wI_ne (by omega), wI_ne (by omega), wI_ne (by omega), wI_ne (by omega)]⟩
  obtain ⟨a5, a6, a7, a4⟩ := ea
  have ma : (m_ovr B (8 * t + j)).1 200 (8 * t + j) = 0 ∧ (m_ovr B (8 * t + j)).1 201 (8 * t + j) = 0 ∧ (m_ovr B (8 * t + j)).1 202 (8 * t + j) = -1 ∧ ∀ k q, (k < 200 ∨ 202 < k ∨ q ≠ 8 * t + j) → (m_ovr B (8 * t + j)).1 k q = B.1 k q := by
    unfold m_ovr
    exact ⟨by simp [wI], by simp [wI], by simp [wI], fun k q hk => by rw [wI_ne (by omega), wI_ne (by omega), wI_ne (by omega)]⟩
  obtain ⟨m5, m6, m7, m4⟩ := ma
  refine h.seat ht hj (fun a b w => e_end_at w) rfl (fun a b w => m4 a b (by omega)) rfl ⟨fun f0 hf0 => ?_, ?_, ?_, ?_, ?_, ?_, ?_, ?_, ?_⟩
  · rcases (show f0 = 0 ∨ f0 = 1 ∨ f0 = 2 ∨ f0 = 3 ∨ f0 = 4 ∨ f0 = 5 ∨ f0 = 6 ∨ f0 = 7 by omega) with rfl | rfl | rfl | rfl | rfl | rfl | rfl | rfl
    · rw [a4 _ (by omega), m4 _ _ (by omega)]; exact s1 0 (by omega)
    · rw [a4 _ (by omega), m4 _ _ (by omega)]; exact s1 1 (by omega)
    · rw [a4 _ (by omega), m4 _ _ (by omega)]; exact s1 2 (by omega)
    · rw [a4 _ (by omega), m4 _ _ (by omega)]; exact s1 3 (by omega)
    · rw [a4 _ (by omega), m4 _ _ (by omega)]; exact s1 4 (by omega)
    · rw [a5, m5]
    · rw [a6, m6]
    · rw [a7, m7]
  · rw [a5]; exact fun v => absurd v (by decide)
  · rw [a4 _ (by omega)]; exact s3
  · rw [a4 _ (by omega)]; exact s4
  · rw [a6]; exact bnd0
  · rw [a4 _ (by omega)]; exact s6
  · rw [a4 _ (by omega)]; exact s7
  · rw [a7]; exact rgm
  · rw [e_end_at (by unfold sN eN; omega), a4 _ (by omega), a5, a6, a7]; exact fun v => ⟨(s9 v).1, rfl, rfl, rfl⟩
theorem RR.dl5 {A B : tk_M} {T c t j : Nat} {mm : Int32} (h : RR A B T c) (ht : t < 3) (hj : j < 8) (hu : ¬ A.1 (sN t) 1 = 0) (hm : rg mm) : RR (e_lrn A (eN t j) mm) (m_lrn B (8 * t + j) (if B.1 199 (8 * t + j) < mm then mm else B.1 199 (8 * t + j))) T c := by
  have e := h.f ht hj
  obtain ⟨s1, s2, s3, s4, s5, s6, s7, s8, s9⟩ := (h.2.2.2.1 t ht).2 j hj
  unfold e_lrn m_lrn
  rw [e 4 (by omega), e 5 (by omega), e 7 (by omega)]
  simp only [Nat.reduceAdd]
  have hkn : rg (if B.1 199 (8 * t + j) < mm then mm else B.1 199 (8 * t + j)) := by
    split
    · exact hm
    · have := s7; rw [e 4 (by omega)] at this; exact this
  generalize (if B.1 199 (8 * t + j) < mm then mm else B.1 199 (8 * t + j)) = kn at hkn
  have hse : RR (wI A (eN t j) 4 kn) (wI B 199 (8 * t + j) kn) T c := by
    refine h.seat ht hj (fun a b w => wI_ne (fun v => w v.1)) rfl (fun a b w => wI_ne (by omega)) rfl ⟨fun f0 hf0 => ?_, ?_, ?_, ?_, ?_, ?_, ?_, ?_, ?_⟩
    · by_cases v : f0 = 4
      · subst v; rw [wI_at, wI_at]
      · rw [wI_ne (by omega), wI_ne (by omega)]; exact s1 f0 hf0
    · rw [wI_nk (by decide), wI_nk (by decide), wI_nk (by decide), wI_ne (by omega)]; exact s2
    · rw [wI_nk (by decide)]; exact s3
    · rw [wI_nk (by decide)]; exact s4
    · rw [wI_nk (by decide)]; exact s5
    · rw [wI_nk (by decide)]; exact s6
    · rw [wI_at]; exact hkn
    · rw [wI_nk (by decide)]; exact s8
    · rw [wI_ne (by unfold sN eN; omega)]; exact fun v => absurd v hu
  by_cases w : B.1 200 (8 * t + j) = 3 ∧ B.1 202 (8 * t + j) ≤ kn
  · rw [if_pos w, if_pos w]; exact hse.over ht hj
  · rw [if_neg w, if_neg w]; exact hse
theorem htw_eq {A B : tk_M} {T c x j : Nat} {G : Nat → gJ} {mm : Int} (h : RR A B T c) (hx : x < 3) (hj : j < 8) : k_htw G A x j mm 8 = m_htw G B x j mm 8 := by
  unfold k_htw m_htw
  apply anyN_congr
  intro i hi
  have e4 := h.f hx hi 4 (by omega)
  have ew := (h.2.2.1 j hj).2.2.2.2.2.1 i hi
  rw [e4, ew]
  simp only [Nat.reduceAdd]
  cases bt (B.1 190 j) i <;> rfl
theorem RR.pm3 {A B : tk_M} {T c x j : Nat} {G : Nat → gJ} {b y be : Int32} (h : RR A B T c) (hx : x < 3) (hj : j < 8) (hu : ¬ A.1 (sN x) 1 = 0) (h6 : A.1 (eN x j) 6 = b) (h0 : A.1 (eN x j) 0 = b) (hy : rg y) : ∃ c', RR (k_pm3 G A c x j y be) (m_pm3 G B c x j b y be) T c' := by
  obtain ⟨s1, s2, s3, s4, s5, s6, s7, s8, s9⟩ := (h.2.2.2.1 x hx).2 j hj
  have ep : A.1 (jN j) 8 = B.1 192 j := (h.2.2.1 j hj).2.2.2.2.1
  unfold k_pm3 m_pm3
  rw [ep, htw_eq h hx hj]
  by_cases w : y = -1 ∨ ¬ B.1 192 j = 0 ∨ m_htw G B x j y.toInt 8 = true
  · rw [if_pos w, if_pos w]; exact ⟨c, h.over hx hj⟩
  · rw [if_neg w, if_neg w]
    have hy0 : 0 ≤ y.toInt := by
      by_cases v : y.toInt < 0
      · exact absurd (Or.inl (iI_ext (z := -1) (by have := hy.1; omega))) w
      · omega
    have ea : (e_clm A (eN x j) y (be + 1)).1 (eN x j) 0 = b ∧ (e_clm A (eN x j) y (be + 1)).1 (eN x j) 1 = b ∧ (e_clm A (eN x j) y (be + 1)).1 (eN x j) 2 = y ∧ (e_clm A (eN x j) y (be + 1)).1 (eN x j) 3 = be + 1 ∧ (e_clm A (eN x j) y (be + 1)).1 (eN x j) 4 = A.1 (eN x j) 4 ∧ (e_clm A (eN x j) y (be + 1)).1 (eN x j) 5 = 2 ∧ (e_clm A (eN x j) y (be + 1)).1 (eN x j) 6 = b ∧ (e_clm A (eN x j) y (be + 1)).1 (eN x j) 7 = y ∧ (e_clm A (eN x j) y (be + 1)).1 (eN x j) 8 = be + 1 := by
      unfold e_clm e_acc
      simp [wI, h6]
    obtain ⟨a0, a1, a2, a3, a4, a5, a6, a7, a8⟩ := ea
    have ma : (m_clm B (8 * x + j) b y (be + 1)).1 196 (8 * x + j) = b ∧ (m_clm B (8 * x + j) b y (be + 1)).1 197 (8 * x + j) = y ∧ (m_clm B (8 * x + j) b y (be + 1)).1 198 (8 * x + j) = be + 1 ∧ (m_clm B (8 * x + j) b y (be + 1)).1 200 (8 * x + j) = 2 ∧ (m_clm B (8 * x + j) b y (be + 1)).1 202 (8 * x + j) = y ∧ (m_clm B (8 * x + j) b y (be + 1)).1 203 (8 * x + j) = be + 1 ∧ ∀ k q, (k < 196 ∨ k = 199 ∨ k = 201 ∨ 203 < k ∨ q ≠ 8 * x + j) → (m_clm B (8 * x + j) b y (be + 1)).1 k q = B.1 k q := by
      unfold m_clm
      refine ⟨by simp [wI], by simp [wI], by simp [wI], by simp [wI], by simp [wI], by simp [wI], fun k q hk => ?_⟩
      rw [wI_ne (by omega), wI_ne (by omega), wI_ne (by omega), wI_ne (by omega), wI_ne (by omega), wI_ne (by omega)]
    obtain ⟨m1, m2, m3, m5, m7, m8, m4⟩ := ma
    have hse : RR (e_clm A (eN x j) y (be + 1)) (m_clm B (8 * x + j) b y (be + 1)) T c := by
      refine h.seat hx hj (fun a b w => e_clm_at w) rfl (fun a b w => m4 a b (by omega)) rfl ⟨fun f0 hf0 => ?_, ?_, ?_, ?_, ?_, ?_, ?_, ?_, ?_⟩
      · rcases (show f0 = 0 ∨ f0 = 1 ∨ f0 = 2 ∨ f0 = 3 ∨ f0 = 4 ∨ f0 = 5 ∨ f0 = 6 ∨ f0 = 7 by omega) with rfl | rfl | rfl | rfl | rfl | rfl | rfl | rfl
        · rw [a0, m4 _ _ (by omega), ← h0]; exact s1 0 (by omega)
        · rw [a1, m1]
        · rw [a2, m2]
        · rw [a3, m3]
        · rw [a4, m4 _ _ (by omega)]; exact s1 4 (by omega)
        · rw [a5, m5]
        · rw [a6, m4 _ _ (by omega), ← h6]; exact s1 6 (by omega)
        · rw [a7, m7]
      · rw [a8, m8, a7]; exact fun _ => ⟨rfl, hy0⟩
      · rw [a0, ← h0]; exact s3
      · rw [a1, ← h0]; exact s3
      · rw [a6, ← h0]; exact s3
      · rw [a2]; exact hy
      · rw [a4]; exact s7
      · rw [a7]; exact hy
      · rw [e_clm_at (by unfold sN eN; omega)]; exact fun v => absurd v hu
    rw [a6, a7, a8]
    exact ⟨_, (hse.oth (f := fun t => [nI 2, nI x, nI t, nI j, b, y, be + 1, 0]) x (fun _ => rfl) 3 (fun t w1 w2 => ⟨2, x, t, j, by omega, hx, w1, hj, rfl, rfl, rfl, rfl, fun v => absurd v (by decide), by show bnd T b; rw [← h0]; exact s3, hy⟩)).2⟩
theorem RR.dl1 {A B : tk_M} {T c q x j : Nat} {G : Nat → gJ} {nw : Int} {b mm g ab : Int32} (h : RR A B T c) (hx : x < 3) (hj : j < 8) (hu : ¬ A.1 (sN x) 1 = 0) (hl4 : A.1 q 4 = b) (hl5 : A.1 q 5 = mm) (hl6 : A.1 q 6 = g) (hl7 : A.1 q 7 = ab) (hm : rg mm) (hn0 : 0 ≤ nw) (hn1 : nw ≤ 52595999) : ∃ c', RR (k_h1 G nw A c q x j) (m_pmd G nw B c x j b mm g ab) T c' := by
  have e := h.f hx hj
  obtain ⟨s1, s2, s3, s4, s5, s6, s7, s8, s9⟩ := (h.2.2.2.1 x hx).2 j hj
  unfold k_h1 m_pmd
  have ec : ((A.1 (eN x j) 5 = 1 ∧ A.1 (eN x j) 6 = A.1 q 4) ∧ A.1 (eN x j) 0 = A.1 q 4) ↔ (B.1 200 (8 * x + j) = 1 ∧ B.1 201 (8 * x + j) = b ∧ B.1 195 (8 * x + j) = b) := by
    rw [hl4, e 0 (by omega), e 5 (by omega), e 6 (by omega)]
    exact and_assoc
  by_cases w : (A.1 (eN x j) 5 = 1 ∧ A.1 (eN x j) 6 = A.1 q 4) ∧ A.1 (eN x j) 0 = A.1 q 4
  · rw [if_pos w, if_pos (ec.mp w), hl5, hl6, hl7, e 1 (by omega), e 2 (by omega), e 3 (by omega)]
    simp only [Nat.reduceAdd]
    have hla : rg (if B.1 196 (8 * x + j) < ab then mm else B.1 197 (8 * x + j)) := by
      split
      · exact hm
      · have := s6; rw [e 2 (by omega)] at this; exact this
    generalize (if B.1 196 (8 * x + j) < ab then mm else B.1 197 (8 * x + j)) = la at hla
    unfold k_pm2 m_pm2
    rw [e 4 (by omega)]
    simp only [Nat.reduceAdd]
    refine h.pm3 hx hj hu (w.1.2.trans hl4) (w.2.trans hl4) ?_
    split
    · exact hla
    · have r := nx_r (G j) (nw := nw) (bh := la.toInt) hn0
      unfold rg
      rw [iI_toInt (by omega) (by omega)]
      omega
  · rw [if_neg w, if_neg (fun v => w (ec.mpr v))]
    exact ⟨c, h⟩