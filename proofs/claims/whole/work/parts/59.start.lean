/-! both sides agree at the start -/
theorem MB1_o {a b : Nat} (h : a ≠ 179 ∧ a ≠ 180 ∧ a ≠ 181 ∧ a ≠ 182 ∧ a ≠ 187) : ∀ j, (MB1 j).1 a b = MA1 a b
  | 0 => rfl
  | j + 1 => by
    have ih := MB1_o (b := b) h j
    simp only [MB1, wI, wL, h.1, h.2.1, h.2.2.1, h.2.2.2.1, h.2.2.2.2, false_and, if_false]
    exact ih
theorem MB1_i {b : Nat} : ∀ j, b < j → (MB1 j).1 179 b = 1 ∧ (MB1 j).1 180 b = -1 ∧ (MB1 j).1 181 b = -1 ∧ (MB1 j).1 182 b = -1 ∧ (MB1 j).1 187 b = 1440 ∧ (MB1 j).2.1 178 b = 1
  | 0 => fun h => absurd h (Nat.not_lt_zero _)
  | j + 1 => fun h => by
    by_cases e : b = j
    · subst e
      simp [MB1, wI, wL]
    · have ih := MB1_i (b := b) j (by omega)
      simp [MB1, wI, wL, e, ih]
theorem MB1_l {a b : Nat} (h : a ≠ 178) : ∀ j, (MB1 j).2.1 a b = MA2 a b
  | 0 => rfl
  | j + 1 => by
    have ih := MB1_l (b := b) h j
    simp only [MB1, wI, wL, h, false_and, if_false]
    exact ih
theorem MB1_r : ∀ j, (MB1 j).2.2 = MA3
  | 0 => rfl
  | j + 1 => by
    have ih := MB1_r j
    simp only [MB1, wI, wL]
    exact ih
theorem MB2_o {a b : Nat} (h : a ≠ 197 ∧ a ≠ 199 ∧ a ≠ 202) : ∀ j, (MB2 j).1 a b = (MB1 8).1 a b
  | 0 => rfl
  | j + 1 => by
    have ih := MB2_o (b := b) h j
    simp only [MB2, wI, h.1, h.2.1, h.2.2, false_and, if_false]
    exact ih
theorem MB2_i {b : Nat} : ∀ j, b < j → (MB2 j).1 197 b = -1 ∧ (MB2 j).1 199 b = -1 ∧ (MB2 j).1 202 b = -1
  | 0 => fun h => absurd h (Nat.not_lt_zero _)
  | j + 1 => fun h => by
    by_cases e : b = j
    · subst e
      simp [MB2, wI]
    · have ih := MB2_i (b := b) j (by omega)
      simp [MB2, wI, e, ih]
theorem MB2_r : ∀ j, (MB2 j).2 = (MB1 8).2
  | 0 => rfl
  | j + 1 => by
    have ih := MB2_r j
    simp only [MB2, wI]
    exact ih
theorem MB3_o {a b : Nat} (h : a ≠ 193) : ∀ j, (MB3 j).1 a b = (MB2 24).1 a b
  | 0 => rfl
  | j + 1 => by
    have ih := MB3_o (b := b) h j
    simp only [MB3, wI, h, false_and, if_false]
    exact ih
theorem MB3_i {b : Nat} : ∀ j, b < j → (MB3 j).1 193 b = 1
  | 0 => fun h => absurd h (Nat.not_lt_zero _)
  | j + 1 => fun h => by
    by_cases e : b = j
    · subst e
      simp [MB3, wI]
    · have ih := MB3_i (b := b) j (by omega)
      simp [MB3, wI, e, ih]
theorem MB3_r : ∀ j, (MB3 j).2 = (MB2 24).2
  | 0 => rfl
  | j + 1 => by
    have ih := MB3_r j
    simp only [MB3, wI]
    exact ih
theorem M0_1 {a : Nat} (b : Nat) (h : a ≠ 194) : M0.1 a b = (MB3 3).1 a b := by
  simp only [M0, wI, h, false_and, if_false]
theorem M0_2 : M0.2 = (MB1 8).2 := by
  show (MB3 3).2 = _
  rw [MB3_r, MB2_r]
theorem M0_o {a : Nat} (b : Nat) (h : (a < 179 ∨ 183 ≤ a) ∧ a ≠ 187 ∧ a ≠ 193 ∧ a ≠ 194 ∧ a ≠ 197 ∧ a ≠ 199 ∧ a ≠ 202) : M0.1 a b = MA1 a b := by
  rw [M0_1 b (by omega), MB3_o (by omega), MB2_o (by omega), MB1_o (by omega)]
theorem M0_z {a : Nat} (b : Nat) (h : (172 ≤ a ∧ a < 179 ∨ 183 ≤ a) ∧ a ≠ 187 ∧ a ≠ 193 ∧ a ≠ 194 ∧ a ≠ 197 ∧ a ≠ 199 ∧ a ≠ 202) : M0.1 a b = 0 := by
  rw [M0_o b (by omega), a1_ge (by omega)]
theorem M0_b {b : Nat} (h : b < 8) : M0.1 179 b = 1 ∧ M0.1 180 b = -1 ∧ M0.1 181 b = -1 ∧ M0.1 182 b = -1 ∧ M0.1 187 b = 1440 ∧ M0.2.1 178 b = 1 := by
  have h1 := MB1_i (b := b) 8 h
  rw [M0_2]
  refine ⟨?_, ?_, ?_, ?_, ?_, h1.2.2.2.2.2⟩
  · rw [M0_1 b (by decide), MB3_o (by decide), MB2_o (by decide)]; exact h1.1
  · rw [M0_1 b (by decide), MB3_o (by decide), MB2_o (by decide)]; exact h1.2.1
  · rw [M0_1 b (by decide), MB3_o (by decide), MB2_o (by decide)]; exact h1.2.2.1
  · rw [M0_1 b (by decide), MB3_o (by decide), MB2_o (by decide)]; exact h1.2.2.2.1
  · rw [M0_1 b (by decide), MB3_o (by decide), MB2_o (by decide)]; exact h1.2.2.2.2.1
theorem M0_c {b : Nat} (h : b < 24) : M0.1 197 b = -1 ∧ M0.1 199 b = -1 ∧ M0.1 202 b = -1 := by
  have h1 := MB2_i (b := b) 24 h
  refine ⟨?_, ?_, ?_⟩
  · rw [M0_1 b (by decide), MB3_o (by decide)]; exact h1.1
  · rw [M0_1 b (by decide), MB3_o (by decide)]; exact h1.2.1
  · rw [M0_1 b (by decide), MB3_o (by decide)]; exact h1.2.2
theorem M0_d {b : Nat} (h : b < 3) : M0.1 193 b = 1 := by
  rw [M0_1 b (by decide)]
  exact MB3_i 3 h
theorem M0_e {b : Nat} (h : b < 2) : M0.1 194 b = 1 := by
  rcases (show b = 0 ∨ b = 1 by omega) with rfl | rfl <;> simp [M0, wI]
theorem M0_l {a : Nat} (b : Nat) (h : a ≠ 178) : M0.2.1 a b = MA2 a b := by
  rw [M0_2, MB1_l h]
theorem M0_r (a b : Nat) : M0.2.2 a b = MA3 a b := by
  rw [M0_2, MB1_r]
theorem st_T : rT M0 M0 := ⟨M0_z 0 (by decide), 0, (M0_o 6 (by decide)).trans rfl, (M0_z 1 (by decide)).trans rfl, by decide, by decide⟩
theorem st_zo : zo 1 (fun _ => 0) (fun _ => 0) := by
  unfold zo
  simp
theorem st_Z {z : Nat} (hz : z < 4) : rZ M0 M0 z := by
  refine ⟨1, 0, fun _ => 0, fun _ => 0, ⟨st_zo, ?_, fun i hi => ⟨?_, ?_⟩⟩, ⟨st_zo, hz, M0_z z (by decide), fun i hi => absurd hi (by omega)⟩, by decide, ?_, M0_z z (by decide), fun i hi => absurd hi (by omega)⟩
  · rw [M0_o _ (by unfold zN; omega), a1_Z hz]; rfl
  · rw [M0_o _ (by unfold zN; omega), a1_Z1 hz]; rfl
  · rw [M0_o _ (by unfold zN; omega), a1_Z2 hz]; rfl
  · rw [M0_o _ (by unfold zN; omega), a1_Z hz]; rfl
theorem st_U {j : Nat} (hj : j < 8) : rU M0 M0 j := by
  have h := M0_b hj
  refine ⟨(1, 1, 4294967295, 8190, 127, 0, 0), ⟨hj, by unfold ru_ok; decide, ?_, ?_, ?_, ?_, ?_, M0_z j (by decide), M0_z j (by decide)⟩, ?_, ?_, ?_, ?_, ?_, ?_, ?_⟩
  · rw [h.1]; decide +kernel
  · rw [h.2.2.2.2.2]; rfl
  · rw [h.2.1]; decide +kernel
  · rw [h.2.2.1]; decide +kernel
  · rw [h.2.2.2.1]; decide +kernel
  · rw [M0_o _ (by unfold jN; omega), a1_J1 hj]; rfl
  · rw [M0_l _ (by unfold jN; omega), a2_J1 hj]; rfl
  · rw [M0_l _ (by unfold jN; omega), a2_J1 hj]; rfl
  · rw [M0_o _ (by unfold jN; omega), a1_J1 hj]; rfl
  · rw [M0_o _ (by unfold jN; omega), a1_J1 hj]; rfl
  · rw [M0_o _ (by unfold jN; omega), a1_J1 hj]; rfl
  · rw [M0_o _ (by unfold jN; omega), a1_J1 hj]; rfl
theorem st_J {j : Nat} (hj : j < 8) : rJ M0 M0 j := by
  have h := M0_b hj
  refine ⟨st_U hj, ⟨0, false, by decide, ?_, M0_z j (by decide), ?_, M0_z j (by decide)⟩, ⟨0, by decide, ?_, M0_z j (by decide), fun i hi => absurd hi (by omega)⟩, ⟨0, 1440, by decide, ?_, M0_z j (by decide), ?_, ?_, by decide, by decide⟩, ?_, fun i hi => ?_, ⟨0, by decide, ?_, M0_z j (by decide), ?_, fun i hi => absurd hi (by omega)⟩⟩
  · rw [M0_r, a3_J hj]; rfl
  · rw [M0_o _ (by unfold jN; omega), a1_J hj]; rfl
  · rw [M0_o _ (by unfold jN; omega), a1_J hj]; rfl
  · rw [M0_o _ (by unfold jN; omega), a1_J hj]; rfl
  · rw [M0_o _ (by unfold jN; omega), a1_J hj]; rfl
  · rw [h.2.2.2.2.1]; rfl
  · show M0.1 (jN j) 8 = M0.1 192 j
    rw [M0_o _ (by unfold jN; omega), a1_J hj, M0_z j (by decide)]; rfl
  · rw [M0_o _ (by unfold jN; omega), a1_J3 hj, M0_z j (by decide)]
    have : ∀ i, i < 8 → (0 : Int32) = b01 (bt 0 i) := by decide +kernel
    exact this i hi
  · rw [M0_o _ (by unfold jN; omega), a1_J4 hj]; rfl
  · rw [M0_o _ (by unfold jN; omega), a1_J4 hj, M0_z j (by decide)]
theorem st_D {x : Nat} (hx : x < 3) : rD M0 M0 x := by
  have e : M0.1 (sN x) 1 = 1 := by rw [M0_o _ (by unfold sN; omega), a1_S hx]; rfl
  exact ⟨by rw [e, M0_d hx], Or.inr e⟩
theorem st_S {x j : Nat} (hx : x < 3) (hj : j < 8) : rS M0 M0 0 x j := by
  have e : M0.1 (sN x) 1 = 1 := by rw [M0_o _ (by unfold sN; omega), a1_S hx]; rfl
  have h := M0_c (b := 8 * x + j) (by omega)
  have g : ∀ f, M0.1 (eN x j) f = (if f = 2 ∨ f = 4 ∨ f = 7 then -1 else 0) := fun f => by rw [M0_o _ (by unfold eN; omega), a1_E hx hj]
  have b0 : bnd 0 0 := ⟨0, by decide, rfl⟩
  have r1 : rg (-1) := by unfold rg; decide
  refine ⟨fun f hf => ?_, fun h5 => ?_, ?_, ?_, ?_, ?_, ?_, ?_, fun h5 => ?_⟩
  · rw [g]
    rcases (show f = 0 ∨ f = 1 ∨ f = 2 ∨ f = 3 ∨ f = 4 ∨ f = 5 ∨ f = 6 ∨ f = 7 by omega) with rfl | rfl | rfl | rfl | rfl | rfl | rfl | rfl
    · rw [M0_z _ (by decide)]; rfl
    · rw [M0_z _ (by decide)]; rfl
    · rw [h.1]; rfl
    · rw [M0_z _ (by decide)]; rfl
    · rw [h.2.1]; rfl
    · rw [M0_z _ (by decide)]; rfl
    · rw [M0_z _ (by decide)]; rfl
    · rw [h.2.2]; rfl
  · rw [g] at h5
    exact absurd h5 (by decide)
  · rw [g]; exact b0
  · rw [g]; exact b0
  · rw [g]; exact b0
  · rw [g]; exact r1
  · rw [g]; exact r1
  · rw [g]; exact r1
  · rw [e] at h5
    exact absurd h5 (by decide)
theorem st_O {d : Nat} (hd : d < 2) : rO M0 M0 d := by
  have e : M0.1 4 d = 1 := by
    rw [M0_o _ (by decide)]
    rcases (show d = 0 ∨ d = 1 by omega) with rfl | rfl <;> rfl
  exact ⟨by rw [e, M0_e hd], Or.inr e⟩
theorem st_L : rL M0 M0 0 0 := by
  refine ⟨⟨by decide, (M0_o 3 (by decide)).trans rfl, fun b hb => ?_, ?_, fun a b ha hb h => ?_, fun a ha h => ?_⟩, M0_z 38 (by decide), fun i hi => absurd hi (by omega)⟩
  · rw [M0_r]
    show 9 ≤ 10 + b ∧ 10 + b < 70
    omega
  · rw [M0_r]
    decide
  · rw [M0_r, M0_r] at h
    have h : 10 + a = 10 + b := h
    omega
  · rw [M0_r, M0_r] at h
    have h : 10 + a = 9 := h
    omega
theorem st_RR : RR M0 M0 0 0 := ⟨st_T, fun _ hz => st_Z hz, fun _ hj => st_J hj, fun _ hx => ⟨st_D hx, fun _ hj => st_S hx hj⟩, fun _ hd => st_O hd, st_L⟩
