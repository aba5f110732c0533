/-! what a new class holds -/
def MA1 (a k : Nat) : Int32 := if 8 ≤ a ∧ a < 70 then (if k = 5 then -1 else 0) else if 70 ≤ a ∧ a < 86 then (if (a - 70) % 4 = 0 then (if k = 3 then 1 else 0) else 0) else if 86 ≤ a ∧ a < 142 then (if (a - 86) % 7 = 0 then (if k = 7 then 1440 else 0) else if (a - 86) % 7 = 1 then (if k = 1 then 1 else if k = 3 then 8190 else if k = 4 then 127 else 0) else 0) else if 142 ≤ a ∧ a < 172 then (if (a - 142) % 10 = 0 then (if k = 1 then 1 else 0) else if (a - 142) % 10 = 1 then 0 else (if k = 2 ∨ k = 4 ∨ k = 7 then -1 else 0)) else if a = 4 then (if k < 2 then 1 else 0) else 0
def MA2 (a k : Nat) : Int64 := if 86 ≤ a ∧ a < 142 ∧ (a - 86) % 7 = 1 then (if k = 0 then 1 else if k = 2 then 4294967295 else 0) else 0
def MA3 (a k : Nat) : Nat := if a = 6 then 9 else if a = 7 then 10 + k else 70
def MA : tk_M := (MA1, MA2, MA3)
theorem a1_L {a : Nat} (h1 : 8 ≤ a) (h2 : a < 70) (k : Nat) : MA1 a k = (if k = 5 then -1 else 0) := by
  unfold MA1
  rw [if_pos (by omega)]
theorem a1_Z {z : Nat} (hz : z < 4) (k : Nat) : MA1 (zN z) k = (if k = 3 then 1 else 0) := by
  unfold MA1 zN
  rw [if_neg (by omega), if_pos (by omega), if_pos (by omega)]
theorem a1_Z1 {z : Nat} (hz : z < 4) (k : Nat) : MA1 (zN z + 1) k = (0) := by
  unfold MA1 zN
  rw [if_neg (by omega), if_pos (by omega), if_neg (by omega)]
theorem a1_Z2 {z : Nat} (hz : z < 4) (k : Nat) : MA1 (zN z + 2) k = (0) := by
  unfold MA1 zN
  rw [if_neg (by omega), if_pos (by omega), if_neg (by omega)]
theorem a1_Z3 {z : Nat} (hz : z < 4) (k : Nat) : MA1 (zN z + 3) k = (0) := by
  unfold MA1 zN
  rw [if_neg (by omega), if_pos (by omega), if_neg (by omega)]
theorem a1_J {j : Nat} (hj : j < 8) (k : Nat) : MA1 (jN j) k = (if k = 7 then 1440 else 0) := by
  unfold MA1 jN
  rw [if_neg (by omega), if_neg (by omega), if_pos (by omega), if_pos (by omega)]
theorem a1_J1 {j : Nat} (hj : j < 8) (k : Nat) : MA1 (jN j + 1) k = (if k = 1 then 1 else if k = 3 then 8190 else if k = 4 then 127 else 0) := by
  unfold MA1 jN
  rw [if_neg (by omega), if_neg (by omega), if_pos (by omega), if_neg (by omega), if_pos (by omega)]
theorem a1_J2 {j : Nat} (hj : j < 8) (k : Nat) : MA1 (jN j + 2) k = (0) := by
  unfold MA1 jN
  rw [if_neg (by omega), if_neg (by omega), if_pos (by omega), if_neg (by omega), if_neg (by omega)]
theorem a1_J3 {j : Nat} (hj : j < 8) (k : Nat) : MA1 (jN j + 3) k = (0) := by
  unfold MA1 jN
  rw [if_neg (by omega), if_neg (by omega), if_pos (by omega), if_neg (by omega), if_neg (by omega)]
theorem a1_J4 {j : Nat} (hj : j < 8) (k : Nat) : MA1 (jN j + 4) k = (0) := by
  unfold MA1 jN
  rw [if_neg (by omega), if_neg (by omega), if_pos (by omega), if_neg (by omega), if_neg (by omega)]
theorem a1_J5 {j : Nat} (hj : j < 8) (k : Nat) : MA1 (jN j + 4 + 1) k = (0) := by
  unfold MA1 jN
  rw [if_neg (by omega), if_neg (by omega), if_pos (by omega), if_neg (by omega), if_neg (by omega)]
theorem a1_J6 {j : Nat} (hj : j < 8) (k : Nat) : MA1 (jN j + 4 + 2) k = (0) := by
  unfold MA1 jN
  rw [if_neg (by omega), if_neg (by omega), if_pos (by omega), if_neg (by omega), if_neg (by omega)]
theorem a2_J1 {j : Nat} (hj : j < 8) (k : Nat) : MA2 (jN j + 1) k = (if k = 0 then 1 else if k = 2 then 4294967295 else 0) := by
  unfold MA2 jN
  rw [if_pos (by omega)]
theorem a1_S {x : Nat} (hx : x < 3) (k : Nat) : MA1 (sN x) k = (if k = 1 then 1 else 0) := by
  unfold MA1 sN
  rw [if_neg (by omega), if_neg (by omega), if_neg (by omega), if_pos (by omega), if_pos (by omega)]
theorem a1_E {x j : Nat} (hx : x < 3) (hj : j < 8) (k : Nat) : MA1 (eN x j) k = (if k = 2 ∨ k = 4 ∨ k = 7 then -1 else 0) := by
  unfold MA1 eN
  rw [if_neg (by omega), if_neg (by omega), if_neg (by omega), if_pos (by omega), if_neg (by omega), if_neg (by omega)]
theorem a1_ge {a : Nat} (h : 172 ≤ a) (k : Nat) : MA1 a k = 0 := by
  unfold MA1
  rw [if_neg (by omega), if_neg (by omega), if_neg (by omega), if_neg (by omega), if_neg (by omega)]
theorem a2_ge {a : Nat} (h : 142 ≤ a) (k : Nat) : MA2 a k = 0 := by
  unfold MA2
  rw [if_neg (by omega)]
theorem F_L {E : tk_E} {a : Nat} (h1 : 8 ≤ a) (h2 : a < 70) : tk_ct E MA a = oL := by
  have ho := o_L h1 h2
  rw [tk_ct_o ho (by decide)]
  show Sum.inr (_, [tk_v E.1 MA a 0, tk_v E.1 MA a 1, tk_v E.1 MA a 2, tk_v E.1 MA a 3, tk_v E.1 MA a 4, tk_v E.1 MA a 5, tk_v E.1 MA a 6, tk_v E.1 MA a 7]) = _
  simp only [tk_v_of ho, MA, a1_L h1 h2]
  rfl
abbrev oZ (b i : Nat) : va_E := .inr (3, [.ref (b + (i + 1)), .ref (b + (i + 2)), .ref (b + (i + 3)), .int 1, .int 0])
theorem F_Z {E : tk_E} {z : Nat} (hz : z < 4) : tk_ct E MA (zN z) = oZ E.1 (zN z) := by
  have ho := o_Z hz
  rw [tk_ct_o ho (by decide)]
  show Sum.inr (_, [tk_v E.1 MA (zN z) 0, tk_v E.1 MA (zN z) 1, tk_v E.1 MA (zN z) 2, tk_v E.1 MA (zN z) 3, tk_v E.1 MA (zN z) 4]) = _
  simp only [tk_v_of ho, MA, a1_Z hz]
  rfl
theorem F_Z1 {E : tk_E} {z : Nat} (hz : z < 4) : tk_ct E MA (zN z + 1) = aI E 9 := by
  rw [tk_ct_a (o_Z1 hz) (by decide) (by decide), show MA.1 (zN z + 1) = (fun _ => 0) from funext (a1_Z1 hz)]
theorem F_Z2 {E : tk_E} {z : Nat} (hz : z < 4) : tk_ct E MA (zN z + 2) = aI E 9 := by
  rw [tk_ct_a (o_Z2 hz) (by decide) (by decide), show MA.1 (zN z + 2) = (fun _ => 0) from funext (a1_Z2 hz)]
theorem F_Z3 {E : tk_E} {z : Nat} (hz : z < 4) : tk_ct E MA (zN z + 3) = aI E 16 := by
  rw [tk_ct_a (o_Z3 hz) (by decide) (by decide), show MA.1 (zN z + 3) = (fun _ => 0) from funext (a1_Z3 hz)]
abbrev oJ (b i z : Nat) : va_E := .inr (4, [.ref (b + (i + 1)), .ref (b + (i + 2)), .ref (b + (i + 3)), .ref (b + z), .int 0, .int 0, .int 0, .int 1440, .int 0])
abbrev oU : va_E := .inr (5, [.long 1, .int 1, .long 4294967295, .int 8190, .int 127, .int 0, .int 0])
abbrev oN (b i : Nat) : va_E := .inr (6, [.ref (b + (i + 1)), .ref (b + (i + 2)), .int 0, .int 0])
theorem a3_J {j : Nat} (hj : j < 8) (k : Nat) : MA3 (jN j) k = 70 := by
  unfold MA3 jN
  rw [if_neg (by omega), if_neg (by omega)]
theorem F_J {E : tk_E} {j : Nat} (hj : j < 8) : tk_ct E MA (jN j) = oJ E.1 (jN j) 70 := by
  have ho := o_J hj
  rw [tk_ct_o ho (by decide)]
  show Sum.inr (_, [tk_v E.1 MA (jN j) 0, tk_v E.1 MA (jN j) 1, tk_v E.1 MA (jN j) 2, tk_v E.1 MA (jN j) 3, tk_v E.1 MA (jN j) 4, tk_v E.1 MA (jN j) 5, tk_v E.1 MA (jN j) 6, tk_v E.1 MA (jN j) 7, tk_v E.1 MA (jN j) 8]) = _
  simp only [tk_v_of ho, MA, a1_J hj, a3_J hj]
  rfl
theorem F_J1 {E : tk_E} {j : Nat} (hj : j < 8) : tk_ct E MA (jN j + 1) = oU := by
  have ho := o_J1 hj
  rw [tk_ct_o ho (by decide)]
  show Sum.inr (_, [tk_v E.1 MA (jN j + 1) 0, tk_v E.1 MA (jN j + 1) 1, tk_v E.1 MA (jN j + 1) 2, tk_v E.1 MA (jN j + 1) 3, tk_v E.1 MA (jN j + 1) 4, tk_v E.1 MA (jN j + 1) 5, tk_v E.1 MA (jN j + 1) 6]) = _
  simp only [tk_v_of ho, MA, a1_J1 hj, a2_J1 hj]
  rfl
theorem F_J2 {E : tk_E} {j : Nat} (hj : j < 8) : tk_ct E MA (jN j + 2) = aI E 8 := by
  rw [tk_ct_a (o_J2 hj) (by decide) (by decide), show MA.1 (jN j + 2) = (fun _ => 0) from funext (a1_J2 hj)]
theorem F_J3 {E : tk_E} {j : Nat} (hj : j < 8) : tk_ct E MA (jN j + 3) = aZ E 8 := by
  rw [tk_ct_a (o_J3 hj) (by decide) (by decide), show MA.1 (jN j + 3) = (fun _ => 0) from funext (a1_J3 hj)]
theorem F_J4 {E : tk_E} {j : Nat} (hj : j < 8) : tk_ct E MA (jN j + 4) = oN E.1 (jN j + 4) := by
  have ho := o_J4 hj
  rw [tk_ct_o ho (by decide)]
  show Sum.inr (_, [tk_v E.1 MA (jN j + 4) 0, tk_v E.1 MA (jN j + 4) 1, tk_v E.1 MA (jN j + 4) 2, tk_v E.1 MA (jN j + 4) 3]) = _
  simp only [tk_v_of ho, MA, a1_J4 hj]
  rfl
theorem F_J5 {E : tk_E} {j : Nat} (hj : j < 8) : tk_ct E MA (jN j + 4 + 1) = aI E 40 := by
  rw [tk_ct_a (o_J5 hj) (by decide) (by decide), show MA.1 (jN j + 4 + 1) = (fun _ => 0) from funext (a1_J5 hj)]
theorem F_J6 {E : tk_E} {j : Nat} (hj : j < 8) : tk_ct E MA (jN j + 4 + 2) = aI E 40 := by
  rw [tk_ct_a (o_J6 hj) (by decide) (by decide), show MA.1 (jN j + 4 + 2) = (fun _ => 0) from funext (a1_J6 hj)]
abbrev oS (b i : Nat) : va_E := .inr (7, [.ref (b + (i + 1)), .int 1])
theorem F_S {E : tk_E} {x : Nat} (hx : x < 3) : tk_ct E MA (sN x) = oS E.1 (sN x) := by
  have ho := o_S hx
  rw [tk_ct_o ho (by decide)]
  show Sum.inr (_, [tk_v E.1 MA (sN x) 0, tk_v E.1 MA (sN x) 1]) = _
  simp only [tk_v_of ho, MA, a1_S hx]
  rfl
theorem F_S1 {E : tk_E} {x : Nat} (hx : x < 3) : tk_ct E MA (sN x + 1) = aQ E 8 8 (tk_fr 8 8 (fun k => E.1 + (sN x + 1 + (k + 1)))) := by
  rw [tk_ct_r (o_S1 hx) (by decide), tk_fr_all]
  rfl
theorem F_E {E : tk_E} {x j : Nat} (hx : x < 3) (hj : j < 8) : tk_ct E MA (eN x j) = oE := by
  have ho := o_E hx hj
  rw [tk_ct_o ho (by decide)]
  show Sum.inr (_, [tk_v E.1 MA (eN x j) 0, tk_v E.1 MA (eN x j) 1, tk_v E.1 MA (eN x j) 2, tk_v E.1 MA (eN x j) 3, tk_v E.1 MA (eN x j) 4, tk_v E.1 MA (eN x j) 5, tk_v E.1 MA (eN x j) 6, tk_v E.1 MA (eN x j) 7, tk_v E.1 MA (eN x j) 8]) = _
  simp only [tk_v_of ho, MA, a1_E hx hj]
  rfl
abbrev oP (b : Nat) : va_E := .inr (1, [.ref (b + 7), .ref (b + 8), .ref (b + 9), .int 0])
abbrev oK (b : Nat) : va_E := .inr (0, [.ref (b + 1), .ref (b + 2), .ref (b + 3), .ref (b + 4), .ref (b + 5), .ref (b + 6), .int 0])
abbrev qz (E : tk_E) (q : Nat) : va_E := aQ E 3 4 (tk_fr 4 q (fun k => E.1 + (70 + 4 * k)))
abbrev qj (E : tk_E) (q : Nat) : va_E := aQ E 4 8 (tk_fr 8 q (fun k => E.1 + (86 + 7 * k)))
abbrev qs (E : tk_E) (q : Nat) : va_E := aQ E 5 3 (tk_fr 3 q (fun k => E.1 + (142 + 10 * k)))
abbrev qn (E : tk_E) (q : Nat) : va_E := aQ E 6 8 (tk_fr 8 q (fun k => E.1 + (86 + 7 * k + 4)))
abbrev qd (E : tk_E) : va_E := .inl (E.2.2.1 1, 2, .inl (upd (upd (fun _ => 0) 0 1) 1 1))
theorem F_0 {E : tk_E} : tk_ct E MA 0 = oK E.1 := rfl
theorem F_1 {E : tk_E} : tk_ct E MA 1 = qz E 4 := by rw [tk_ct_r o_zs (by decide), qz, tk_fr_all]; rfl
theorem F_2 {E : tk_E} : tk_ct E MA 2 = qj E 8 := by rw [tk_ct_r o_js (by decide), qj, tk_fr_all]; rfl
theorem F_3 {E : tk_E} : tk_ct E MA 3 = qs E 3 := by rw [tk_ct_r o_ss (by decide), qs, tk_fr_all]; rfl
theorem F_5 {E : tk_E} : tk_ct E MA 5 = qn E 8 := by rw [tk_ct_r o_ns (by decide), qn, tk_fr_all]; rfl
theorem F_4 {E : tk_E} : tk_ct E MA 4 = qd E := by
  rw [tk_ct_a o_dk (by decide) (by decide), qd, show MA.1 4 = upd (upd (fun _ => 0) 0 1) 1 1 from ?_]
  funext k
  show MA1 4 k = _
  unfold MA1 upd
  rw [if_neg (by omega), if_neg (by omega), if_neg (by omega), if_neg (by omega), if_pos rfl]
  by_cases h1 : k = 1
  · subst h1; rfl
  · by_cases h0 : k = 0
    · subst h0; rfl
    · rw [if_neg (by omega), if_neg h1, if_neg h0]
theorem F_6 {E : tk_E} : tk_ct E MA 6 = oP E.1 := rfl
theorem F_7 {E : tk_E} : tk_ct E MA 7 = aQ E 7 60 (tk_fr 60 60 (fun k => E.1 + (6 + 4 + k))) := by rw [tk_ct_r o_row (by decide), tk_fr_all]; rfl
/-- the head's cells over what stands above -/
abbrev tk_H (E : tk_E) (x1 x2 x3 x4 x5 : va_E) : Nat → va_E := tk_G 0 [oK E.1, x1, x2, x3, x4, x5] (tk_ct E MA)
theorem tk_G_hd {L L2 : List va_E} {F : Nat → va_E} {n : Nat} (hn : L.length ≤ n) (h : ∀ r x, L2[r]? = some x → F (n + r) = x) : tk_G n L2 (tk_G 0 L F) = tk_G 0 L F := tk_G_id (fun r x hx => (tk_G_out (by omega)).trans (h r x hx))
theorem tk_H_all {E : tk_E} : tk_H E (qz E 4) (qj E 8) (qs E 3) (qd E) (qn E 8) = tk_ct E MA := tk_G_id (fun r x hx => by
  rw [Nat.zero_add]
  rcases (show r = 0 ∨ r = 1 ∨ r = 2 ∨ r = 3 ∨ r = 4 ∨ r = 5 ∨ 6 ≤ r by omega) with rfl | rfl | rfl | rfl | rfl | rfl | h
  · exact F_0.trans (Option.some.inj hx)
  · exact F_1.trans (Option.some.inj hx)
  · exact F_2.trans (Option.some.inj hx)
  · exact F_3.trans (Option.some.inj hx)
  · exact F_4.trans (Option.some.inj hx)
  · exact F_5.trans (Option.some.inj hx)
  · rw [List.getElem?_eq_none (by simpa using h)] at hx
    cases hx)
theorem tk_rep_at {α : Type} {A : List α} {q r : Nat} {x y : α} (h : (A ++ List.replicate q x)[r]? = some y) : A[r]? = some y ∨ (A.length ≤ r ∧ r < A.length + q ∧ y = x) := by
  by_cases hr : r < A.length
  · rw [List.getElem?_append_left hr] at h
    exact Or.inl h
  · rw [List.getElem?_append_right (by omega)] at h
    have hl := (List.getElem?_eq_some_iff.mp h).1
    rw [List.length_replicate] at hl
    rw [List.getElem?_replicate, if_pos hl] at h
    exact Or.inr ⟨by omega, by omega, (Option.some.inj h).symm⟩
theorem H_P {E : tk_E} : ∀ r x, ([oP E.1, aQ E 7 60 (tk_fr 60 60 (fun k => E.1 + (6 + 4 + k))), oL, oL] ++ List.replicate 60 oL)[r]? = some x → tk_ct E MA (6 + r) = x := by
  intro r x h
  rcases tk_rep_at h with h | ⟨h1, h2, rfl⟩
  · rcases (show r = 0 ∨ r = 1 ∨ r = 2 ∨ r = 3 ∨ 4 ≤ r by omega) with rfl | rfl | rfl | rfl | hr
    · exact F_6.trans (Option.some.inj h)
    · exact F_7.trans (Option.some.inj h)
    · exact (F_L (by decide) (by decide)).trans (Option.some.inj h)
    · exact (F_L (by decide) (by decide)).trans (Option.some.inj h)
    · rw [List.getElem?_eq_none (by simpa using hr)] at h
      cases h
  · simp at h1 h2
    exact F_L (by omega) (by omega)
theorem H_Z {E : tk_E} {z : Nat} (hz : z < 4) : ∀ r x, [oZ E.1 (zN z), aI E 9, aI E 9, aI E 16][r]? = some x → tk_ct E MA (zN z + r) = x := by
  intro r x h
  rcases (show r = 0 ∨ r = 1 ∨ r = 2 ∨ r = 3 ∨ 4 ≤ r by omega) with rfl | rfl | rfl | rfl | hr
  · exact (F_Z hz).trans (Option.some.inj h)
  · exact (F_Z1 hz).trans (Option.some.inj h)
  · exact (F_Z2 hz).trans (Option.some.inj h)
  · exact (F_Z3 hz).trans (Option.some.inj h)
  · rw [List.getElem?_eq_none (by simpa using hr)] at h
    cases h
theorem H_J {E : tk_E} {j : Nat} (hj : j < 8) : ∀ r x, [oJ E.1 (jN j) 70, oU, aI E 8, aZ E 8][r]? = some x → tk_ct E MA (jN j + r) = x := by
  intro r x h
  rcases (show r = 0 ∨ r = 1 ∨ r = 2 ∨ r = 3 ∨ 4 ≤ r by omega) with rfl | rfl | rfl | rfl | hr
  · exact (F_J hj).trans (Option.some.inj h)
  · exact (F_J1 hj).trans (Option.some.inj h)
  · exact (F_J2 hj).trans (Option.some.inj h)
  · exact (F_J3 hj).trans (Option.some.inj h)
  · rw [List.getElem?_eq_none (by simpa using hr)] at h
    cases h
theorem H_N {E : tk_E} {j : Nat} (hj : j < 8) : ∀ r x, [oN E.1 (jN j + 4), aI E 40, aI E 40][r]? = some x → tk_ct E MA (jN j + 4 + r) = x := by
  intro r x h
  rcases (show r = 0 ∨ r = 1 ∨ r = 2 ∨ 3 ≤ r by omega) with rfl | rfl | rfl | hr
  · exact (F_J4 hj).trans (Option.some.inj h)
  · exact (F_J5 hj).trans (Option.some.inj h)
  · exact (F_J6 hj).trans (Option.some.inj h)
  · rw [List.getElem?_eq_none (by simpa using hr)] at h
    cases h
theorem H_S {E : tk_E} {x : Nat} (hx : x < 3) : ∀ r v, ([oS E.1 (sN x), aQ E 8 8 (tk_fr 8 8 (fun k => E.1 + (sN x + 1 + (k + 1))))] ++ List.replicate 8 oE)[r]? = some v → tk_ct E MA (sN x + r) = v := by
  intro r v h
  rcases tk_rep_at h with h | ⟨h1, h2, rfl⟩
  · rcases (show r = 0 ∨ r = 1 ∨ 2 ≤ r by omega) with rfl | rfl | hr
    · exact (F_S hx).trans (Option.some.inj h)
    · exact (F_S1 hx).trans (Option.some.inj h)
    · rw [List.getElem?_eq_none (by simpa using hr)] at h
      cases h
  · simp at h1 h2
    have := F_E (E := E) (x := x) (j := r - 2) hx (by omega)
    rw [show eN x (r - 2) = sN x + r by unfold eN sN; omega] at this
    exact this
