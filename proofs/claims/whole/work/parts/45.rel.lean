/-! what holds between the class's cells (A) and the other side's (B); T calls so far, c letters -/
def rg (v : Int32) : Prop := -1 ≤ v.toInt ∧ v.toInt ≤ 52595999
def bnd (T : Nat) (v : Int32) : Prop := ∃ q, q ≤ 3 * T ∧ v = nI q
def rT (A B : tk_M) : Prop := B.1 172 0 = 0 ∧ ∃ nw, A.1 0 6 = iI nw ∧ B.1 172 1 = iI nw ∧ 0 ≤ nw ∧ nw ≤ 52595999
def rZ (A B : tk_M) (z : Nat) : Prop := ∃ (n h : Nat) (st os : Nat → Int), zo_m A z n st os ∧ m_zo B z n st os ∧ h ≤ 16 ∧ A.1 (zN z) 4 = nI h ∧ B.1 177 z = nI h ∧ ∀ i, i < h → A.1 (zN z + 3) i = B.1 176 (16 * z + i)
def rU (A B : tk_M) (j : Nat) : Prop := ∃ r : ru, m_rul B j r ∧ A.1 (jN j + 1) 1 = nI (ru_hh r) ∧ A.2.1 (jN j + 1) 0 = lN (ru_mn r) ∧ A.2.1 (jN j + 1) 2 = lN (ru_dd r) ∧ A.1 (jN j + 1) 3 = nI (ru_mo r) ∧ A.1 (jN j + 1) 4 = nI (ru_ww r) ∧ A.1 (jN j + 1) 5 = nI (ru_nd r) ∧ A.1 (jN j + 1) 6 = nI (ru_np r)
def rV (A B : tk_M) (j : Nat) : Prop := ∃ (z : Nat) (mv : Bool), z < 4 ∧ A.2.2 (jN j) 3 = zN z ∧ B.1 185 j = nI z ∧ A.1 (jN j) 5 = b01 mv ∧ B.1 191 j = b01 mv
def rX (A B : tk_M) (j : Nat) : Prop := ∃ ne, ne ≤ 8 ∧ A.1 (jN j) 4 = nI ne ∧ B.1 189 j = nI ne ∧ ∀ i, i < ne → A.1 (jN j + 2) i = B.1 188 (8 * j + i)
def rM (A B : tk_M) (j : Nat) : Prop := ∃ (md : Nat) (lt : Int), md ≤ 2 ∧ A.1 (jN j) 6 = nI md ∧ B.1 186 j = nI md ∧ A.1 (jN j) 7 = iI lt ∧ B.1 187 j = iI lt ∧ 0 ≤ lt ∧ lt ≤ 100000
def rP (A B : tk_M) (j : Nat) : Prop := A.1 (jN j) 8 = B.1 192 j
def rW (A B : tk_M) (j : Nat) : Prop := ∀ i, i < 8 → A.1 (jN j + 3) i = b01 (bt (B.1 190 j) i)
def rN (A B : tk_M) (j : Nat) : Prop := ∃ k, k ≤ 40 ∧ A.1 (jN j + 4) 2 = nI k ∧ B.1 205 j = nI k ∧ A.1 (jN j + 4) 3 = B.1 204 j ∧ ∀ i, i < k → A.1 (jN j + 4 + 1) i = B.1 206 (40 * j + i) ∧ A.1 (jN j + 4 + 2) i = B.1 207 (40 * j + i) ∧ 0 ≤ (A.1 (jN j + 4 + 1) i).toInt ∧ (A.1 (jN j + 4 + 1) i).toInt ≤ 52595999
def rS (A B : tk_M) (T x j : Nat) : Prop := (∀ f, f < 8 → A.1 (eN x j) f = B.1 (195 + f) (8 * x + j)) ∧ (A.1 (eN x j) 5 = 2 → A.1 (eN x j) 8 = B.1 203 (8 * x + j) ∧ 0 ≤ (A.1 (eN x j) 7).toInt) ∧ bnd T (A.1 (eN x j) 0) ∧ bnd T (A.1 (eN x j) 1) ∧ bnd T (A.1 (eN x j) 6) ∧ rg (A.1 (eN x j) 2) ∧ rg (A.1 (eN x j) 4) ∧ rg (A.1 (eN x j) 7) ∧ (A.1 (sN x) 1 = 0 → A.1 (eN x j) 4 = -1 ∧ A.1 (eN x j) 5 = 0 ∧ A.1 (eN x j) 6 = 0 ∧ A.1 (eN x j) 7 = -1)
def rD (A B : tk_M) (x : Nat) : Prop := A.1 (sN x) 1 = B.1 193 x ∧ (A.1 (sN x) 1 = 0 ∨ A.1 (sN x) 1 = 1)
def rO (A B : tk_M) (d : Nat) : Prop := A.1 4 d = B.1 194 d ∧ (A.1 4 d = 0 ∨ A.1 4 d = 1)
/-- a letter is in order -/
def LW (T : Nat) (v : Nat → Int32) : Prop := ∃ k f t j, k ≤ 5 ∧ f < 3 ∧ t < 3 ∧ j < 8 ∧ v 0 = nI k ∧ v 1 = nI f ∧ v 2 = nI t ∧ v 3 = nI j ∧ (k = 4 → t < 2 ∧ 0 ≤ (v 5).toInt) ∧ bnd T (v 4) ∧ rg (v 5)
def rL (A B : tk_M) (T c : Nat) : Prop := po A c ∧ B.1 172 38 = nI c ∧ ∀ i, i < c → (∀ f, f < 8 → A.1 (A.2.2 7 i) f = B.1 208 (8 * i + f)) ∧ LW T (fun f => B.1 208 (8 * i + f))
def rJ (A B : tk_M) (j : Nat) : Prop := rU A B j ∧ rV A B j ∧ rX A B j ∧ rM A B j ∧ rP A B j ∧ rW A B j ∧ rN A B j
def RR (A B : tk_M) (T c : Nat) : Prop := rT A B ∧ (∀ z, z < 4 → rZ A B z) ∧ (∀ j, j < 8 → rJ A B j) ∧ (∀ x, x < 3 → rD A B x ∧ ∀ j, j < 8 → rS A B T x j) ∧ (∀ d, d < 2 → rO A B d) ∧ rL A B T c
theorem bnd.mono {T T' : Nat} {v : Int32} (h : bnd T v) (w : T ≤ T') : bnd T' v := by
  obtain ⟨q, h1, h2⟩ := h
  exact ⟨q, by omega, h2⟩
theorem rS.mono {A B : tk_M} {T T' x j : Nat} (h : rS A B T x j) (w : T ≤ T') : rS A B T' x j := ⟨h.1, h.2.1, h.2.2.1.mono w, h.2.2.2.1.mono w, h.2.2.2.2.1.mono w, h.2.2.2.2.2⟩
theorem LW.mono {T T' : Nat} {v : Nat → Int32} (h : LW T v) (w : T ≤ T') : LW T' v := by
  obtain ⟨k, f, t, j, h1, h2, h3, h4, h5, h6, h7, h8, h9, h10, h11⟩ := h
  exact ⟨k, f, t, j, h1, h2, h3, h4, h5, h6, h7, h8, h9, h10.mono w, h11⟩
theorem RR.mono {A B : tk_M} {T T' c : Nat} (h : RR A B T c) (w : T ≤ T') : RR A B T' c := ⟨h.1, h.2.1, h.2.2.1, fun x hx => ⟨(h.2.2.2.1 x hx).1, fun j hj => ((h.2.2.2.1 x hx).2 j hj).mono w⟩, h.2.2.2.2.1, h.2.2.2.2.2.1, h.2.2.2.2.2.2.1, fun i hi => ⟨(h.2.2.2.2.2.2.2 i hi).1, (h.2.2.2.2.2.2.2 i hi).2.mono w⟩⟩
section RELOF
variable {A A' B B' : tk_M} {T c z j x d : Nat}
theorem rT.of (h : rT A B) (a1 : A'.1 0 6 = A.1 0 6) (b1 : B'.1 172 0 = B.1 172 0) (b2 : B'.1 172 1 = B.1 172 1) : rT A' B' := by
  unfold rT at h ⊢
  rw [a1, b1, b2]
  exact h
theorem rZ.of (h : rZ A B z) (hz : z < 4) (a1 : ∀ a b, zN z ≤ a → a < zN z + 4 → A'.1 a b = A.1 a b) (b1 : ∀ a b, ((a = 173 ∨ a = 174) ∧ b / 8 = z) ∨ (a = 176 ∧ b / 16 = z) ∨ ((a = 175 ∨ a = 177) ∧ b = z) → B'.1 a b = B.1 a b) : rZ A' B' z := by
  obtain ⟨n, h, st, os, h1, h2, h3, h4, h5, h6⟩ := h
  have hn := h1.1.2.1
  refine ⟨n, h, st, os, ⟨h1.1, by rw [a1 _ _ (by omega) (by omega)]; exact h1.2.1, fun i hi => ?_⟩, ⟨h2.1, h2.2.1, by rw [b1 _ _ (by omega)]; exact h2.2.2.1, fun i hi => ?_⟩, h3, by rw [a1 _ _ (by omega) (by omega)]; exact h4, by rw [b1 _ _ (by omega)]; exact h5, fun i hi => ?_⟩
  · rw [a1 _ _ (by omega) (by omega), a1 _ _ (by omega) (by omega)]; exact h1.2.2 i hi
  · rw [b1 _ _ (by omega), b1 _ _ (by omega)]; exact h2.2.2.2 i hi
  · rw [a1 _ _ (by omega) (by omega), b1 _ _ (by omega)]; exact h6 i hi
theorem rU.of (h : rU A B j) (a1 : ∀ b, A'.1 (jN j + 1) b = A.1 (jN j + 1) b) (a2 : ∀ b, A'.2.1 (jN j + 1) b = A.2.1 (jN j + 1) b) (b1 : ∀ a, 179 ≤ a → a ≤ 184 → B'.1 a j = B.1 a j) (b2 : B'.2.1 178 j = B.2.1 178 j) : rU A' B' j := by
  obtain ⟨r, h1, h2⟩ := h
  refine ⟨r, ?_, ?_⟩
  · unfold m_rul at h1 ⊢
    rw [b1 179 (by omega) (by omega), b1 180 (by omega) (by omega), b1 181 (by omega) (by omega), b1 182 (by omega) (by omega), b1 183 (by omega) (by omega), b1 184 (by omega) (by omega), b2]
    exact h1
  · rw [a1, a1, a1, a1, a1, a2, a2]
    exact h2
theorem rV.of (h : rV A B j) (a1 : A'.1 (jN j) 5 = A.1 (jN j) 5) (a2 : A'.2.2 (jN j) 3 = A.2.2 (jN j) 3) (b1 : B'.1 185 j = B.1 185 j) (b2 : B'.1 191 j = B.1 191 j) : rV A' B' j := by
  unfold rV at h ⊢
  rw [a1, a2, b1, b2]
  exact h
theorem rX.of (h : rX A B j) (a1 : A'.1 (jN j) 4 = A.1 (jN j) 4) (a2 : ∀ b, A'.1 (jN j + 2) b = A.1 (jN j + 2) b) (b1 : B'.1 189 j = B.1 189 j) (b2 : ∀ b, b / 8 = j → B'.1 188 b = B.1 188 b) : rX A' B' j := by
  obtain ⟨ne, h1, h2, h3, h4⟩ := h
  exact ⟨ne, h1, a1.trans h2, b1.trans h3, fun i hi => by rw [a2, b2 _ (by omega)]; exact h4 i hi⟩
theorem rM.of (h : rM A B j) (a1 : A'.1 (jN j) 6 = A.1 (jN j) 6) (a2 : A'.1 (jN j) 7 = A.1 (jN j) 7) (b1 : B'.1 186 j = B.1 186 j) (b2 : B'.1 187 j = B.1 187 j) : rM A' B' j := by
  unfold rM at h ⊢
  rw [a1, a2, b1, b2]
  exact h
theorem rP.of (h : rP A B j) (a1 : A'.1 (jN j) 8 = A.1 (jN j) 8) (b1 : B'.1 192 j = B.1 192 j) : rP A' B' j := by
  unfold rP at h ⊢
  rw [a1, b1]
  exact h
theorem rW.of (h : rW A B j) (a1 : ∀ b, A'.1 (jN j + 3) b = A.1 (jN j + 3) b) (b1 : B'.1 190 j = B.1 190 j) : rW A' B' j := fun i hi => by
  rw [a1, b1]
  exact h i hi
theorem rN.of (h : rN A B j) (a1 : ∀ a b, jN j + 4 ≤ a → a ≤ jN j + 4 + 2 → A'.1 a b = A.1 a b) (b1 : B'.1 204 j = B.1 204 j) (b2 : B'.1 205 j = B.1 205 j) (b3 : ∀ b, b / 40 = j → B'.1 206 b = B.1 206 b) (b4 : ∀ b, b / 40 = j → B'.1 207 b = B.1 207 b) : rN A' B' j := by
  obtain ⟨k, h1, h2, h3, h4, h5⟩ := h
  refine ⟨k, h1, by rw [a1 _ _ (by omega) (by omega)]; exact h2, b2.trans h3, by rw [a1 _ _ (by omega) (by omega), b1]; exact h4, fun i hi => ?_⟩
  rw [a1 _ _ (by omega) (by omega), a1 _ _ (by omega) (by omega), b3 _ (by omega), b4 _ (by omega)]
  exact h5 i hi
theorem rS.of (h : rS A B T x j) (a1 : ∀ b, A'.1 (eN x j) b = A.1 (eN x j) b) (a2 : A'.1 (sN x) 1 = A.1 (sN x) 1) (b1 : ∀ a, 195 ≤ a → a ≤ 203 → B'.1 a (8 * x + j) = B.1 a (8 * x + j)) : rS A' B' T x j := by
  unfold rS at h ⊢
  rw [a1, a1, a1, a1, a1, a1, a1, a1, a2, b1 203 (by omega) (by omega)]
  exact ⟨fun f hf => by rw [a1, b1 _ (by omega) (by omega)]; exact h.1 f hf, h.2⟩
theorem rD.of (h : rD A B x) (a1 : A'.1 (sN x) 1 = A.1 (sN x) 1) (b1 : B'.1 193 x = B.1 193 x) : rD A' B' x := by
  unfold rD at h ⊢
  rw [a1, b1]
  exact h
theorem rO.of (h : rO A B d) (a1 : A'.1 4 d = A.1 4 d) (b1 : B'.1 194 d = B.1 194 d) : rO A' B' d := by
  unfold rO at h ⊢
  rw [a1, b1]
  exact h
theorem rL.of (h : rL A B T c) (a1 : A'.1 6 3 = A.1 6 3) (a2 : ∀ a b, 9 ≤ a → a < 70 → A'.1 a b = A.1 a b) (a3 : ∀ b, A'.2.2 7 b = A.2.2 7 b) (a4 : A'.2.2 6 2 = A.2.2 6 2) (b1 : B'.1 172 38 = B.1 172 38) (b2 : ∀ b, B'.1 208 b = B.1 208 b) : rL A' B' T c := by
  obtain ⟨h1, h2, h3⟩ := h
  have e3 : A'.2.2 7 = A.2.2 7 := funext a3
  refine ⟨?_, b1.trans h2, fun i hi => ?_⟩
  · unfold po at h1 ⊢
    rw [a1, e3, a4]
    exact h1
  · rw [e3, show (fun f => B'.1 208 (8 * i + f)) = fun f => B.1 208 (8 * i + f) from funext fun f => b2 _]
    refine ⟨fun f hf => ?_, (h3 i hi).2⟩
    have hc := h1.1
    have := h1.2.2.1 i (by omega)
    rw [a2 _ _ this.1 this.2, b2]
    exact (h3 i hi).1 f hf
end RELOF
/-- a calendar for both -/
theorem RR.cal1 {A B : tk_M} {T c j : Nat} (h : RR A B T c) (hj : j < 8) : ∃ g, calK A j g ∧ calM B j g := by
  obtain ⟨⟨r, u1, u2, u3, u4, u5, u6, u7, u8⟩, ⟨z, mv, v1, v2, v3, v4, v5⟩, ⟨ne, x1, x2, x3, x4⟩, ⟨md, lt, m1, m2, m3, m4, m5, m6, m7⟩, -⟩ := h.2.2.1 j hj
  obtain ⟨n, hh, st, os, z1, z2, z3, z4, z5, z6⟩ := h.2.1 z v1
  have ef : z_fr A z hh = fr_of hh (fun i => B.1 176 (16 * z + i)) := by
    funext y
    have e : anyN (fun i => decide (A.1 (zN z + 3) i = iI y)) hh = anyN (fun i => decide (B.1 176 (16 * z + i) = iI y)) hh := anyN_congr (fun i hi => by rw [z6 i hi])
    show (decide (5 ≤ (y + 1461) % 7) || anyN (fun i => decide (A.1 (zN z + 3) i = iI y)) hh) = (decide (5 ≤ (y + 1461) % 7) || anyN (fun i => decide (B.1 176 (16 * z + i) = iI y)) hh)
    rw [e]
  have ee : (fun y => j_exc A j ne (iI y)) = ex_of ne (fun i => B.1 188 (8 * j + i)) := by
    funext y
    exact anyN_congr (f := fun i => decide (A.1 (jN j + 2) i = iI y)) (g := fun i => decide (B.1 188 (8 * j + i) = iI y)) (fun i hi => by rw [x4 i hi])
  have ed : j_due A j z hh ne n r mv st os = due_of n hh ne r mv st os (fun i => B.1 176 (16 * z + i)) (fun i => B.1 188 (8 * j + i)) := by
    unfold j_due due_of j_jd jd_of
    rw [ef, ee]
  refine ⟨(due_of n hh ne r mv st os (fun i => B.1 176 (16 * z + i)) (fun i => B.1 188 (8 * j + i)), md, lt, fun m => m + os (ptI st m n)), ?_, ?_⟩
  · exact ⟨z, hh, ne, n, r, mv, st, os, ⟨hj, v1, v2, z3, z4, u1.2.1, u2, u3, u4, u5, u6, u7, u8, v4⟩, z1, x1, x2, ed, m2, m1, m4, m6, m7, fun _ => rfl⟩
  · exact ⟨z, hh, ne, n, r, mv, st, os, _, _, ⟨u1, ⟨v1, z3, v3, z5, fun _ _ => rfl, v5⟩, z2, ⟨x1, x3, fun _ _ => rfl⟩⟩, rfl, m3, m1, m5, m6, m7, fun _ => rfl⟩
theorem RR.cal {A B : tk_M} {T c : Nat} (h : RR A B T c) : ∃ G : Nat → gJ, ∀ j, j < 8 → calK A j (G j) ∧ calM B j (G j) := by
  have h0 : ∀ j, ∃ g : gJ, j < 8 → calK A j g ∧ calM B j g := fun j => by
    by_cases w : j < 8
    · obtain ⟨g, hg⟩ := h.cal1 w
      exact ⟨g, fun _ => hg⟩
    · exact ⟨(fun _ => false, 0, 0, fun m => m), fun v => absurd v w⟩
  exact ⟨fun j => Classical.choose (h0 j), fun j hj => Classical.choose_spec (h0 j) hj⟩
