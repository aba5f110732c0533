/-! how the relation is kept: by groups of cells; letters sent and taken; one seat -/
theorem tk_mono {l : Launch} {y : MethodName} {ws : List Cond} {rm : Room} {Pc : Array Value → State → Prop} {Qc Qc' : Array Value → State → Outcome → State → Prop} {mc ms : Nat} {free : Addr → Prop} (h : Met l y ws rm Pc Qc mc ms free) (hq : ∀ a st o t, Qc a st o t → Qc' a st o t) : Met l y ws rm Pc Qc' mc ms free := by
  intro p e h1 h2 h3 s m args below h4 h5 h6 h7
  obtain ⟨n, q, a1, a2, a3, a4, a5⟩ := h p e h1 h2 h3 s m args below h4 h5 h6 h7
  exact ⟨n, q, a1, a2, a3, hq _ _ _ _ a4, a5⟩
theorem tk_MtR {l : Launch} {y : MethodName} {b : ByteArray} {nL : Nat} {ret : Option FieldType} {d : Nat} {E : tk_E} {as : List Value} {M M' : tk_M} {r : Option Value} (h : tk_Mt l y b nL ret d E as M M' r) : tk_MR l y b nL ret d E as M (NR r M') :=
  tk_mono h (fun a st o t hq => ⟨r, M', ⟨rfl, SC.rf⟩, hq⟩)
section RELALL
variable {A A' B B' : tk_M} {T c : Nat}
theorem rZ.all (a1 : ∀ a b, 70 ≤ a → a < 86 → A'.1 a b = A.1 a b) (b1 : ∀ a b, 173 ≤ a → a ≤ 177 → B'.1 a b = B.1 a b) (h : ∀ z, z < 4 → rZ A B z) : ∀ z, z < 4 → rZ A' B' z := fun z hz => (h z hz).of hz (fun a b h1 h2 => a1 a b (by unfold zN at h1; omega) (by unfold zN at h2; omega)) (fun a b h1 => b1 a b (by omega) (by omega))
theorem rJ.all (a1 : ∀ a b, 86 ≤ a → a < 142 → A'.1 a b = A.1 a b) (a2 : ∀ a b, 86 ≤ a → a < 142 → A'.2.1 a b = A.2.1 a b) (a3 : ∀ a b, 86 ≤ a → a < 142 → A'.2.2 a b = A.2.2 a b) (b1 : ∀ a b, (178 ≤ a ∧ a ≤ 192) ∨ (204 ≤ a ∧ a ≤ 207) → B'.1 a b = B.1 a b) (b2 : ∀ b, B'.2.1 178 b = B.2.1 178 b) (h : ∀ j, j < 8 → rJ A B j) : ∀ j, j < 8 → rJ A' B' j := fun j hj => by
  obtain ⟨h1, h2, h3, h4, h5, h6, h7⟩ := h j hj
  have hN : 86 ≤ jN j ∧ jN j + 6 < 142 := by unfold jN; omega
  exact ⟨h1.of (fun b => a1 _ b (by omega) (by omega)) (fun b => a2 _ b (by omega) (by omega)) (fun a w1 w2 => b1 a j (by omega)) (b2 j),
    h2.of (a1 _ _ (by omega) (by omega)) (a3 _ _ (by omega) (by omega)) (b1 _ _ (by omega)) (b1 _ _ (by omega)),
    h3.of (a1 _ _ (by omega) (by omega)) (fun b => a1 _ b (by omega) (by omega)) (b1 _ _ (by omega)) (fun b _ => b1 _ b (by omega)),
    h4.of (a1 _ _ (by omega) (by omega)) (a1 _ _ (by omega) (by omega)) (b1 _ _ (by omega)) (b1 _ _ (by omega)),
    h5.of (a1 _ _ (by omega) (by omega)) (b1 _ _ (by omega)),
    h6.of (fun b => a1 _ b (by omega) (by omega)) (b1 _ _ (by omega)),
    h7.of (fun a b w1 w2 => a1 a b (by omega) (by omega)) (b1 _ _ (by omega)) (b1 _ _ (by omega)) (fun b _ => b1 _ b (by omega)) (fun b _ => b1 _ b (by omega))⟩
theorem rE.all (a1 : ∀ a b, 142 ≤ a → a < 172 → A'.1 a b = A.1 a b) (b1 : ∀ a b, a = 193 ∨ (195 ≤ a ∧ a ≤ 203) → B'.1 a b = B.1 a b) (h : ∀ x, x < 3 → rD A B x ∧ ∀ j, j < 8 → rS A B T x j) : ∀ x, x < 3 → rD A' B' x ∧ ∀ j, j < 8 → rS A' B' T x j := fun x hx =>
  ⟨(h x hx).1.of (a1 _ _ (by unfold sN; omega) (by unfold sN; omega)) (b1 _ _ (by omega)), fun j hj => ((h x hx).2 j hj).of (fun b => a1 _ b (by unfold eN; omega) (by unfold eN; omega)) (a1 _ _ (by unfold sN; omega) (by unfold sN; omega)) (fun a w1 w2 => b1 a _ (by omega))⟩
theorem rO.all (a1 : ∀ b, A'.1 4 b = A.1 4 b) (b1 : ∀ b, B'.1 194 b = B.1 194 b) (h : ∀ d, d < 2 → rO A B d) : ∀ d, d < 2 → rO A' B' d := fun d hd => (h d hd).of (a1 d) (b1 d)
theorem RR.cong (h : RR A B T c) (a1 : ∀ a b, a < 172 → A'.1 a b = A.1 a b ∧ A'.2.1 a b = A.2.1 a b ∧ A'.2.2 a b = A.2.2 a b) (b1 : ∀ a b, 172 ≤ a → ¬ (a = 172 ∧ 39 ≤ b ∧ b ≤ 42) → B'.1 a b = B.1 a b) (b2 : ∀ b, B'.2.1 178 b = B.2.1 178 b) : RR A' B' T c := by
  obtain ⟨h1, h2, h3, h4, h5, h6⟩ := h
  exact ⟨h1.of (a1 _ _ (by omega)).1 (b1 _ _ (by omega) (by omega)) (b1 _ _ (by omega) (by omega)), rZ.all (fun a b w1 w2 => (a1 a b (by omega)).1) (fun a b w1 w2 => b1 a b (by omega) (by omega)) h2,
    rJ.all (fun a b w1 w2 => (a1 a b (by omega)).1) (fun a b w1 w2 => (a1 a b (by omega)).2.1) (fun a b w1 w2 => (a1 a b (by omega)).2.2) (fun a b w => b1 a b (by omega) (by omega)) b2 h3,
    rE.all (fun a b w1 w2 => (a1 a b (by omega)).1) (fun a b w => b1 a b (by omega) (by omega)) h4, rO.all (fun b => (a1 _ b (by omega)).1) (fun b => b1 _ b (by omega) (by omega)) h5,
    h6.of (a1 _ _ (by omega)).1 (fun a b w1 w2 => (a1 a b (by omega)).1) (fun b => (a1 _ b (by omega)).2.2) (a1 _ _ (by omega)).2.2 (b1 _ _ (by omega) (by omega)) (fun b => b1 _ b (by omega) (by omega))⟩
end RELALL
def kHi (M M1 : tk_M) : Prop := ∀ a b, 172 ≤ a → M1.1 a b = M.1 a b ∧ M1.2.1 a b = M.2.1 a b
def kLo (M N : tk_M) : Prop := ∀ a b, a < 172 → N.1 a b = M.1 a b ∧ N.2.1 a b = M.2.1 a b ∧ N.2.2 a b = M.2.2 a b
theorem kHi.rf {M : tk_M} : kHi M M := fun _ _ _ => ⟨rfl, rfl⟩
theorem kLo.rf {M : tk_M} : kLo M M := fun _ _ _ => ⟨rfl, rfl, rfl⟩
theorem kHi.tr {M M1 M2 : tk_M} (h : kHi M M1) (g : kHi M1 M2) : kHi M M2 := fun a b w => ⟨(g a b w).1.trans (h a b w).1, (g a b w).2.trans (h a b w).2⟩
theorem kLo.tr {M M1 M2 : tk_M} (h : kLo M M1) (g : kLo M1 M2) : kLo M M2 := fun a b w => ⟨(g a b w).1.trans (h a b w).1, (g a b w).2.1.trans (h a b w).2.1, (g a b w).2.2.trans (h a b w).2.2⟩
theorem kHi.wI {M : tk_M} {i k : Nat} {v : Int32} (h : i < 172) : kHi M (wI M i k v) := fun a b w => ⟨wI_ne (by omega), rfl⟩
theorem kLo.wI {M : tk_M} {i k : Nat} {v : Int32} (h : 172 ≤ i) : kLo M (wI M i k v) := fun a b w => ⟨wI_ne (by omega), rfl, rfl⟩
/-- a method of the class or of the other side, as the law calls it -/
abbrev tk_Sig : Type := MethodName × ByteArray × Nat × Option FieldType × Nat
/-- one call on both sides: the same answer, and the relation holds behind it -/
def tk_sim (l : Launch) (E : tk_E) (K Y : tk_Sig) (as : List Value) (M : tk_M) (T : Nat) : Prop := ∃ (r : Int32) (M1 N : tk_M), tk_Mt l K.1 K.2.1 K.2.2.1 K.2.2.2.1 K.2.2.2.2 E (.ref (E.1 + 0) :: as) M M1 (some (.int r)) ∧ tk_MR l Y.1 Y.2.1 Y.2.2.1 Y.2.2.2.1 Y.2.2.2.2 E (.ref (E.1 + 172) :: as) M1 (NR (some (.int r)) N) ∧ ∀ M2, SC N M2 → ∃ c, RR M2 M2 (T + 1) c
theorem sim_mk {l : Launch} {E : tk_E} {K Y : tk_Sig} {as : List Value} {M M1 : tk_M} {T c : Nat} {r : Int32} (h : RR M M T c) (hK : tk_Mt l K.1 K.2.1 K.2.2.1 K.2.2.2.1 K.2.2.2.2 E (.ref (E.1 + 0) :: as) M M1 (some (.int r))) (hH : kHi M M1)
    (hs : RR M M1 T c → ∃ (N : tk_M) (c' : Nat), tk_MR l Y.1 Y.2.1 Y.2.2.1 Y.2.2.2.1 Y.2.2.2.2 E (.ref (E.1 + 172) :: as) M1 (NR (some (.int r)) N) ∧ kLo M1 N ∧ RR M1 N (T + 1) c') : tk_sim l E K Y as M T := by
  obtain ⟨N, c', h1, h2, h3⟩ := hs (h.cong (fun a b w => ⟨rfl, rfl, rfl⟩) (fun a b w _ => (hH a b w).1) (fun b => (hH 178 b (by omega)).2))
  refine ⟨r, M1, N, hK, h1, fun M2 sc => ⟨c', h3.cong (fun a b w => ?_) (fun a b w v => sc.2 a b v) (fun b => by rw [sc.1])⟩⟩
  have e := h2 a b w
  rw [sc.1, sc.2 a b (by omega)]
  exact e
-- one letter more
theorem RR.send {A B : tk_M} {T c : Nat} {l : List Int32} (h : RR A B T c) (hl : l.length = 8) (hw : LW T (fun f => l.getD f 0)) : RR (k_snd A c l) (m_snd B c l) T (cup c) := by
  obtain ⟨h1, h2, h3, h4, h5, h6, h7, h8⟩ := h
  have kq := h6.q
  refine ⟨h1.of (k_snd_at h6 (by omega) (by omega)) (m_snd_at (by omega) (by omega)) (m_snd_at (by omega) (by omega)), rZ.all (fun a b w1 w2 => k_snd_at h6 (by omega) (by omega)) (fun a b w1 w2 => m_snd_at (by omega) (by omega)) h2,
    rJ.all (fun a b w1 w2 => k_snd_at h6 (by omega) (by omega)) (fun a b w1 w2 => by rw [k_snd_2]) (fun a b w1 w2 => by rw [k_snd_2]) (fun a b w => m_snd_at (by omega) (by omega)) (fun b => by rw [m_snd_2]) h3,
    rE.all (fun a b w1 w2 => k_snd_at h6 (by omega) (by omega)) (fun a b w => m_snd_at (by omega) (by omega)) h4, rO.all (fun b => k_snd_at h6 (by omega) (by omega)) (fun b => m_snd_at (by omega) (by omega)) h5, h6.snd l, m_snd_c h7, fun i hi => ?_⟩
  rw [k_snd_2]
  by_cases g : c < 60
  · rw [cup, if_pos g] at hi
    have eB : ∀ b, (m_snd B c l).1 208 b = if 8 * c ≤ b ∧ b < 8 * c + 8 then l.getD (b - 8 * c) 0 else B.1 208 b := by
      intro b
      unfold m_snd
      rw [if_pos g, wI_ne (by omega)]
      show (if 208 = 208 ∧ 8 * c ≤ b ∧ b < 8 * c + 8 then l.getD (b - 8 * c) 0 else B.1 208 b) = _
      by_cases w : 8 * c ≤ b ∧ b < 8 * c + 8
      · rw [if_pos ⟨rfl, w⟩, if_pos w]
      · rw [if_neg (fun v => w v.2), if_neg w]
    have pq : p_q A c = A.2.2 7 c := by unfold p_q; rw [if_pos g]
    by_cases hic : i = c
    · subst hic
      have e : ∀ f, f < 8 → (m_snd B i l).1 208 (8 * i + f) = l.getD f 0 := fun f hf => by rw [eB, if_pos (by omega), show 8 * i + f - 8 * i = f by omega]
      refine ⟨fun f hf => ?_, ?_⟩
      · rw [e f hf, ← pq]
        unfold k_snd
        rw [wO_at (by omega)]
      · obtain ⟨k, f, t, j, w1, w2, w3, w4, w5, w6, w7, w8, w9, w10, w11⟩ := hw
        simp only at w5 w6 w7 w8 w9 w10 w11
        refine ⟨k, f, t, j, w1, w2, w3, w4, ?_⟩
        simp only [e 0 (by omega), e 1 (by omega), e 2 (by omega), e 3 (by omega), e 4 (by omega), e 5 (by omega)]
        exact ⟨w5, w6, w7, w8, w9, w10, w11⟩
    · have e : ∀ f, f < 8 → (m_snd B c l).1 208 (8 * i + f) = B.1 208 (8 * i + f) := fun f hf => by rw [eB, if_neg (by omega)]
      have hr := h8 i (by omega)
      refine ⟨fun f hf => ?_, ?_⟩
      · rw [e f hf, k_snd_q (by rw [pq]; exact fun w => hic (h6.2.2.2.2.1 _ _ (by omega) g w)) (by have := h6.2.2.1 i (by omega); omega)]
        exact hr.1 f hf
      · obtain ⟨k, f, t, j, w1, w2, w3, w4, w5, w6, w7, w8, w9, w10, w11⟩ := hr.2
        simp only at w5 w6 w7 w8 w9 w10 w11
        refine ⟨k, f, t, j, w1, w2, w3, w4, ?_⟩
        simp only [e 0 (by omega), e 1 (by omega), e 2 (by omega), e 3 (by omega), e 4 (by omega), e 5 (by omega)]
        exact ⟨w5, w6, w7, w8, w9, w10, w11⟩
  · rw [cup, if_neg g] at hi
    have hc := h6.1
    have eB : m_snd B c l = B := by unfold m_snd; rw [if_neg g]
    rw [eB]
    refine ⟨fun f hf => ?_, (h8 i hi).2⟩
    have := h6.2.2.1 i (by omega)
    rw [k_snd_q (by unfold p_q; rw [if_neg g]; omega) (by omega)]
    exact (h8 i hi).1 f hf
theorem RR.oth {A B : tk_M} {T c : Nat} {f : Nat → List Int32} (x : Nat) (h : RR A B T c) (hl : ∀ t, (f t).length = 8) : ∀ u, (∀ t, t < u → t ≠ x → LW T (fun k => (f t).getD k 0)) → (k_oth A c x f u).2 = (m_oth B c x f u).2 ∧ RR (k_oth A c x f u).1 (m_oth B c x f u).1 T (m_oth B c x f u).2
  | 0, _ => ⟨rfl, h⟩
  | u + 1, hw => by
    have ih := RR.oth x h hl u (fun t w1 w2 => hw t (by omega) w2)
    by_cases g : u = x
    · rw [k_oth_y g, m_oth_y g]; exact ih
    · rw [k_oth_n g, m_oth_n g, ih.1]
      exact ⟨rfl, ih.2.send (hl u) (hw u (by omega) g)⟩
-- one letter less
theorem RR.take {A B : tk_M} {T c i : Nat} (h : RR A B T c) (hi : i < c) : RR (p_tk A i c) (m_rem B i c) T (c - 1) := by
  obtain ⟨h1, h2, h3, h4, h5, h6, h7, h8⟩ := h
  have hc := h6.1
  refine ⟨h1.of (p_tk_at (by omega)) (m_rem_at (by omega) (by omega)) (m_rem_at (by omega) (by omega)), rZ.all (fun a b w1 w2 => p_tk_at (by omega)) (fun a b w1 w2 => m_rem_at (by omega) (by omega)) h2,
    rJ.all (fun a b w1 w2 => p_tk_at (by omega)) (fun a b w1 w2 => rfl) (fun a b w1 w2 => p_tk_R (by omega) (by omega)) (fun a b w => m_rem_at (by omega) (by omega)) (fun b => rfl) h3,
    rE.all (fun a b w1 w2 => p_tk_at (by omega)) (fun a b w => m_rem_at (by omega) (by omega)) h4, rO.all (fun b => p_tk_at (by omega)) (fun b => m_rem_at (by omega) (by omega)) h5, (h6.tk hi).1, m_rem_c, fun b hb => ?_⟩
  have e : ∀ q, q < 8 * c - 8 → (m_rem B i c).1 208 q = if 8 * i ≤ q then B.1 208 (q + 8) else B.1 208 q := by
    intro q hq
    unfold m_rem
    rw [wI_ne (by omega)]
    show (if 208 = 208 ∧ 8 * i ≤ q ∧ q < 8 * c - 8 then B.1 208 (q + 8) else B.1 208 q) = _
    by_cases w : 8 * i ≤ q
    · rw [if_pos ⟨rfl, w, hq⟩, if_pos w]
    · rw [if_neg (fun v => w v.2.1), if_neg w]
  have key : ∃ b', b' < c ∧ (p_tk A i c).2.2 7 b = A.2.2 7 b' ∧ ∀ f, f < 8 → (m_rem B i c).1 208 (8 * b + f) = B.1 208 (8 * b' + f) := by
    rw [p_tk_r, if_neg (by omega)]
    by_cases w : i ≤ b
    · exact ⟨b + 1, by omega, by rw [if_pos ⟨w, hb⟩], fun f hf => by rw [e _ (by omega), if_pos (by omega), show 8 * b + f + 8 = 8 * (b + 1) + f by omega]⟩
    · exact ⟨b, by omega, by rw [if_neg (fun v => w v.1)], fun f hf => by rw [e _ (by omega), if_neg (by omega)]⟩
  obtain ⟨b', g1, g2, g3⟩ := key
  have hr := h8 b' g1
  have hrow := h6.2.2.1 b' (by omega)
  refine ⟨fun f hf => ?_, ?_⟩
  · rw [g2, g3 f hf, p_tk_at (by omega)]
    exact hr.1 f hf
  · obtain ⟨k, f, t, j, w1, w2, w3, w4, w5, w6, w7, w8, w9, w10, w11⟩ := hr.2
    simp only at w5 w6 w7 w8 w9 w10 w11
    refine ⟨k, f, t, j, w1, w2, w3, w4, ?_⟩
    simp only [g3 0 (by omega), g3 1 (by omega), g3 2 (by omega), g3 3 (by omega), g3 4 (by omega), g3 5 (by omega)]
    exact ⟨w5, w6, w7, w8, w9, w10, w11⟩
-- one seat
theorem eN_inj {x j x' j' : Nat} (hj : j < 8) (hj' : j' < 8) (h : eN x j = eN x' j') : x = x' ∧ j = j' := by
  unfold eN at h
  omega
theorem RR.seat {A A' B B' : tk_M} {T c x j : Nat} (h : RR A B T c) (hx : x < 3) (hj : j < 8) (a1 : ∀ a b, a ≠ eN x j → A'.1 a b = A.1 a b) (a2 : A'.2 = A.2) (b1 : ∀ a b, ¬ (195 ≤ a ∧ a ≤ 203 ∧ b = 8 * x + j) → B'.1 a b = B.1 a b) (b2 : B'.2 = B.2) (hn : rS A' B' T x j) : RR A' B' T c := by
  obtain ⟨h1, h2, h3, h4, h5, h6⟩ := h
  have he := eN_ge x j
  have hs : ∀ x', sN x' ≠ eN x j := fun x' w => by unfold sN eN at w; omega
  refine ⟨h1.of (a1 _ _ (by omega)) (b1 _ _ (by omega)) (b1 _ _ (by omega)), rZ.all (fun a b w1 w2 => a1 a b (by omega)) (fun a b w1 w2 => b1 a b (by omega)) h2,
    rJ.all (fun a b w1 w2 => a1 a b (by omega)) (fun a b w1 w2 => by rw [a2]) (fun a b w1 w2 => by rw [a2]) (fun a b w => b1 a b (by omega)) (fun b => by rw [b2]) h3, fun x' hx' => ⟨(h4 x' hx').1.of (a1 _ _ (hs x')) (b1 _ _ (by omega)), fun j' hj' => ?_⟩,
    rO.all (fun b => a1 _ b (by omega)) (fun b => b1 _ b (by omega)) h5, h6.of (a1 _ _ (by omega)) (fun a b w1 w2 => a1 a b (by omega)) (fun b => by rw [a2]) (by rw [a2]) (b1 _ _ (by omega)) (fun b => b1 _ b (by omega))⟩
  by_cases w : x' = x ∧ j' = j
  · rw [w.1, w.2]; exact hn
  · refine ((h4 x' hx').2 j' hj').of (fun b => a1 _ b (fun v => w (eN_inj hj' hj v))) (a1 _ _ (hs x')) (fun a v1 v2 => b1 a _ (fun v => w (by omega)))