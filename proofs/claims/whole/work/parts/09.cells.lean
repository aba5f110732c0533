/-! the cells of both systems: which number is what -/
def tk_ml : List (Nat × Nat) := [(10, 32), (10, 32), (10, 4), (10, 64), (10, 4), (12, 8), (10, 8), (10, 8), (10, 8), (10, 8), (10, 8), (10, 8), (10, 8), (10, 8), (10, 8), (10, 64), (10, 8), (10, 8), (11, 8), (11, 8), (11, 3), (11, 2), (10, 24), (10, 24), (10, 24), (10, 24), (10, 24), (10, 24), (10, 24), (10, 24), (10, 24), (10, 8), (10, 8), (10, 320), (10, 320), (10, 480)]
def tk_k0 : Nat → Nat ⊕ Nat := fun _ => .inl 0
def tk_kK : Nat → Nat ⊕ Nat := fun k => if k < 6 then .inr (k + 1) else .inl 0
def tk_kP : Nat → Nat ⊕ Nat := fun k => if k = 0 then .inr 7 else if k = 1 then .inr 8 else if k = 2 then .inl 2 else .inl 0
def tk_kZ (i : Nat) : Nat → Nat ⊕ Nat := fun k => if k < 3 then .inr (i + (k + 1)) else .inl 0
def tk_kJ (i : Nat) : Nat → Nat ⊕ Nat := fun k => if k < 3 then .inr (i + (k + 1)) else if k = 3 then .inl 2 else .inl 0
def tk_kU : Nat → Nat ⊕ Nat := fun k => if k = 0 then .inl 1 else if k = 2 then .inl 1 else .inl 0
def tk_kN (i : Nat) : Nat → Nat ⊕ Nat := fun k => if k < 2 then .inr (i + (k + 1)) else .inl 0
def tk_kS (i : Nat) : Nat → Nat ⊕ Nat := fun k => if k = 0 then .inr (i + 1) else .inl 0
def tk_kM : Nat → Nat ⊕ Nat := fun k => if k < 2 then .inl 0 else if k < 38 then .inr (171 + k) else .inl 0
def tk_fZ (i r : Nat) : Nat × Nat × (Nat → Nat ⊕ Nat) := match r with
  | 0 => (3, 5, tk_kZ i)
  | 1 => (10, 9, tk_k0)
  | 2 => (10, 9, tk_k0)
  | _ => (10, 16, tk_k0)
def tk_fJ (i r : Nat) : Nat × Nat × (Nat → Nat ⊕ Nat) := match r with
  | 0 => (4, 9, tk_kJ i)
  | 1 => (5, 7, tk_kU)
  | 2 => (10, 8, tk_k0)
  | 3 => (11, 8, tk_k0)
  | 4 => (6, 4, tk_kN i)
  | _ => (10, 40, tk_k0)
def tk_fS (i r : Nat) : Nat × Nat × (Nat → Nat ⊕ Nat) := match r with
  | 0 => (7, 2, tk_kS i)
  | 1 => (18, 8, fun k => .inr (i + (k + 1)))
  | _ => (8, 9, tk_k0)
def tk_sh (i : Nat) : Nat × Nat × (Nat → Nat ⊕ Nat) :=
  if i < 8 then
    (match i with
    | 0 => (0, 7, tk_kK)
    | 1 => (13, 4, fun k => .inr (70 + 4 * k))
    | 2 => (14, 8, fun k => .inr (86 + 7 * k))
    | 3 => (15, 3, fun k => .inr (142 + 10 * k))
    | 4 => (11, 2, tk_k0)
    | 5 => (16, 8, fun k => .inr (86 + 7 * k + 4))
    | 6 => (1, 4, tk_kP)
    | _ => (17, 60, fun _ => .inl 2))
  else if i < 70 then (2, 8, tk_k0)
  else if i < 86 then tk_fZ i ((i - 70) % 4)
  else if i < 142 then tk_fJ i ((i - 86) % 7)
  else if i < 172 then tk_fS i ((i - 142) % 10)
  else if i = 172 then (9, 43, tk_kM)
  else ((tk_ml.getD (i - 173) (10, 0)).1, (tk_ml.getD (i - 173) (10, 0)).2, if i = 178 then fun _ => .inl 1 else tk_k0)
def tk_val (b : Nat) (kd : Nat ⊕ Nat) (a : Int32) (x : Int64) (r : Nat) : Value := match kd with
  | .inl 0 => .int a
  | .inl 1 => .long x
  | .inl _ => .ref (b + r)
  | .inr n => .ref (b + n)
def tk_rn (kd : Nat ⊕ Nat) (r : Nat) : Nat := match kd with
  | .inl _ => r
  | .inr n => n
def tk_v (b : Nat) (M : tk_M) (i k : Nat) : Value := tk_val b ((tk_sh i).2.2 k) (M.1 i k) (M.2.1 i k) (M.2.2 i k)
def tk_ct (E : tk_E) (M : tk_M) (i : Nat) : va_E :=
  if (tk_sh i).1 < 10 then .inr ((tk_sh i).1, (List.range (tk_sh i).2.1).map (tk_v E.1 M i))
  else if (tk_sh i).1 < 12 then .inl (E.2.2.1 ((tk_sh i).1 - 10), (tk_sh i).2.1, .inl (M.1 i))
  else if (tk_sh i).1 = 12 then .inl (E.2.2.1 2, (tk_sh i).2.1, .inr (.inl (M.2.1 i)))
  else .inl (E.2.2.1 ((tk_sh i).1 - 10), (tk_sh i).2.1, .inr (.inr (.inr (.inr (fun k => some (E.1 + tk_rn ((tk_sh i).2.2 k) (M.2.2 i k)))))))
def tk_O (i c N : Nat) (kd : Nat → Nat ⊕ Nat) : Prop := tk_sh i = (c, N, kd) ∧ i < 209
def wI (M : tk_M) (i k : Nat) (v : Int32) : tk_M := (fun a b => if a = i ∧ b = k then v else M.1 a b, M.2)
def wL (M : tk_M) (i k : Nat) (v : Int64) : tk_M := (M.1, fun a b => if a = i ∧ b = k then v else M.2.1 a b, M.2.2)
def wR (M : tk_M) (i k r : Nat) : tk_M := (M.1, M.2.1, fun a b => if a = i ∧ b = k then r else M.2.2 a b)
def zN (z : Nat) : Nat := 70 + 4 * z
def jN (j : Nat) : Nat := 86 + 7 * j
def sN (s : Nat) : Nat := 142 + 10 * s
/-- the seat of scheduler s for job j -/
def eN (s j : Nat) : Nat := 142 + 10 * s + 1 + (j + 1)
theorem tk_ct_loc {E : tk_E} {M M' : tk_M} {i : Nat} (h1 : ∀ k, M.1 i k = M'.1 i k) (h2 : ∀ k, M.2.1 i k = M'.2.1 i k) (h3 : ∀ k, M.2.2 i k = M'.2.2 i k) : tk_ct E M i = tk_ct E M' i := by
  have e1 : M.1 i = M'.1 i := funext h1
  have e2 : M.2.1 i = M'.2.1 i := funext h2
  have e3 : M.2.2 i = M'.2.2 i := funext h3
  have e4 : tk_v E.1 M i = tk_v E.1 M' i := by funext k; unfold tk_v; rw [e1, e2, e3]
  unfold tk_ct
  rw [e1, e2, e3, e4]
theorem tk_ct_o {E : tk_E} {M : tk_M} {i c N : Nat} {kd : Nat → Nat ⊕ Nat} (h : tk_O i c N kd) (hc : c < 10) : tk_ct E M i = .inr (c, (List.range N).map (tk_v E.1 M i)) := by
  unfold tk_ct
  rw [h.1]
  simp [hc]
theorem tk_ct_a {E : tk_E} {M : tk_M} {i c N : Nat} {kd : Nat → Nat ⊕ Nat} (h : tk_O i c N kd) (hc : ¬ c < 10) (hc2 : c < 12) : tk_ct E M i = .inl (E.2.2.1 (c - 10), N, .inl (M.1 i)) := by
  unfold tk_ct
  rw [h.1]
  simp [hc, hc2]
theorem tk_ct_l {E : tk_E} {M : tk_M} {i N : Nat} {kd : Nat → Nat ⊕ Nat} (h : tk_O i 12 N kd) : tk_ct E M i = .inl (E.2.2.1 2, N, .inr (.inl (M.2.1 i))) := by
  unfold tk_ct
  rw [h.1]
  simp
theorem tk_ct_r {E : tk_E} {M : tk_M} {i c N : Nat} {kd : Nat → Nat ⊕ Nat} (h : tk_O i c N kd) (hc : ¬ c < 13) : tk_ct E M i = .inl (E.2.2.1 (c - 10), N, .inr (.inr (.inr (.inr (fun k => some (E.1 + tk_rn (kd k) (M.2.2 i k))))))) := by
  unfold tk_ct
  rw [h.1]
  simp [show ¬ c < 10 by omega, show ¬ c < 12 by omega, show ¬ c = 12 by omega]
theorem tk_fs_at {b : Nat} {M : tk_M} {i N k : Nat} (hk : k < N) : ((List.range N).map (tk_v b M i))[k]? = some (tk_v b M i k) := by
  rw [List.getElem?_map, List.getElem?_range hk]
  rfl
theorem tk_ct_set {E : tk_E} {M M' : tk_M} {i c N k : Nat} {kd : Nat → Nat ⊕ Nat} {v : Value} (h : tk_O i c N kd) (hc : c < 10) (hk : k < N) (hv : tk_v E.1 M' i k = v) (h1 : ∀ a b, ¬ (a = i ∧ b = k) → M'.1 a b = M.1 a b ∧ M'.2.1 a b = M.2.1 a b ∧ M'.2.2 a b = M.2.2 a b) :
    va_up (tk_ct E M) i (.inr (c, ((List.range N).map (tk_v E.1 M i)).set k v)) = tk_ct E M' := by
  funext a
  by_cases ha : a = i
  · subst ha
    rw [tk_ct_o h hc, show va_up (tk_ct E M) a (.inr (c, ((List.range N).map (tk_v E.1 M a)).set k v)) a = .inr (c, ((List.range N).map (tk_v E.1 M a)).set k v) by simp [va_up]]
    congr 2
    apply List.ext_getElem?
    intro j
    by_cases hj : j < N
    · rw [tk_fs_at hj]
      by_cases e : k = j
      · subst e
        rw [List.getElem?_set_self (by simpa using hj), hv]
      · rw [List.getElem?_set_ne e, tk_fs_at hj]
        obtain ⟨g1, g2, g3⟩ := h1 a j (fun z => e z.2.symm)
        unfold tk_v
        rw [g1, g2, g3]
    · rw [List.getElem?_eq_none (by simp; omega), List.getElem?_eq_none (by simp; omega)]
  · rw [show va_up (tk_ct E M) i (.inr (c, ((List.range N).map (tk_v E.1 M i)).set k v)) a = tk_ct E M a by simp [va_up, ha]]
    exact tk_ct_loc (fun b => (h1 a b (fun z => ha z.1)).1.symm) (fun b => (h1 a b (fun z => ha z.1)).2.1.symm) (fun b => (h1 a b (fun z => ha z.1)).2.2.symm)
theorem tk_ct_upd {E : tk_E} {M M' : tk_M} {i : Nat} {x : va_E} (hx : tk_ct E M' i = x) (h1 : ∀ a, a ≠ i → ∀ b, M'.1 a b = M.1 a b ∧ M'.2.1 a b = M.2.1 a b ∧ M'.2.2 a b = M.2.2 a b) : va_up (tk_ct E M) i x = tk_ct E M' := by
  funext a
  by_cases ha : a = i
  · subst ha
    rw [hx]
    simp [va_up]
  · rw [show va_up (tk_ct E M) i x a = tk_ct E M a by simp [va_up, ha]]
    exact tk_ct_loc (fun b => (h1 a ha b).1.symm) (fun b => (h1 a ha b).2.1.symm) (fun b => (h1 a ha b).2.2.symm)
theorem wI_self (M : tk_M) (i k : Nat) (v : Int32) : (wI M i k v).1 i = upd (M.1 i) k v := by
  funext j
  simp [wI, upd]
theorem wL_self (M : tk_M) (i k : Nat) (v : Int64) : (wL M i k v).2.1 i = vp_updL (M.2.1 i) k v := by
  funext j
  simp [wL, vp_updL]
-- families
theorem o_K : tk_O 0 0 7 tk_kK := ⟨rfl, by decide⟩
theorem o_zs : tk_O 1 13 4 (fun k => .inr (70 + 4 * k)) := ⟨rfl, by decide⟩
theorem o_js : tk_O 2 14 8 (fun k => .inr (86 + 7 * k)) := ⟨rfl, by decide⟩
theorem o_ss : tk_O 3 15 3 (fun k => .inr (142 + 10 * k)) := ⟨rfl, by decide⟩
theorem o_dk : tk_O 4 11 2 tk_k0 := ⟨rfl, by decide⟩
theorem o_ns : tk_O 5 16 8 (fun k => .inr (86 + 7 * k + 4)) := ⟨rfl, by decide⟩
theorem o_P : tk_O 6 1 4 tk_kP := ⟨rfl, by decide⟩
theorem o_row : tk_O 7 17 60 (fun _ => .inl 2) := ⟨rfl, by decide⟩
theorem o_L {i : Nat} (h1 : 8 ≤ i) (h2 : i < 70) : tk_O i 2 8 tk_k0 := by
  refine ⟨?_, by omega⟩
  unfold tk_sh
  rw [if_neg (by omega), if_pos h2]
theorem o_Zx {z r : Nat} (hz : z < 4) (hr : r < 4) : tk_sh (zN z + r) = tk_fZ (zN z + r) r := by
  unfold tk_sh zN
  rw [if_neg (by omega), if_neg (by omega), if_pos (by omega), show (70 + 4 * z + r - 70) % 4 = r by omega]
theorem o_Z {z : Nat} (hz : z < 4) : tk_O (zN z) 3 5 (tk_kZ (zN z)) := ⟨o_Zx hz (r := 0) (by omega), by unfold zN; omega⟩
theorem o_Z1 {z : Nat} (hz : z < 4) : tk_O (zN z + 1) 10 9 tk_k0 := ⟨o_Zx hz (r := 1) (by omega), by unfold zN; omega⟩
theorem o_Z2 {z : Nat} (hz : z < 4) : tk_O (zN z + 2) 10 9 tk_k0 := ⟨o_Zx hz (r := 2) (by omega), by unfold zN; omega⟩
theorem o_Z3 {z : Nat} (hz : z < 4) : tk_O (zN z + 3) 10 16 tk_k0 := ⟨o_Zx hz (r := 3) (by omega), by unfold zN; omega⟩
theorem o_Jx {j r : Nat} (hj : j < 8) (hr : r < 7) : tk_sh (jN j + r) = tk_fJ (jN j + r) r := by
  unfold tk_sh jN
  rw [if_neg (by omega), if_neg (by omega), if_neg (by omega), if_pos (by omega), show (86 + 7 * j + r - 86) % 7 = r by omega]
theorem o_J {j : Nat} (hj : j < 8) : tk_O (jN j) 4 9 (tk_kJ (jN j)) := ⟨o_Jx hj (r := 0) (by omega), by unfold jN; omega⟩
theorem o_J1 {j : Nat} (hj : j < 8) : tk_O (jN j + 1) 5 7 tk_kU := ⟨o_Jx hj (r := 1) (by omega), by unfold jN; omega⟩
theorem o_J2 {j : Nat} (hj : j < 8) : tk_O (jN j + 2) 10 8 tk_k0 := ⟨o_Jx hj (r := 2) (by omega), by unfold jN; omega⟩
theorem o_J3 {j : Nat} (hj : j < 8) : tk_O (jN j + 3) 11 8 tk_k0 := ⟨o_Jx hj (r := 3) (by omega), by unfold jN; omega⟩
theorem o_J4 {j : Nat} (hj : j < 8) : tk_O (jN j + 4) 6 4 (tk_kN (jN j + 4)) := ⟨o_Jx hj (r := 4) (by omega), by unfold jN; omega⟩
theorem o_J5 {j : Nat} (hj : j < 8) : tk_O (jN j + 4 + 1) 10 40 tk_k0 := ⟨o_Jx hj (r := 5) (by omega), by unfold jN; omega⟩
theorem o_J6 {j : Nat} (hj : j < 8) : tk_O (jN j + 4 + 2) 10 40 tk_k0 := ⟨o_Jx hj (r := 6) (by omega), by unfold jN; omega⟩
theorem o_Sx {s r : Nat} (hs : s < 3) (hr : r < 10) : tk_sh (142 + 10 * s + r) = tk_fS (142 + 10 * s + r) r := by
  unfold tk_sh
  rw [if_neg (by omega), if_neg (by omega), if_neg (by omega), if_neg (by omega), if_pos (by omega), show (142 + 10 * s + r - 142) % 10 = r by omega]
theorem o_S {s : Nat} (hs : s < 3) : tk_O (sN s) 7 2 (tk_kS (sN s)) := ⟨o_Sx hs (r := 0) (by omega), by unfold sN; omega⟩
theorem o_S1 {s : Nat} (hs : s < 3) : tk_O (sN s + 1) 18 8 (fun k => .inr (sN s + 1 + (k + 1))) := ⟨o_Sx hs (r := 1) (by omega), by unfold sN; omega⟩
theorem o_E {s j : Nat} (hs : s < 3) (hj : j < 8) : tk_O (eN s j) 8 9 tk_k0 := by
  refine ⟨?_, by unfold eN; omega⟩
  have h := o_Sx (s := s) (r := j + 2) hs (by omega)
  rw [show eN s j = 142 + 10 * s + (j + 2) by unfold eN; omega, h]
  rfl
theorem o_M : tk_O 172 9 43 tk_kM := ⟨rfl, by decide⟩
