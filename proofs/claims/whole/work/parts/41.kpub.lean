/-! the class's calls: clock, zones, rules -/
theorem fdp_ex (due : Int → Bool) (b : Int) : ∀ (k : Nat) (a : Int), b - a < k → ∃ r, FDP due a b r
  | 0, a, h => ⟨-1, Or.inl ⟨rfl, fun m h1 h2 h3 => by omega⟩⟩
  | k + 1, a, h => by
    by_cases hd : due a = true ∧ 0 ≤ a ∧ a ≤ b
    · exact ⟨a, Or.inr ⟨hd.1, Int.le_refl _, hd.2.1, hd.2.2, fun m h1 h2 h3 => by omega⟩⟩
    · obtain ⟨r, hr⟩ := fdp_ex due b k (a + 1) (by omega)
      have hno : 0 ≤ a → a ≤ b → due a = false := fun w1 w2 => by
        cases e : due a with
        | false => rfl
        | true => exact absurd ⟨e, w1, w2⟩ hd
      refine ⟨r, ?_⟩
      rcases hr with ⟨h1, h2⟩ | ⟨h1, h2, h3, h4, h5⟩
      · refine Or.inl ⟨h1, fun m g1 g2 g3 => ?_⟩
        by_cases e : m = a
        · rw [e]; exact hno (by omega) (by omega)
        · exact h2 m (by omega) g2 g3
      · refine Or.inr ⟨h1, by omega, h3, h4, fun m g1 g2 g3 => ?_⟩
        by_cases e : m = a
        · rw [e]; exact hno (by omega) (by omega)
        · exact h5 m (by omega) g2 g3
theorem ldp_ex (due : Int → Bool) (a : Int) : ∀ (k : Nat) (b : Int), b - a < k → ∃ r, LDP due a b r
  | 0, b, h => ⟨-1, Or.inl ⟨rfl, fun m h1 h2 h3 => by omega⟩⟩
  | k + 1, b, h => by
    by_cases hd : due b = true ∧ 0 ≤ b ∧ a ≤ b
    · exact ⟨b, Or.inr ⟨hd.1, hd.2.2, hd.2.1, Int.le_refl _, fun m h1 h2 => by omega⟩⟩
    · obtain ⟨r, hr⟩ := ldp_ex due a k (b - 1) (by omega)
      have hno : 0 ≤ b → a ≤ b → due b = false := fun w1 w2 => by
        cases e : due b with
        | false => rfl
        | true => exact absurd ⟨e, w1, w2⟩ hd
      refine ⟨r, ?_⟩
      rcases hr with ⟨h1, h2⟩ | ⟨h1, h2, h3, h4, h5⟩
      · refine Or.inl ⟨h1, fun m g1 g2 g3 => ?_⟩
        by_cases e : m = b
        · rw [e]; exact hno (by omega) (by omega)
        · exact h2 m g1 g2 (by omega)
      · refine Or.inr ⟨h1, h2, h3, by omega, fun m g1 g2 => ?_⟩
        by_cases e : m = b
        · rw [e]; exact hno (by omega) (by omega)
        · exact h5 m g1 (by omega)
theorem nx_spec (g : gJ) (nw bh : Int) : NXT g.2.1 g.1 (ewI g.2.1 g.2.2.1 bh nw) nw (nxI g nw bh) := by
  have e : ∃ r, NXT g.2.1 g.1 (ewI g.2.1 g.2.2.1 bh nw) nw r := by
    unfold NXT
    by_cases c : g.2.1 = 1
    · simp only [if_pos c]
      exact ldp_ex _ _ _ _ (Int.lt_of_lt_of_le (Int.lt_succ _) (Int.self_le_toNat (nw - ewI g.2.1 g.2.2.1 bh nw + 1)))
    · simp only [if_neg c]
      exact fdp_ex _ _ _ _ (Int.lt_of_lt_of_le (Int.lt_succ _) (Int.self_le_toNat (nw - ewI g.2.1 g.2.2.1 bh nw + 1)))
  obtain ⟨r, hr⟩ := e
  rw [nx_eq hr]
  exact hr
theorem nx_exd {g : gJ} {nw bh : Int} {x : Int32} (h : EXD g.1 (ewI g.2.1 g.2.2.1 bh nw) nw x) : x = b01 (!decide (nxI g nw bh = -1)) := by
  have s := nx_spec g nw bh
  rcases h with ⟨rfl, m, h1, h2, h3, h4⟩ | ⟨rfl, h1⟩
  · have : ¬ nxI g nw bh = -1 := by
      intro w
      rw [w] at s
      unfold NXT at s
      by_cases c : g.2.1 = 1
      · rw [if_pos c] at s
        rcases s with s | s
        · rw [s.2 m h1 h2 h3] at h4; cases h4
        · have := s.2.2.1; omega
      · rw [if_neg c] at s
        rcases s with s | s
        · rw [s.2 m h1 h2 h3] at h4; cases h4
        · have := s.2.2.1; omega
    rw [decide_eq_false this]; rfl
  · have : nxI g nw bh = -1 := nx_eq (by
      unfold NXT
      by_cases c : g.2.1 = 1
      · rw [if_pos c]; exact Or.inl ⟨rfl, h1⟩
      · rw [if_neg c]; exact Or.inl ⟨rfl, h1⟩)
    rw [decide_eq_true this]; rfl
theorem z_pt_I {M : tk_M} {z n : Nat} {st os : Nat → Int} (h : zo_m M z n st os) {x : Int} (h1 : -1 ≤ x) (h2 : x ≤ 52595999) : ∀ k, k ≤ n → z_pt M z (iI x) k = ptI st x k
  | 0, _ => rfl
  | k + 1, hk => by
    unfold z_pt ptI
    by_cases h0 : k = 0
    · rw [if_pos h0, if_pos h0]
    · rw [if_neg h0, if_neg h0, (h.2.2 k (by omega)).1, z_pt_I h h1 h2 k (by omega)]
      have := h.1.2.2.2.2.1 k (by omega)
      by_cases w : x < st k
      · rw [if_pos w, if_pos ((iI_lt (by omega) (by omega) (by omega) (by omega)).mpr w)]
      · rw [if_neg w, if_neg (fun v => w ((iI_lt (by omega) (by omega) (by omega) (by omega)).mp v))]
theorem ptI_lt (st : Nat → Int) (m : Int) : ∀ k, 0 < k → ptI st m k < k
  | 0, h => by omega
  | k + 1, _ => by
    unfold ptI
    by_cases h0 : k = 0
    · rw [if_pos h0]; omega
    · rw [if_neg h0]
      split
      · have := ptI_lt st m k (by omega)
        omega
      · omega
theorem z_loc_I {M : tk_M} {z n : Nat} {st os : Nat → Int} (h : zo_m M z n st os) {x : Int} (h1 : -1 ≤ x) (h2 : x ≤ 52595999) : z_loc M z n (iI x) = iI (x + os (ptI st x n)) := by
  unfold z_loc
  rw [z_pt_I h h1 h2 n (Nat.le_refl _), (h.2.2 _ (ptI_lt st x n (by have := h.1.1; omega))).2, iI_add]
/-- all of a job on the class's side -/
def calK (M : tk_M) (j : Nat) (g : gJ) : Prop := ∃ (z h ne n : Nat) (ρ : ru) (mv : Bool) (st os : Nat → Int), j_ok M j z h ρ mv ∧ zo_m M z n st os ∧ ne ≤ 8 ∧ M.1 (jN j) 4 = nI ne ∧ j_due M j z h ne n ρ mv st os = g.1 ∧ M.1 (jN j) 6 = nI g.2.1 ∧ g.2.1 ≤ 2 ∧ M.1 (jN j) 7 = iI g.2.2.1 ∧ 0 ≤ g.2.2.1 ∧ g.2.2.1 ≤ 100000 ∧ ∀ m, g.2.2.2 m = m + os (ptI st m n)
theorem FDP_at {due : Int → Bool} {a r : Int} (h : FDP due a a r) (h0 : 0 ≤ a) : due a = decide (r = a) := by
  rcases h with h | h
  · rw [h.2 a (by omega) h0 (by omega), decide_eq_false (by omega)]
  · have : r = a := by omega
    rw [decide_eq_true this, ← h.1, this]
set_option maxHeartbeats 4000000 in
set_option maxRecDepth 100000 in
theorem c_K_time {l : Launch} {E : tk_E} {M : tk_M} {x : Int32}  : tk_Mt l y_K_time b_K_time 2 (some .boolean) 0 E [.ref (E.1 + 0), .int (x)] M (if x < M.1 0 6 ∨ 52595999 < x then M else wI M 0 6 x) (some (.int (if x < M.1 0 6 ∨ 52595999 < x then 0 else 1))) := by
  refine tk_ofV (by decide +kernel) [some (.ref (E.1 + 0)), some (.int (x))] rfl (Nat.le_of_ble_eq_true rfl) ?_
  intro p e s m args below meth c cx hB
  refine v_iload_n cx (tk_dc d_K_time 0 rfl) rfl ?_
  refine v_aload_n cx (tk_dc d_K_time 1 rfl) rfl ?_
  refine v_getI cx (tk_dc d_K_time 2 rfl) f_K_44 o_K (by decide) (by rfl) ?_
  refine v_icmp_lt cx (tk_dc d_K_time 3 rfl) 14 (by decide) (fun h5 => ?_) (fun h5 => ?_)
  · refine v_iconst cx (tk_dc d_K_time 7 rfl) (0) (by decide) ?_
    exact v_zret cx hB (tk_dc d_K_time 8 rfl) (by first | exact Or.inl rfl | exact Or.inr rfl | exact b01_01 _ | assumption) (by simp [h5, Int32.not_le.mpr h5]) (by simp [h5, Int32.not_le.mpr h5])
  · refine v_iload_n cx (tk_dc d_K_time 4 rfl) rfl ?_
    refine v_ldc cx (tk_dc d_K_time 5 rfl) c_K_54 ?_
    refine v_icmp_le cx (tk_dc d_K_time 6 rfl) 16 (by decide) (fun h11 => ?_) (fun h11 => ?_)
    · refine v_aload_n cx (tk_dc d_K_time 9 rfl) rfl ?_
      refine v_iload_n cx (tk_dc d_K_time 10 rfl) rfl ?_
      refine v_putI cx (tk_dc d_K_time 11 rfl) f_K_44 o_K (by decide) (by rfl) ⟨rfl, rfl⟩ ?_
      refine v_iconst cx (tk_dc d_K_time 12 rfl) (1) (by decide) ?_
      exact v_zret cx hB (tk_dc d_K_time 13 rfl) (by first | exact Or.inl rfl | exact Or.inr rfl | exact b01_01 _ | assumption) (by simp [h5, Int32.not_lt.mp h5, h11, Int32.not_lt.mpr h11]) (by simp [h5, Int32.not_lt.mp h5, h11, Int32.not_lt.mpr h11])
    · refine v_iconst cx (tk_dc d_K_time 7 rfl) (0) (by decide) ?_
      exact v_zret cx hB (tk_dc d_K_time 8 rfl) (by first | exact Or.inl rfl | exact Or.inr rfl | exact b01_01 _ | assumption) (by simp [h5, Int32.not_lt.mp h5, h11, Int32.not_le.mp h11]) (by simp [h5, Int32.not_lt.mp h5, h11, Int32.not_le.mp h11])

set_option maxHeartbeats 4000000 in
set_option maxRecDepth 100000 in
theorem n_K_shift {l : Launch} {E : tk_E} {M : tk_M} {x y w : Int32} (hb : ¬ ((¬ x < 0 ∧ x < 4) ∧ (¬ y < 0 ∧ y ≤ 52595999) ∧ (¬ w < -900) ∧ (¬ 900 < w))) : tk_Mt l y_K_shift b_K_shift 4 (some .boolean) 1 E [.ref (E.1 + 0), .int (x), .int (y), .int (w)] M M (some (.int 0)) := by
  refine tk_ofV (by decide +kernel) [some (.ref (E.1 + 0)), some (.int (x)), some (.int (y)), some (.int (w))] rfl (Nat.le_of_ble_eq_true rfl) ?_
  intro p e s m args below meth c cx hB
  refine v_iload_n cx (tk_dc d_K_shift 0 rfl) rfl ?_
  refine v_callS (rest := _) cx (tk_dc d_K_shift 1 rfl) m_K_55 ks_K_isZone k_K_isZone (c_K_isZone) rfl rfl (Nat.le_of_ble_eq_true rfl) (by decide) ?_
  refine v_if_eq cx (tk_dc d_K_shift 2 rfl) 28 (by decide) (fun h4 => ?_) (fun h4 => ?_)
  · refine v_iconst cx (tk_dc d_K_shift 12 rfl) (0) (by decide) ?_
    exact v_zret cx hB (tk_dc d_K_shift 13 rfl) (by first | exact Or.inl rfl | exact Or.inr rfl | exact b01_01 _ | assumption) (rfl) (rfl)
  · refine v_iload_n cx (tk_dc d_K_shift 3 rfl) rfl ?_
    refine v_callS (rest := _) cx (tk_dc d_K_shift 4 rfl) m_K_59 ks_K_isMinute k_K_isMinute (c_K_isMinute) rfl rfl (Nat.le_of_ble_eq_true rfl) (by decide) ?_
    refine v_if_eq cx (tk_dc d_K_shift 5 rfl) 28 (by decide) (fun h11 => ?_) (fun h11 => ?_)
    · refine v_iconst cx (tk_dc d_K_shift 12 rfl) (0) (by decide) ?_
      exact v_zret cx hB (tk_dc d_K_shift 13 rfl) (by first | exact Or.inl rfl | exact Or.inr rfl | exact b01_01 _ | assumption) (rfl) (rfl)
    · refine v_iload_n cx (tk_dc d_K_shift 6 rfl) rfl ?_
      refine v_sipush cx (tk_dc d_K_shift 7 rfl) (-900) (by decide) ?_
      refine v_icmp_lt cx (tk_dc d_K_shift 8 rfl) 28 (by decide) (fun h18 => ?_) (fun h18 => ?_)
      · refine v_iconst cx (tk_dc d_K_shift 12 rfl) (0) (by decide) ?_
        exact v_zret cx hB (tk_dc d_K_shift 13 rfl) (by first | exact Or.inl rfl | exact Or.inr rfl | exact b01_01 _ | assumption) (rfl) (rfl)
      · refine v_iload_n cx (tk_dc d_K_shift 9 rfl) rfl ?_
        refine v_sipush cx (tk_dc d_K_shift 10 rfl) (900) (by decide) ?_
        refine v_icmp_le cx (tk_dc d_K_shift 11 rfl) 30 (by decide) (fun h25 => ?_) (fun h25 => ?_)
        · exact absurd ⟨of_decide_eq_true (b01_nz h4), of_decide_eq_true (b01_nz h11), h18, Int32.not_lt.mpr h25⟩ hb
        · refine v_iconst cx (tk_dc d_K_shift 12 rfl) (0) (by decide) ?_
          exact v_zret cx hB (tk_dc d_K_shift 13 rfl) (by first | exact Or.inl rfl | exact Or.inr rfl | exact b01_01 _ | assumption) (rfl) (rfl)

set_option maxHeartbeats 4000000 in
set_option maxRecDepth 100000 in
theorem c_K_shift {l : Launch} {E : tk_E} {M : tk_M} {z n : Nat} {a b : Int} (hz : z < 4) (h1 : 0 ≤ a) (h2 : a ≤ 52595999) (h3 : -900 ≤ b) (h4 : b ≤ 900) (hn1 : 1 ≤ n) (hn9 : n ≤ 9) (hn : M.1 (zN z) 3 = nI n) : tk_Mt l y_K_shift b_K_shift 4 (some .boolean) 1 E [.ref (E.1 + 0), .int (nI z), .int (iI a), .int (iI b)] M (if 9 ≤ n ∨ (1 < n ∧ iI a ≤ M.1 (zN z + 1) (n - 1)) then M else z_ash M z n (iI a) (iI b)) (some (.int (if 9 ≤ n ∨ (1 < n ∧ iI a ≤ M.1 (zN z + 1) (n - 1)) then 0 else 1))) := by
  refine tk_ofV (by decide +kernel) [some (.ref (E.1 + 0)), some (.int (nI z)), some (.int (iI a)), some (.int (iI b))] rfl (Nat.le_of_ble_eq_true rfl) ?_
  intro p e s m args below meth c cx hB
  refine v_iload_n cx (tk_dc d_K_shift 0 rfl) rfl ?_
  refine v_callS (rest := _) cx (tk_dc d_K_shift 1 rfl) m_K_55 ks_K_isZone k_K_isZone (c_K_isZone) rfl rfl (Nat.le_of_ble_eq_true rfl) (by decide) ?_
  refine v_if_eq cx (tk_dc d_K_shift 2 rfl) 28 (by decide) (fun h => absurd h (b01_d (inN (n := 4) (by decide) hz))) (fun _ => ?_)
  refine v_iload_n cx (tk_dc d_K_shift 3 rfl) rfl ?_
  refine v_callS (rest := _) cx (tk_dc d_K_shift 4 rfl) m_K_59 ks_K_isMinute k_K_isMinute (c_K_isMinute) rfl rfl (Nat.le_of_ble_eq_true rfl) (by decide) ?_
  refine v_if_eq cx (tk_dc d_K_shift 5 rfl) 28 (by decide) (fun h => absurd h (b01_d (inM h1 h2))) (fun _ => ?_)
  refine v_iload_n cx (tk_dc d_K_shift 6 rfl) rfl ?_
  refine v_sipush cx (tk_dc d_K_shift 7 rfl) (-900) (by decide) ?_
  refine v_icmp_lt cx (tk_dc d_K_shift 8 rfl) 28 (by decide) (fun h => absurd h (fun q => absurd ((iI_lt (b := -900) (by omega) (by omega) (by omega) (by omega)).mp q) (by omega))) (fun _ => ?_)
  refine v_iload_n cx (tk_dc d_K_shift 9 rfl) rfl ?_
  refine v_sipush cx (tk_dc d_K_shift 10 rfl) (900) (by decide) ?_
  refine v_icmp_le cx (tk_dc d_K_shift 11 rfl) 30 (by decide) (fun _ => ?_) (fun h => absurd ((iI_le (b := 900) (by omega) (by omega) (by omega) (by omega)).mpr h4) h)
  refine v_aload_n cx (tk_dc d_K_shift 14 rfl) rfl ?_
  refine v_getC cx 1 (tk_dc d_K_shift 15 rfl) f_K_11 o_K (by decide) (by rfl) ?_
  refine v_iload_n cx (tk_dc d_K_shift 16 rfl) rfl ?_
  refine w_aald cx (zN z) (tk_dc d_K_shift 17 rfl) o_zs z (rfl) (by omega) (by decide) (rfl) ?_
  refine v_iload_n cx (tk_dc d_K_shift 18 rfl) rfl ?_
  refine v_iload_n cx (tk_dc d_K_shift 19 rfl) rfl ?_
  refine v_callV (rest := _) cx (tk_dc d_K_shift 20 rfl) m_K_62 kn_Z_addShift kv_Z_addShift k_Z_addShift (o_Z (by assumption)) (by decide) rfl (c_Z_addShift hz hn1 hn9 hn) rfl rfl (Nat.le_of_ble_eq_true rfl) (by decide) ?_
  exact v_zret cx hB (tk_dc d_K_shift 21 rfl) (by split; (exact Or.inl rfl); exact Or.inr rfl) (rfl) (rfl)

set_option maxHeartbeats 4000000 in
set_option maxRecDepth 100000 in
theorem n_K_holiday {l : Launch} {E : tk_E} {M : tk_M} {x y : Int32} (hb : ¬ ((¬ x < 0 ∧ x < 4) ∧ (¬ y < 0) ∧ (¬ 36524 < y))) : tk_Mt l y_K_holiday b_K_holiday 3 (some .boolean) 2 E [.ref (E.1 + 0), .int (x), .int (y)] M M (some (.int 0)) := by
  refine tk_ofV (by decide +kernel) [some (.ref (E.1 + 0)), some (.int (x)), some (.int (y))] rfl (Nat.le_of_ble_eq_true rfl) ?_
  intro p e s m args below meth c cx hB
  refine v_iload_n cx (tk_dc d_K_holiday 0 rfl) rfl ?_
  refine v_callS (rest := _) cx (tk_dc d_K_holiday 1 rfl) m_K_55 ks_K_isZone k_K_isZone (c_K_isZone) rfl rfl (Nat.le_of_ble_eq_true rfl) (by decide) ?_
  refine v_if_eq cx (tk_dc d_K_holiday 2 rfl) 17 (by decide) (fun h4 => ?_) (fun h4 => ?_)
  · refine v_iconst cx (tk_dc d_K_holiday 8 rfl) (0) (by decide) ?_
    exact v_zret cx hB (tk_dc d_K_holiday 9 rfl) (by first | exact Or.inl rfl | exact Or.inr rfl | exact b01_01 _ | assumption) (rfl) (rfl)
  · refine v_iload_n cx (tk_dc d_K_holiday 3 rfl) rfl ?_
    refine v_if_lt cx (tk_dc d_K_holiday 4 rfl) 17 (by decide) (fun h8 => ?_) (fun h8 => ?_)
    · refine v_iconst cx (tk_dc d_K_holiday 8 rfl) (0) (by decide) ?_
      exact v_zret cx hB (tk_dc d_K_holiday 9 rfl) (by first | exact Or.inl rfl | exact Or.inr rfl | exact b01_01 _ | assumption) (rfl) (rfl)
    · refine v_iload_n cx (tk_dc d_K_holiday 5 rfl) rfl ?_
      refine v_ldc cx (tk_dc d_K_holiday 6 rfl) c_K_66 ?_
      refine v_icmp_le cx (tk_dc d_K_holiday 7 rfl) 19 (by decide) (fun h14 => ?_) (fun h14 => ?_)
      · exact absurd ⟨of_decide_eq_true (b01_nz h4), h8, Int32.not_lt.mpr h14⟩ hb
      · refine v_iconst cx (tk_dc d_K_holiday 8 rfl) (0) (by decide) ?_
        exact v_zret cx hB (tk_dc d_K_holiday 9 rfl) (by first | exact Or.inl rfl | exact Or.inr rfl | exact b01_01 _ | assumption) (rfl) (rfl)

set_option maxHeartbeats 4000000 in
set_option maxRecDepth 100000 in
theorem c_K_holiday {l : Launch} {E : tk_E} {M : tk_M} {z h : Nat} {y : Int32} (hz : z < 4) (h1 : ¬ y < 0) (h2 : ¬ 36524 < y) (hh : h ≤ 16) (hc : M.1 (zN z) 4 = nI h) : tk_Mt l y_K_holiday b_K_holiday 3 (some .boolean) 2 E [.ref (E.1 + 0), .int (nI z), .int (y)] M (if h = 16 ∨ z_hol M z h y = true then M else z_ahd M z h y) (some (.int (if h = 16 ∨ z_hol M z h y = true then 0 else 1))) := by
  refine tk_ofV (by decide +kernel) [some (.ref (E.1 + 0)), some (.int (nI z)), some (.int (y))] rfl (Nat.le_of_ble_eq_true rfl) ?_
  intro p e s m args below meth c cx hB
  refine v_iload_n cx (tk_dc d_K_holiday 0 rfl) rfl ?_
  refine v_callS (rest := _) cx (tk_dc d_K_holiday 1 rfl) m_K_55 ks_K_isZone k_K_isZone (c_K_isZone) rfl rfl (Nat.le_of_ble_eq_true rfl) (by decide) ?_
  refine v_if_eq cx (tk_dc d_K_holiday 2 rfl) 17 (by decide) (fun h => absurd h (b01_d (inN (n := 4) (by decide) hz))) (fun _ => ?_)
  refine v_iload_n cx (tk_dc d_K_holiday 3 rfl) rfl ?_
  refine v_if_lt cx (tk_dc d_K_holiday 4 rfl) 17 (by decide) (fun h => absurd h (h1)) (fun _ => ?_)
  refine v_iload_n cx (tk_dc d_K_holiday 5 rfl) rfl ?_
  refine v_ldc cx (tk_dc d_K_holiday 6 rfl) c_K_66 ?_
  refine v_icmp_le cx (tk_dc d_K_holiday 7 rfl) 19 (by decide) (fun _ => ?_) (fun h => absurd (Int32.not_lt.mp h2) h)
  refine v_aload_n cx (tk_dc d_K_holiday 10 rfl) rfl ?_
  refine v_getC cx 1 (tk_dc d_K_holiday 11 rfl) f_K_11 o_K (by decide) (by rfl) ?_
  refine v_iload_n cx (tk_dc d_K_holiday 12 rfl) rfl ?_
  refine w_aald cx (zN z) (tk_dc d_K_holiday 13 rfl) o_zs z (rfl) (by omega) (by decide) (rfl) ?_
  refine v_iload_n cx (tk_dc d_K_holiday 14 rfl) rfl ?_
  refine v_callV (rest := _) cx (tk_dc d_K_holiday 15 rfl) m_K_67 kn_Z_addHoliday kv_Z_addHoliday k_Z_addHoliday (o_Z (by assumption)) (by decide) rfl (c_Z_addHoliday hz hh hc) rfl rfl (Nat.le_of_ble_eq_true rfl) (by decide) ?_
  exact v_zret cx hB (tk_dc d_K_holiday 16 rfl) (by split; (exact Or.inl rfl); exact Or.inr rfl) (rfl) (rfl)

set_option maxHeartbeats 4000000 in
set_option maxRecDepth 100000 in
theorem n_K_local {l : Launch} {E : tk_E} {M : tk_M} {x y : Int32} (hb : ¬ ((¬ x < 0 ∧ x < 4) ∧ ¬ y < 0 ∧ y ≤ 52595999)) : tk_Mt l y_K_local b_K_local 3 (some .int) 1 E [.ref (E.1 + 0), .int (x), .int (y)] M M (some (.int (-1))) := by
  refine tk_ofV (by decide +kernel) [some (.ref (E.1 + 0)), some (.int (x)), some (.int (y))] rfl (Nat.le_of_ble_eq_true rfl) ?_
  intro p e s m args below meth c cx hB
  refine v_iload_n cx (tk_dc d_K_local 0 rfl) rfl ?_
  refine v_callS (rest := _) cx (tk_dc d_K_local 1 rfl) m_K_55 ks_K_isZone k_K_isZone (c_K_isZone) rfl rfl (Nat.le_of_ble_eq_true rfl) (by decide) ?_
  refine v_if_eq cx (tk_dc d_K_local 2 rfl) 27 (by decide) (fun h4 => ?_) (fun h4 => ?_)
  · refine v_iconst cx (tk_dc d_K_local 13 rfl) (-1) (by decide) ?_
    exact v_iret cx hB (tk_dc d_K_local 14 rfl) (rfl) (rfl)
  · refine v_iload_n cx (tk_dc d_K_local 3 rfl) rfl ?_
    refine v_callS (rest := _) cx (tk_dc d_K_local 4 rfl) m_K_59 ks_K_isMinute k_K_isMinute (c_K_isMinute) rfl rfl (Nat.le_of_ble_eq_true rfl) (by decide) ?_
    refine v_if_eq cx (tk_dc d_K_local 5 rfl) 27 (by decide) (fun h11 => ?_) (fun h11 => ?_)
    · refine v_iconst cx (tk_dc d_K_local 13 rfl) (-1) (by decide) ?_
      exact v_iret cx hB (tk_dc d_K_local 14 rfl) (rfl) (rfl)
    · exact absurd ⟨of_decide_eq_true (b01_nz h4), of_decide_eq_true (b01_nz h11)⟩ hb

set_option maxHeartbeats 4000000 in
set_option maxRecDepth 100000 in
theorem c_K_local {l : Launch} {E : tk_E} {M : tk_M} {z n : Nat} {st os : Nat → Int} {a : Int} (hz : z < 4) (h1 : 0 ≤ a) (h2 : a ≤ 52595999) (Z : zo_m M z n st os) : tk_Mt l y_K_local b_K_local 3 (some .int) 1 E [.ref (E.1 + 0), .int (nI z), .int (iI a)] M M (some (.int (iI (a + os (ptI st a n))))) := by
  refine tk_ofV (by decide +kernel) [some (.ref (E.1 + 0)), some (.int (nI z)), some (.int (iI a))] rfl (Nat.le_of_ble_eq_true rfl) ?_
  intro p e s m args below meth c cx hB
  refine v_iload_n cx (tk_dc d_K_local 0 rfl) rfl ?_
  refine v_callS (rest := _) cx (tk_dc d_K_local 1 rfl) m_K_55 ks_K_isZone k_K_isZone (c_K_isZone) rfl rfl (Nat.le_of_ble_eq_true rfl) (by decide) ?_
  refine v_if_eq cx (tk_dc d_K_local 2 rfl) 27 (by decide) (fun h => absurd h (b01_d (inN (n := 4) (by decide) hz))) (fun _ => ?_)
  refine v_iload_n cx (tk_dc d_K_local 3 rfl) rfl ?_
  refine v_callS (rest := _) cx (tk_dc d_K_local 4 rfl) m_K_59 ks_K_isMinute k_K_isMinute (c_K_isMinute) rfl rfl (Nat.le_of_ble_eq_true rfl) (by decide) ?_
  refine v_if_eq cx (tk_dc d_K_local 5 rfl) 27 (by decide) (fun h => absurd h (b01_d (inM h1 h2))) (fun _ => ?_)
  refine v_aload_n cx (tk_dc d_K_local 6 rfl) rfl ?_
  refine v_getC cx 1 (tk_dc d_K_local 7 rfl) f_K_11 o_K (by decide) (by rfl) ?_
  refine v_iload_n cx (tk_dc d_K_local 8 rfl) rfl ?_
  refine w_aald cx (zN z) (tk_dc d_K_local 9 rfl) o_zs z (rfl) (by omega) (by decide) (rfl) ?_
  refine v_iload_n cx (tk_dc d_K_local 10 rfl) rfl ?_
  refine v_callV (rest := _) cx (tk_dc d_K_local 11 rfl) m_K_70 kn_Z_localMinute kv_Z_localMinute k_Z_localMinute (o_Z (by assumption)) (by decide) rfl (c_Z_localMinute hz Z.1.1 Z.1.2.1 Z.2.1) rfl rfl (Nat.le_of_ble_eq_true rfl) (by decide) ?_
  refine v_goto cx (tk_dc d_K_local 12 rfl) 28 (by decide) ?_
  exact v_iret cx hB (tk_dc d_K_local 14 rfl) (z_loc_I Z (by omega) h2) (rfl)

set_option maxHeartbeats 4000000 in
set_option maxRecDepth 100000 in
theorem n_K_mask {l : Launch} {E : tk_E} {M : tk_M} {x y w v : Int32} (hb : ¬ ((¬ x < 0 ∧ x < 8) ∧ (¬ y < 0) ∧ (y ≤ 4))) : tk_Mt l y_K_mask b_K_mask 5 (some .boolean) 1 E [.ref (E.1 + 0), .int (x), .int (y), .int (w), .int (v)] M M (some (.int 0)) := by
  refine tk_ofV (by decide +kernel) [some (.ref (E.1 + 0)), some (.int (x)), some (.int (y)), some (.int (w)), some (.int (v))] rfl (Nat.le_of_ble_eq_true rfl) ?_
  intro p e s m args below meth c cx hB
  refine v_iload_n cx (tk_dc d_K_mask 0 rfl) rfl ?_
  refine v_callS (rest := _) cx (tk_dc d_K_mask 1 rfl) m_K_74 ks_K_isJob k_K_isJob (c_K_isJob) rfl rfl (Nat.le_of_ble_eq_true rfl) (by decide) ?_
  refine v_if_eq cx (tk_dc d_K_mask 2 rfl) 30 (by decide) (fun h4 => ?_) (fun h4 => ?_)
  · refine v_iconst cx (tk_dc d_K_mask 15 rfl) (0) (by decide) ?_
    exact v_zret cx hB (tk_dc d_K_mask 16 rfl) (by first | exact Or.inl rfl | exact Or.inr rfl | exact b01_01 _ | assumption) (rfl) (rfl)
  · obtain ⟨j, hj, rfl⟩ := exN (n := 8) (by decide) (of_decide_eq_true (b01_nz h4))
    refine v_aload_n cx (tk_dc d_K_mask 3 rfl) rfl ?_
    refine v_getC cx 2 (tk_dc d_K_mask 4 rfl) f_K_17 o_K (by decide) (by rfl) ?_
    refine v_iload_n cx (tk_dc d_K_mask 5 rfl) rfl ?_
    refine w_aald cx (jN j) (tk_dc d_K_mask 6 rfl) o_js j (rfl) (by omega) (by decide) (rfl) ?_
    refine v_getC cx (jN _ + 1) (tk_dc d_K_mask 7 rfl) f_K_77 (o_J (by assumption)) (by decide) (by rfl) ?_
    refine v_iload_n cx (tk_dc d_K_mask 8 rfl) rfl ?_
    refine v_iload_n cx (tk_dc d_K_mask 9 rfl) rfl ?_
    refine v_iload cx (tk_dc d_K_mask 10 rfl) rfl ?_
    refine v_callV (rest := _) cx (tk_dc d_K_mask 11 rfl) m_K_81 kn_U_changeMask kv_U_changeMask k_U_changeMask (o_J1 (by assumption)) (by decide) rfl (c_U_changeMask hj) rfl rfl (Nat.le_of_ble_eq_true rfl) (by decide) ?_
    have hy : y < 0 ∨ nI 5 ≤ y := by
      by_cases w1 : y < 0
      · exact Or.inl w1
      · exact Or.inr (by rw [Int32.le_iff_toInt_le]; have w2 : ¬ y ≤ 4 := fun w2 => hb ⟨inN (by decide) hj, w1, w2⟩; rw [Int32.le_iff_toInt_le] at w2; exact Int.not_le.mp w2)
    have e0 : (if y < 0 then (0 : Int32) else if nI 5 ≤ y then 0 else 1) = 0 := by rcases hy with q | q; (rw [if_pos q]); (split <;> rfl)
    refine v_if_eq cx (tk_dc d_K_mask 12 rfl) 30 (by decide) (fun _ => ?_) (fun h => absurd (e0) h)
    refine v_iconst cx (tk_dc d_K_mask 15 rfl) (0) (by decide) ?_
    exact v_zret cx hB (tk_dc d_K_mask 16 rfl) (by first | exact Or.inl rfl | exact Or.inr rfl | exact b01_01 _ | assumption) (rfl) (by unfold u_msk; rcases hy with q | q; (rw [if_pos q]); (split <;> rfl))

set_option maxHeartbeats 4000000 in
set_option maxRecDepth 100000 in
theorem c_K_mask0 {l : Launch} {E : tk_E} {M : tk_M} {j : Nat} {w v : Int32} (hj : j < 8) : tk_Mt l y_K_mask b_K_mask 5 (some .boolean) 1 E [.ref (E.1 + 0), .int (nI j), .int (nI 0), .int (w), .int (v)] M (u_msk M (jN j + 1) (nI 0) w v) (some (.int 1)) := by
  refine tk_ofV (by decide +kernel) [some (.ref (E.1 + 0)), some (.int (nI j)), some (.int (nI 0)), some (.int (w)), some (.int (v))] rfl (Nat.le_of_ble_eq_true rfl) ?_
  intro p e s m args below meth c cx hB
  refine v_iload_n cx (tk_dc d_K_mask 0 rfl) rfl ?_
  refine v_callS (rest := _) cx (tk_dc d_K_mask 1 rfl) m_K_74 ks_K_isJob k_K_isJob (c_K_isJob) rfl rfl (Nat.le_of_ble_eq_true rfl) (by decide) ?_
  refine v_if_eq cx (tk_dc d_K_mask 2 rfl) 30 (by decide) (fun h => absurd h (b01_d (inN (n := 8) (by decide) hj))) (fun _ => ?_)
  refine v_aload_n cx (tk_dc d_K_mask 3 rfl) rfl ?_
  refine v_getC cx 2 (tk_dc d_K_mask 4 rfl) f_K_17 o_K (by decide) (by rfl) ?_
  refine v_iload_n cx (tk_dc d_K_mask 5 rfl) rfl ?_
  refine w_aald cx (jN j) (tk_dc d_K_mask 6 rfl) o_js j (rfl) (by omega) (by decide) (rfl) ?_
  refine v_getC cx (jN _ + 1) (tk_dc d_K_mask 7 rfl) f_K_77 (o_J (by assumption)) (by decide) (by rfl) ?_
  refine v_iload_n cx (tk_dc d_K_mask 8 rfl) rfl ?_
  refine v_iload_n cx (tk_dc d_K_mask 9 rfl) rfl ?_
  refine v_iload cx (tk_dc d_K_mask 10 rfl) rfl ?_
  refine v_callV (rest := _) cx (tk_dc d_K_mask 11 rfl) m_K_81 kn_U_changeMask kv_U_changeMask k_U_changeMask (o_J1 (by assumption)) (by decide) rfl (c_U_changeMask hj) rfl rfl (Nat.le_of_ble_eq_true rfl) (by decide) ?_
  refine v_if_eq cx (tk_dc d_K_mask 12 rfl) 30 (by decide) (fun h => absurd h (by decide)) (fun _ => ?_)
  refine v_iconst cx (tk_dc d_K_mask 13 rfl) (1) (by decide) ?_
  refine v_goto cx (tk_dc d_K_mask 14 rfl) 31 (by decide) ?_
  exact v_zret cx hB (tk_dc d_K_mask 16 rfl) (by first | exact Or.inl rfl | exact Or.inr rfl | exact b01_01 _ | assumption) (rfl) (rfl)

set_option maxHeartbeats 4000000 in
set_option maxRecDepth 100000 in
theorem c_K_mask1 {l : Launch} {E : tk_E} {M : tk_M} {j : Nat} {w v : Int32} (hj : j < 8) : tk_Mt l y_K_mask b_K_mask 5 (some .boolean) 1 E [.ref (E.1 + 0), .int (nI j), .int (nI 1), .int (w), .int (v)] M (u_msk M (jN j + 1) (nI 1) w v) (some (.int 1)) := by
  refine tk_ofV (by decide +kernel) [some (.ref (E.1 + 0)), some (.int (nI j)), some (.int (nI 1)), some (.int (w)), some (.int (v))] rfl (Nat.le_of_ble_eq_true rfl) ?_
  intro p e s m args below meth c cx hB
  refine v_iload_n cx (tk_dc d_K_mask 0 rfl) rfl ?_
  refine v_callS (rest := _) cx (tk_dc d_K_mask 1 rfl) m_K_74 ks_K_isJob k_K_isJob (c_K_isJob) rfl rfl (Nat.le_of_ble_eq_true rfl) (by decide) ?_
  refine v_if_eq cx (tk_dc d_K_mask 2 rfl) 30 (by decide) (fun h => absurd h (b01_d (inN (n := 8) (by decide) hj))) (fun _ => ?_)
  refine v_aload_n cx (tk_dc d_K_mask 3 rfl) rfl ?_
  refine v_getC cx 2 (tk_dc d_K_mask 4 rfl) f_K_17 o_K (by decide) (by rfl) ?_
  refine v_iload_n cx (tk_dc d_K_mask 5 rfl) rfl ?_
  refine w_aald cx (jN j) (tk_dc d_K_mask 6 rfl) o_js j (rfl) (by omega) (by decide) (rfl) ?_
  refine v_getC cx (jN _ + 1) (tk_dc d_K_mask 7 rfl) f_K_77 (o_J (by assumption)) (by decide) (by rfl) ?_
  refine v_iload_n cx (tk_dc d_K_mask 8 rfl) rfl ?_
  refine v_iload_n cx (tk_dc d_K_mask 9 rfl) rfl ?_
  refine v_iload cx (tk_dc d_K_mask 10 rfl) rfl ?_
  refine v_callV (rest := _) cx (tk_dc d_K_mask 11 rfl) m_K_81 kn_U_changeMask kv_U_changeMask k_U_changeMask (o_J1 (by assumption)) (by decide) rfl (c_U_changeMask hj) rfl rfl (Nat.le_of_ble_eq_true rfl) (by decide) ?_
  refine v_if_eq cx (tk_dc d_K_mask 12 rfl) 30 (by decide) (fun h => absurd h (by decide)) (fun _ => ?_)
  refine v_iconst cx (tk_dc d_K_mask 13 rfl) (1) (by decide) ?_
  refine v_goto cx (tk_dc d_K_mask 14 rfl) 31 (by decide) ?_
  exact v_zret cx hB (tk_dc d_K_mask 16 rfl) (by first | exact Or.inl rfl | exact Or.inr rfl | exact b01_01 _ | assumption) (rfl) (rfl)

set_option maxHeartbeats 4000000 in
set_option maxRecDepth 100000 in
theorem c_K_mask2 {l : Launch} {E : tk_E} {M : tk_M} {j : Nat} {w v : Int32} (hj : j < 8) : tk_Mt l y_K_mask b_K_mask 5 (some .boolean) 1 E [.ref (E.1 + 0), .int (nI j), .int (nI 2), .int (w), .int (v)] M (u_msk M (jN j + 1) (nI 2) w v) (some (.int 1)) := by
  refine tk_ofV (by decide +kernel) [some (.ref (E.1 + 0)), some (.int (nI j)), some (.int (nI 2)), some (.int (w)), some (.int (v))] rfl (Nat.le_of_ble_eq_true rfl) ?_
  intro p e s m args below meth c cx hB
  refine v_iload_n cx (tk_dc d_K_mask 0 rfl) rfl ?_
  refine v_callS (rest := _) cx (tk_dc d_K_mask 1 rfl) m_K_74 ks_K_isJob k_K_isJob (c_K_isJob) rfl rfl (Nat.le_of_ble_eq_true rfl) (by decide) ?_
  refine v_if_eq cx (tk_dc d_K_mask 2 rfl) 30 (by decide) (fun h => absurd h (b01_d (inN (n := 8) (by decide) hj))) (fun _ => ?_)
  refine v_aload_n cx (tk_dc d_K_mask 3 rfl) rfl ?_
  refine v_getC cx 2 (tk_dc d_K_mask 4 rfl) f_K_17 o_K (by decide) (by rfl) ?_
  refine v_iload_n cx (tk_dc d_K_mask 5 rfl) rfl ?_
  refine w_aald cx (jN j) (tk_dc d_K_mask 6 rfl) o_js j (rfl) (by omega) (by decide) (rfl) ?_
  refine v_getC cx (jN _ + 1) (tk_dc d_K_mask 7 rfl) f_K_77 (o_J (by assumption)) (by decide) (by rfl) ?_
  refine v_iload_n cx (tk_dc d_K_mask 8 rfl) rfl ?_
  refine v_iload_n cx (tk_dc d_K_mask 9 rfl) rfl ?_
  refine v_iload cx (tk_dc d_K_mask 10 rfl) rfl ?_
  refine v_callV (rest := _) cx (tk_dc d_K_mask 11 rfl) m_K_81 kn_U_changeMask kv_U_changeMask k_U_changeMask (o_J1 (by assumption)) (by decide) rfl (c_U_changeMask hj) rfl rfl (Nat.le_of_ble_eq_true rfl) (by decide) ?_
  refine v_if_eq cx (tk_dc d_K_mask 12 rfl) 30 (by decide) (fun h => absurd h (by decide)) (fun _ => ?_)
  refine v_iconst cx (tk_dc d_K_mask 13 rfl) (1) (by decide) ?_
  refine v_goto cx (tk_dc d_K_mask 14 rfl) 31 (by decide) ?_
  exact v_zret cx hB (tk_dc d_K_mask 16 rfl) (by first | exact Or.inl rfl | exact Or.inr rfl | exact b01_01 _ | assumption) (rfl) (rfl)

set_option maxHeartbeats 4000000 in
set_option maxRecDepth 100000 in
theorem c_K_mask3 {l : Launch} {E : tk_E} {M : tk_M} {j : Nat} {w v : Int32} (hj : j < 8) : tk_Mt l y_K_mask b_K_mask 5 (some .boolean) 1 E [.ref (E.1 + 0), .int (nI j), .int (nI 3), .int (w), .int (v)] M (u_msk M (jN j + 1) (nI 3) w v) (some (.int 1)) := by
  refine tk_ofV (by decide +kernel) [some (.ref (E.1 + 0)), some (.int (nI j)), some (.int (nI 3)), some (.int (w)), some (.int (v))] rfl (Nat.le_of_ble_eq_true rfl) ?_
  intro p e s m args below meth c cx hB
  refine v_iload_n cx (tk_dc d_K_mask 0 rfl) rfl ?_
  refine v_callS (rest := _) cx (tk_dc d_K_mask 1 rfl) m_K_74 ks_K_isJob k_K_isJob (c_K_isJob) rfl rfl (Nat.le_of_ble_eq_true rfl) (by decide) ?_
  refine v_if_eq cx (tk_dc d_K_mask 2 rfl) 30 (by decide) (fun h => absurd h (b01_d (inN (n := 8) (by decide) hj))) (fun _ => ?_)
  refine v_aload_n cx (tk_dc d_K_mask 3 rfl) rfl ?_
  refine v_getC cx 2 (tk_dc d_K_mask 4 rfl) f_K_17 o_K (by decide) (by rfl) ?_
  refine v_iload_n cx (tk_dc d_K_mask 5 rfl) rfl ?_
  refine w_aald cx (jN j) (tk_dc d_K_mask 6 rfl) o_js j (rfl) (by omega) (by decide) (rfl) ?_
  refine v_getC cx (jN _ + 1) (tk_dc d_K_mask 7 rfl) f_K_77 (o_J (by assumption)) (by decide) (by rfl) ?_
  refine v_iload_n cx (tk_dc d_K_mask 8 rfl) rfl ?_
  refine v_iload_n cx (tk_dc d_K_mask 9 rfl) rfl ?_
  refine v_iload cx (tk_dc d_K_mask 10 rfl) rfl ?_
  refine v_callV (rest := _) cx (tk_dc d_K_mask 11 rfl) m_K_81 kn_U_changeMask kv_U_changeMask k_U_changeMask (o_J1 (by assumption)) (by decide) rfl (c_U_changeMask hj) rfl rfl (Nat.le_of_ble_eq_true rfl) (by decide) ?_
  refine v_if_eq cx (tk_dc d_K_mask 12 rfl) 30 (by decide) (fun h => absurd h (by decide)) (fun _ => ?_)
  refine v_iconst cx (tk_dc d_K_mask 13 rfl) (1) (by decide) ?_
  refine v_goto cx (tk_dc d_K_mask 14 rfl) 31 (by decide) ?_
  exact v_zret cx hB (tk_dc d_K_mask 16 rfl) (by first | exact Or.inl rfl | exact Or.inr rfl | exact b01_01 _ | assumption) (rfl) (rfl)

set_option maxHeartbeats 4000000 in
set_option maxRecDepth 100000 in
theorem c_K_mask4 {l : Launch} {E : tk_E} {M : tk_M} {j : Nat} {w v : Int32} (hj : j < 8) : tk_Mt l y_K_mask b_K_mask 5 (some .boolean) 1 E [.ref (E.1 + 0), .int (nI j), .int (nI 4), .int (w), .int (v)] M (u_msk M (jN j + 1) (nI 4) w v) (some (.int 1)) := by
  refine tk_ofV (by decide +kernel) [some (.ref (E.1 + 0)), some (.int (nI j)), some (.int (nI 4)), some (.int (w)), some (.int (v))] rfl (Nat.le_of_ble_eq_true rfl) ?_
  intro p e s m args below meth c cx hB
  refine v_iload_n cx (tk_dc d_K_mask 0 rfl) rfl ?_
  refine v_callS (rest := _) cx (tk_dc d_K_mask 1 rfl) m_K_74 ks_K_isJob k_K_isJob (c_K_isJob) rfl rfl (Nat.le_of_ble_eq_true rfl) (by decide) ?_
  refine v_if_eq cx (tk_dc d_K_mask 2 rfl) 30 (by decide) (fun h => absurd h (b01_d (inN (n := 8) (by decide) hj))) (fun _ => ?_)
  refine v_aload_n cx (tk_dc d_K_mask 3 rfl) rfl ?_
  refine v_getC cx 2 (tk_dc d_K_mask 4 rfl) f_K_17 o_K (by decide) (by rfl) ?_
  refine v_iload_n cx (tk_dc d_K_mask 5 rfl) rfl ?_
  refine w_aald cx (jN j) (tk_dc d_K_mask 6 rfl) o_js j (rfl) (by omega) (by decide) (rfl) ?_
  refine v_getC cx (jN _ + 1) (tk_dc d_K_mask 7 rfl) f_K_77 (o_J (by assumption)) (by decide) (by rfl) ?_
  refine v_iload_n cx (tk_dc d_K_mask 8 rfl) rfl ?_
  refine v_iload_n cx (tk_dc d_K_mask 9 rfl) rfl ?_
  refine v_iload cx (tk_dc d_K_mask 10 rfl) rfl ?_
  refine v_callV (rest := _) cx (tk_dc d_K_mask 11 rfl) m_K_81 kn_U_changeMask kv_U_changeMask k_U_changeMask (o_J1 (by assumption)) (by decide) rfl (c_U_changeMask hj) rfl rfl (Nat.le_of_ble_eq_true rfl) (by decide) ?_
  refine v_if_eq cx (tk_dc d_K_mask 12 rfl) 30 (by decide) (fun h => absurd h (by decide)) (fun _ => ?_)
  refine v_iconst cx (tk_dc d_K_mask 13 rfl) (1) (by decide) ?_
  refine v_goto cx (tk_dc d_K_mask 14 rfl) 31 (by decide) ?_
  exact v_zret cx hB (tk_dc d_K_mask 16 rfl) (by first | exact Or.inl rfl | exact Or.inr rfl | exact b01_01 _ | assumption) (rfl) (rfl)

set_option maxHeartbeats 4000000 in
set_option maxRecDepth 100000 in
theorem n_K_nth {l : Launch} {E : tk_E} {M : tk_M} {x y w : Int32} (hb : ¬ ((¬ x < 0 ∧ x < 8) ∧ (¬ y < 0) ∧ (¬ 6 < y) ∧ (¬ w < 0) ∧ (w ≤ 6))) : tk_Mt l y_K_nth b_K_nth 4 (some .boolean) 1 E [.ref (E.1 + 0), .int (x), .int (y), .int (w)] M M (some (.int 0)) := by
  refine tk_ofV (by decide +kernel) [some (.ref (E.1 + 0)), some (.int (x)), some (.int (y)), some (.int (w))] rfl (Nat.le_of_ble_eq_true rfl) ?_
  intro p e s m args below meth c cx hB
  refine v_iload_n cx (tk_dc d_K_nth 0 rfl) rfl ?_
  refine v_callS (rest := _) cx (tk_dc d_K_nth 1 rfl) m_K_74 ks_K_isJob k_K_isJob (c_K_isJob) rfl rfl (Nat.le_of_ble_eq_true rfl) (by decide) ?_
  refine v_if_eq cx (tk_dc d_K_nth 2 rfl) 27 (by decide) (fun h4 => ?_) (fun h4 => ?_)
  · refine v_iconst cx (tk_dc d_K_nth 13 rfl) (0) (by decide) ?_
    exact v_zret cx hB (tk_dc d_K_nth 14 rfl) (by first | exact Or.inl rfl | exact Or.inr rfl | exact b01_01 _ | assumption) (rfl) (rfl)
  · refine v_iload_n cx (tk_dc d_K_nth 3 rfl) rfl ?_
    refine v_if_lt cx (tk_dc d_K_nth 4 rfl) 27 (by decide) (fun h8 => ?_) (fun h8 => ?_)
    · refine v_iconst cx (tk_dc d_K_nth 13 rfl) (0) (by decide) ?_
      exact v_zret cx hB (tk_dc d_K_nth 14 rfl) (by first | exact Or.inl rfl | exact Or.inr rfl | exact b01_01 _ | assumption) (rfl) (rfl)
    · refine v_iload_n cx (tk_dc d_K_nth 5 rfl) rfl ?_
      refine v_bipush cx (tk_dc d_K_nth 6 rfl) (7) (by decide) ?_
      refine v_icmp_ge cx (tk_dc d_K_nth 7 rfl) 27 (by decide) (fun h14 => ?_) (fun h14 => ?_)
      · refine v_iconst cx (tk_dc d_K_nth 13 rfl) (0) (by decide) ?_
        exact v_zret cx hB (tk_dc d_K_nth 14 rfl) (by first | exact Or.inl rfl | exact Or.inr rfl | exact b01_01 _ | assumption) (rfl) (rfl)
      · refine v_iload_n cx (tk_dc d_K_nth 8 rfl) rfl ?_
        refine v_if_lt cx (tk_dc d_K_nth 9 rfl) 27 (by decide) (fun h18 => ?_) (fun h18 => ?_)
        · refine v_iconst cx (tk_dc d_K_nth 13 rfl) (0) (by decide) ?_
          exact v_zret cx hB (tk_dc d_K_nth 14 rfl) (by first | exact Or.inl rfl | exact Or.inr rfl | exact b01_01 _ | assumption) (rfl) (rfl)
        · refine v_iload_n cx (tk_dc d_K_nth 10 rfl) rfl ?_
          refine v_bipush cx (tk_dc d_K_nth 11 rfl) (6) (by decide) ?_
          refine v_icmp_le cx (tk_dc d_K_nth 12 rfl) 29 (by decide) (fun h24 => ?_) (fun h24 => ?_)
          · exact absurd ⟨of_decide_eq_true (b01_nz h4), h8, fun w9 => h14 (by rw [Int32.lt_iff_toInt_lt] at w9; rw [Int32.le_iff_toInt_le]; exact w9), h18, h24⟩ hb
          · refine v_iconst cx (tk_dc d_K_nth 13 rfl) (0) (by decide) ?_
            exact v_zret cx hB (tk_dc d_K_nth 14 rfl) (by first | exact Or.inl rfl | exact Or.inr rfl | exact b01_01 _ | assumption) (rfl) (rfl)

set_option maxHeartbeats 4000000 in
set_option maxRecDepth 100000 in
theorem c_K_nth {l : Launch} {E : tk_E} {M : tk_M} {j : Nat} {y w : Int32} (hj : j < 8) (h1 : ¬ y < 0) (h2 : ¬ 6 < y) (h3 : ¬ w < 0) (h4 : w ≤ 6) : tk_Mt l y_K_nth b_K_nth 4 (some .boolean) 1 E [.ref (E.1 + 0), .int (nI j), .int (y), .int (w)] M (wI (wI M (jN j + 1) 5 y) (jN j + 1) 6 w) (some (.int 1)) := by
  refine tk_ofV (by decide +kernel) [some (.ref (E.1 + 0)), some (.int (nI j)), some (.int (y)), some (.int (w))] rfl (Nat.le_of_ble_eq_true rfl) ?_
  intro p e s m args below meth c cx hB
  refine v_iload_n cx (tk_dc d_K_nth 0 rfl) rfl ?_
  refine v_callS (rest := _) cx (tk_dc d_K_nth 1 rfl) m_K_74 ks_K_isJob k_K_isJob (c_K_isJob) rfl rfl (Nat.le_of_ble_eq_true rfl) (by decide) ?_
  refine v_if_eq cx (tk_dc d_K_nth 2 rfl) 27 (by decide) (fun h => absurd h (b01_d (inN (n := 8) (by decide) hj))) (fun _ => ?_)
  refine v_iload_n cx (tk_dc d_K_nth 3 rfl) rfl ?_
  refine v_if_lt cx (tk_dc d_K_nth 4 rfl) 27 (by decide) (fun h => absurd h (h1)) (fun _ => ?_)
  refine v_iload_n cx (tk_dc d_K_nth 5 rfl) rfl ?_
  refine v_bipush cx (tk_dc d_K_nth 6 rfl) (7) (by decide) ?_
  refine v_icmp_ge cx (tk_dc d_K_nth 7 rfl) 27 (by decide) (fun h => absurd h (fun q => h2 (by rw [Int32.le_iff_toInt_le] at q; rw [Int32.lt_iff_toInt_lt]; exact q))) (fun _ => ?_)
  refine v_iload_n cx (tk_dc d_K_nth 8 rfl) rfl ?_
  refine v_if_lt cx (tk_dc d_K_nth 9 rfl) 27 (by decide) (fun h => absurd h (h3)) (fun _ => ?_)
  refine v_iload_n cx (tk_dc d_K_nth 10 rfl) rfl ?_
  refine v_bipush cx (tk_dc d_K_nth 11 rfl) (6) (by decide) ?_
  refine v_icmp_le cx (tk_dc d_K_nth 12 rfl) 29 (by decide) (fun _ => ?_) (fun h => absurd (h4) h)
  refine v_aload_n cx (tk_dc d_K_nth 15 rfl) rfl ?_
  refine v_getC cx 2 (tk_dc d_K_nth 16 rfl) f_K_17 o_K (by decide) (by rfl) ?_
  refine v_iload_n cx (tk_dc d_K_nth 17 rfl) rfl ?_
  refine w_aald cx (jN j) (tk_dc d_K_nth 18 rfl) o_js j (rfl) (by omega) (by decide) (rfl) ?_
  refine v_getC cx (jN _ + 1) (tk_dc d_K_nth 19 rfl) f_K_77 (o_J (by assumption)) (by decide) (by rfl) ?_
  refine v_iload_n cx (tk_dc d_K_nth 20 rfl) rfl ?_
  refine v_putI cx (tk_dc d_K_nth 21 rfl) f_K_87 (o_J1 (by assumption)) (by decide) (by rfl) ⟨rfl, rfl⟩ ?_
  refine v_aload_n cx (tk_dc d_K_nth 22 rfl) rfl ?_
  refine v_getC cx 2 (tk_dc d_K_nth 23 rfl) f_K_17 o_K (by decide) (by rfl) ?_
  refine v_iload_n cx (tk_dc d_K_nth 24 rfl) rfl ?_
  refine w_aald cx (jN j) (tk_dc d_K_nth 25 rfl) o_js j (rfl) (by omega) (by decide) (rfl) ?_
  refine v_getC cx (jN _ + 1) (tk_dc d_K_nth 26 rfl) f_K_77 (o_J (by assumption)) (by decide) (by rfl) ?_
  refine v_iload_n cx (tk_dc d_K_nth 27 rfl) rfl ?_
  refine v_putI cx (tk_dc d_K_nth 28 rfl) f_K_90 (o_J1 (by assumption)) (by decide) (by rfl) ⟨rfl, rfl⟩ ?_
  refine v_iconst cx (tk_dc d_K_nth 29 rfl) (1) (by decide) ?_
  exact v_zret cx hB (tk_dc d_K_nth 30 rfl) (by first | exact Or.inl rfl | exact Or.inr rfl | exact b01_01 _ | assumption) (rfl) (rfl)

set_option maxHeartbeats 4000000 in
set_option maxRecDepth 100000 in
theorem n_K_setj {l : Launch} {E : tk_E} {M : tk_M} {x y w : Int32} (hb : ¬ (¬ x < 0 ∧ x < 8)) : tk_Mt l y_K_set b_K_set 4 (some .boolean) 1 E [.ref (E.1 + 0), .int (x), .int (y), .int (w)] M M (some (.int 0)) := by
  refine tk_ofV (by decide +kernel) [some (.ref (E.1 + 0)), some (.int (x)), some (.int (y)), some (.int (w))] rfl (Nat.le_of_ble_eq_true rfl) ?_
  intro p e s m args below meth c cx hB
  refine v_iload_n cx (tk_dc d_K_set 0 rfl) rfl ?_
  refine v_callS (rest := _) cx (tk_dc d_K_set 1 rfl) m_K_74 ks_K_isJob k_K_isJob (c_K_isJob) rfl rfl (Nat.le_of_ble_eq_true rfl) (by decide) ?_
  refine v_if_ne cx (tk_dc d_K_set 2 rfl) 9 (by decide) (fun h => absurd (by rw [decide_eq_false hb]; rfl) h) (fun _ => ?_)
  refine v_iconst cx (tk_dc d_K_set 3 rfl) (0) (by decide) ?_
  exact v_zret cx hB (tk_dc d_K_set 4 rfl) (by first | exact Or.inl rfl | exact Or.inr rfl | exact b01_01 _ | assumption) (rfl) (rfl)

set_option maxHeartbeats 4000000 in
set_option maxRecDepth 100000 in
theorem c_K_set0 {l : Launch} {E : tk_E} {M : tk_M} {j : Nat} {z : Nat} (hj : j < 8) (hz : z < 4) : tk_Mt l y_K_set b_K_set 4 (some .boolean) 1 E [.ref (E.1 + 0), .int (nI j), .int (0), .int (nI z)] M (wR M (jN j) 3 (zN z)) (some (.int 1)) := by
  refine tk_ofV (by decide +kernel) [some (.ref (E.1 + 0)), some (.int (nI j)), some (.int (0)), some (.int (nI z))] rfl (Nat.le_of_ble_eq_true rfl) ?_
  intro p e s m args below meth c cx hB
  refine v_iload_n cx (tk_dc d_K_set 0 rfl) rfl ?_
  refine v_callS (rest := _) cx (tk_dc d_K_set 1 rfl) m_K_74 ks_K_isJob k_K_isJob (c_K_isJob) rfl rfl (Nat.le_of_ble_eq_true rfl) (by decide) ?_
  refine v_if_ne cx (tk_dc d_K_set 2 rfl) 9 (by decide) (fun _ => ?_) (fun h => absurd h (b01_d (inN (n := 8) (by decide) hj)))
  refine v_iload_n cx (tk_dc d_K_set 5 rfl) rfl ?_
  refine v_tin cx (tk_dc d_K_set 6 rfl) 44 (by decide) (by decide) rfl (by decide) ?_
  refine v_iload_n cx (tk_dc d_K_set 7 rfl) rfl ?_
  refine v_callS (rest := _) cx (tk_dc d_K_set 8 rfl) m_K_55 ks_K_isZone k_K_isZone (c_K_isZone) rfl rfl (Nat.le_of_ble_eq_true rfl) (by decide) ?_
  refine v_if_ne cx (tk_dc d_K_set 9 rfl) 53 (by decide) (fun _ => ?_) (fun h => absurd h (b01_d (inN (n := 4) (by decide) hz)))
  refine v_aload_n cx (tk_dc d_K_set 12 rfl) rfl ?_
  refine v_getC cx 2 (tk_dc d_K_set 13 rfl) f_K_17 o_K (by decide) (by rfl) ?_
  refine v_iload_n cx (tk_dc d_K_set 14 rfl) rfl ?_
  refine w_aald cx (jN j) (tk_dc d_K_set 15 rfl) o_js j (rfl) (by omega) (by decide) (rfl) ?_
  refine v_aload_n cx (tk_dc d_K_set 16 rfl) rfl ?_
  refine v_getC cx 1 (tk_dc d_K_set 17 rfl) f_K_11 o_K (by decide) (by rfl) ?_
  refine v_iload_n cx (tk_dc d_K_set 18 rfl) rfl ?_
  refine w_aald cx (zN z) (tk_dc d_K_set 19 rfl) o_zs z (rfl) (by omega) (by decide) (rfl) ?_
  refine v_putR cx (tk_dc d_K_set 20 rfl) f_K_93 (o_J (by assumption)) (by decide) (by rfl) ⟨rfl, rfl⟩ ?_
  refine v_iconst cx (tk_dc d_K_set 21 rfl) (1) (by decide) ?_
  exact v_zret cx hB (tk_dc d_K_set 22 rfl) (by first | exact Or.inl rfl | exact Or.inr rfl | exact b01_01 _ | assumption) (rfl) (rfl)

set_option maxHeartbeats 4000000 in
set_option maxRecDepth 100000 in
theorem n_K_set0 {l : Launch} {E : tk_E} {M : tk_M} {j : Nat} {w : Int32} (hj : j < 8) (hb : ¬ (¬ w < 0 ∧ w < 4)) : tk_Mt l y_K_set b_K_set 4 (some .boolean) 1 E [.ref (E.1 + 0), .int (nI j), .int (0), .int (w)] M M (some (.int 0)) := by
  refine tk_ofV (by decide +kernel) [some (.ref (E.1 + 0)), some (.int (nI j)), some (.int (0)), some (.int (w))] rfl (Nat.le_of_ble_eq_true rfl) ?_
  intro p e s m args below meth c cx hB
  refine v_iload_n cx (tk_dc d_K_set 0 rfl) rfl ?_
  refine v_callS (rest := _) cx (tk_dc d_K_set 1 rfl) m_K_74 ks_K_isJob k_K_isJob (c_K_isJob) rfl rfl (Nat.le_of_ble_eq_true rfl) (by decide) ?_
  refine v_if_ne cx (tk_dc d_K_set 2 rfl) 9 (by decide) (fun _ => ?_) (fun h => absurd h (b01_d (inN (n := 8) (by decide) hj)))
  refine v_iload_n cx (tk_dc d_K_set 5 rfl) rfl ?_
  refine v_tin cx (tk_dc d_K_set 6 rfl) 44 (by decide) (by decide) rfl (by decide) ?_
  refine v_iload_n cx (tk_dc d_K_set 7 rfl) rfl ?_
  refine v_callS (rest := _) cx (tk_dc d_K_set 8 rfl) m_K_55 ks_K_isZone k_K_isZone (c_K_isZone) rfl rfl (Nat.le_of_ble_eq_true rfl) (by decide) ?_
  refine v_if_ne cx (tk_dc d_K_set 9 rfl) 53 (by decide) (fun h => absurd (by rw [decide_eq_false hb]; rfl) h) (fun _ => ?_)
  refine v_iconst cx (tk_dc d_K_set 10 rfl) (0) (by decide) ?_
  exact v_zret cx hB (tk_dc d_K_set 11 rfl) (by first | exact Or.inl rfl | exact Or.inr rfl | exact b01_01 _ | assumption) (rfl) (rfl)

set_option maxHeartbeats 4000000 in
set_option maxRecDepth 100000 in
theorem c_K_set1z {l : Launch} {E : tk_E} {M : tk_M} {j : Nat} {w : Int32} (hj : j < 8) (hw : w = 0) : tk_Mt l y_K_set b_K_set 4 (some .boolean) 1 E [.ref (E.1 + 0), .int (nI j), .int (1), .int (w)] M (wI M (jN j) 5 0) (some (.int 1)) := by
  refine tk_ofV (by decide +kernel) [some (.ref (E.1 + 0)), some (.int (nI j)), some (.int (1)), some (.int (w))] rfl (Nat.le_of_ble_eq_true rfl) ?_
  intro p e s m args below meth c cx hB
  refine v_iload_n cx (tk_dc d_K_set 0 rfl) rfl ?_
  refine v_callS (rest := _) cx (tk_dc d_K_set 1 rfl) m_K_74 ks_K_isJob k_K_isJob (c_K_isJob) rfl rfl (Nat.le_of_ble_eq_true rfl) (by decide) ?_
  refine v_if_ne cx (tk_dc d_K_set 2 rfl) 9 (by decide) (fun _ => ?_) (fun h => absurd h (b01_d (inN (n := 8) (by decide) hj)))
  refine v_iload_n cx (tk_dc d_K_set 5 rfl) rfl ?_
  refine v_tin cx (tk_dc d_K_set 6 rfl) 70 (by decide) (by decide) rfl (by decide) ?_
  refine v_aload_n cx (tk_dc d_K_set 23 rfl) rfl ?_
  refine v_getC cx 2 (tk_dc d_K_set 24 rfl) f_K_17 o_K (by decide) (by rfl) ?_
  refine v_iload_n cx (tk_dc d_K_set 25 rfl) rfl ?_
  refine w_aald cx (jN j) (tk_dc d_K_set 26 rfl) o_js j (rfl) (by omega) (by decide) (rfl) ?_
  refine v_iload_n cx (tk_dc d_K_set 27 rfl) rfl ?_
  refine v_if_eq cx (tk_dc d_K_set 28 rfl) 84 (by decide) (fun _ => ?_) (fun h => absurd (hw) h)
  refine v_iconst cx (tk_dc d_K_set 31 rfl) (0) (by decide) ?_
  refine v_putZ cx (tk_dc d_K_set 32 rfl) f_K_97 (o_J (by assumption)) (by decide) (by rfl) ⟨rfl, rfl⟩ (by first | exact Or.inl rfl | exact Or.inr rfl | assumption) ?_
  refine v_iconst cx (tk_dc d_K_set 33 rfl) (1) (by decide) ?_
  exact v_zret cx hB (tk_dc d_K_set 34 rfl) (by first | exact Or.inl rfl | exact Or.inr rfl | exact b01_01 _ | assumption) (rfl) (rfl)

set_option maxHeartbeats 4000000 in
set_option maxRecDepth 100000 in
theorem c_K_set1n {l : Launch} {E : tk_E} {M : tk_M} {j : Nat} {w : Int32} (hj : j < 8) (hw : ¬ w = 0) : tk_Mt l y_K_set b_K_set 4 (some .boolean) 1 E [.ref (E.1 + 0), .int (nI j), .int (1), .int (w)] M (wI M (jN j) 5 1) (some (.int 1)) := by
  refine tk_ofV (by decide +kernel) [some (.ref (E.1 + 0)), some (.int (nI j)), some (.int (1)), some (.int (w))] rfl (Nat.le_of_ble_eq_true rfl) ?_
  intro p e s m args below meth c cx hB
  refine v_iload_n cx (tk_dc d_K_set 0 rfl) rfl ?_
  refine v_callS (rest := _) cx (tk_dc d_K_set 1 rfl) m_K_74 ks_K_isJob k_K_isJob (c_K_isJob) rfl rfl (Nat.le_of_ble_eq_true rfl) (by decide) ?_
  refine v_if_ne cx (tk_dc d_K_set 2 rfl) 9 (by decide) (fun _ => ?_) (fun h => absurd h (b01_d (inN (n := 8) (by decide) hj)))
  refine v_iload_n cx (tk_dc d_K_set 5 rfl) rfl ?_
  refine v_tin cx (tk_dc d_K_set 6 rfl) 70 (by decide) (by decide) rfl (by decide) ?_
  refine v_aload_n cx (tk_dc d_K_set 23 rfl) rfl ?_
  refine v_getC cx 2 (tk_dc d_K_set 24 rfl) f_K_17 o_K (by decide) (by rfl) ?_
  refine v_iload_n cx (tk_dc d_K_set 25 rfl) rfl ?_
  refine w_aald cx (jN j) (tk_dc d_K_set 26 rfl) o_js j (rfl) (by omega) (by decide) (rfl) ?_
  refine v_iload_n cx (tk_dc d_K_set 27 rfl) rfl ?_
  refine v_if_eq cx (tk_dc d_K_set 28 rfl) 84 (by decide) (fun h => absurd h (hw)) (fun _ => ?_)
  refine v_iconst cx (tk_dc d_K_set 29 rfl) (1) (by decide) ?_
  refine v_goto cx (tk_dc d_K_set 30 rfl) 85 (by decide) ?_
  refine v_putZ cx (tk_dc d_K_set 32 rfl) f_K_97 (o_J (by assumption)) (by decide) (by rfl) ⟨rfl, rfl⟩ (by first | exact Or.inl rfl | exact Or.inr rfl | assumption) ?_
  refine v_iconst cx (tk_dc d_K_set 33 rfl) (1) (by decide) ?_
  exact v_zret cx hB (tk_dc d_K_set 34 rfl) (by first | exact Or.inl rfl | exact Or.inr rfl | exact b01_01 _ | assumption) (rfl) (rfl)

set_option maxHeartbeats 4000000 in
set_option maxRecDepth 100000 in
theorem c_K_set4z {l : Launch} {E : tk_E} {M : tk_M} {j : Nat} {w : Int32} (hj : j < 8) (hw : w = 0) : tk_Mt l y_K_set b_K_set 4 (some .boolean) 1 E [.ref (E.1 + 0), .int (nI j), .int (4), .int (w)] M (wI M (jN j) 8 0) (some (.int 1)) := by
  refine tk_ofV (by decide +kernel) [some (.ref (E.1 + 0)), some (.int (nI j)), some (.int (4)), some (.int (w))] rfl (Nat.le_of_ble_eq_true rfl) ?_
  intro p e s m args below meth c cx hB
  refine v_iload_n cx (tk_dc d_K_set 0 rfl) rfl ?_
  refine v_callS (rest := _) cx (tk_dc d_K_set 1 rfl) m_K_74 ks_K_isJob k_K_isJob (c_K_isJob) rfl rfl (Nat.le_of_ble_eq_true rfl) (by decide) ?_
  refine v_if_ne cx (tk_dc d_K_set 2 rfl) 9 (by decide) (fun _ => ?_) (fun h => absurd h (b01_d (inN (n := 8) (by decide) hj)))
  refine v_iload_n cx (tk_dc d_K_set 5 rfl) rfl ?_
  refine v_tin cx (tk_dc d_K_set 6 rfl) 112 (by decide) (by decide) rfl (by decide) ?_
  refine v_aload_n cx (tk_dc d_K_set 49 rfl) rfl ?_
  refine v_getC cx 2 (tk_dc d_K_set 50 rfl) f_K_17 o_K (by decide) (by rfl) ?_
  refine v_iload_n cx (tk_dc d_K_set 51 rfl) rfl ?_
  refine w_aald cx (jN j) (tk_dc d_K_set 52 rfl) o_js j (rfl) (by omega) (by decide) (rfl) ?_
  refine v_iload_n cx (tk_dc d_K_set 53 rfl) rfl ?_
  refine v_if_eq cx (tk_dc d_K_set 54 rfl) 126 (by decide) (fun _ => ?_) (fun h => absurd (hw) h)
  refine v_iconst cx (tk_dc d_K_set 57 rfl) (0) (by decide) ?_
  refine v_putZ cx (tk_dc d_K_set 58 rfl) f_K_107 (o_J (by assumption)) (by decide) (by rfl) ⟨rfl, rfl⟩ (by first | exact Or.inl rfl | exact Or.inr rfl | assumption) ?_
  refine v_iconst cx (tk_dc d_K_set 59 rfl) (1) (by decide) ?_
  exact v_zret cx hB (tk_dc d_K_set 60 rfl) (by first | exact Or.inl rfl | exact Or.inr rfl | exact b01_01 _ | assumption) (rfl) (rfl)

set_option maxHeartbeats 4000000 in
set_option maxRecDepth 100000 in
theorem c_K_set4n {l : Launch} {E : tk_E} {M : tk_M} {j : Nat} {w : Int32} (hj : j < 8) (hw : ¬ w = 0) : tk_Mt l y_K_set b_K_set 4 (some .boolean) 1 E [.ref (E.1 + 0), .int (nI j), .int (4), .int (w)] M (wI M (jN j) 8 1) (some (.int 1)) := by
  refine tk_ofV (by decide +kernel) [some (.ref (E.1 + 0)), some (.int (nI j)), some (.int (4)), some (.int (w))] rfl (Nat.le_of_ble_eq_true rfl) ?_
  intro p e s m args below meth c cx hB
  refine v_iload_n cx (tk_dc d_K_set 0 rfl) rfl ?_
  refine v_callS (rest := _) cx (tk_dc d_K_set 1 rfl) m_K_74 ks_K_isJob k_K_isJob (c_K_isJob) rfl rfl (Nat.le_of_ble_eq_true rfl) (by decide) ?_
  refine v_if_ne cx (tk_dc d_K_set 2 rfl) 9 (by decide) (fun _ => ?_) (fun h => absurd h (b01_d (inN (n := 8) (by decide) hj)))
  refine v_iload_n cx (tk_dc d_K_set 5 rfl) rfl ?_
  refine v_tin cx (tk_dc d_K_set 6 rfl) 112 (by decide) (by decide) rfl (by decide) ?_
  refine v_aload_n cx (tk_dc d_K_set 49 rfl) rfl ?_
  refine v_getC cx 2 (tk_dc d_K_set 50 rfl) f_K_17 o_K (by decide) (by rfl) ?_
  refine v_iload_n cx (tk_dc d_K_set 51 rfl) rfl ?_
  refine w_aald cx (jN j) (tk_dc d_K_set 52 rfl) o_js j (rfl) (by omega) (by decide) (rfl) ?_
  refine v_iload_n cx (tk_dc d_K_set 53 rfl) rfl ?_
  refine v_if_eq cx (tk_dc d_K_set 54 rfl) 126 (by decide) (fun h => absurd h (hw)) (fun _ => ?_)
  refine v_iconst cx (tk_dc d_K_set 55 rfl) (1) (by decide) ?_
  refine v_goto cx (tk_dc d_K_set 56 rfl) 127 (by decide) ?_
  refine v_putZ cx (tk_dc d_K_set 58 rfl) f_K_107 (o_J (by assumption)) (by decide) (by rfl) ⟨rfl, rfl⟩ (by first | exact Or.inl rfl | exact Or.inr rfl | assumption) ?_
  refine v_iconst cx (tk_dc d_K_set 59 rfl) (1) (by decide) ?_
  exact v_zret cx hB (tk_dc d_K_set 60 rfl) (by first | exact Or.inl rfl | exact Or.inr rfl | exact b01_01 _ | assumption) (rfl) (rfl)

set_option maxHeartbeats 4000000 in
set_option maxRecDepth 100000 in
theorem c_K_set2 {l : Launch} {E : tk_E} {M : tk_M} {j : Nat} {w : Int32} (hj : j < 8)  : tk_Mt l y_K_set b_K_set 4 (some .boolean) 1 E [.ref (E.1 + 0), .int (nI j), .int (2), .int (w)] M (if w < 0 ∨ 2 < w then M else wI M (jN j) 6 w) (some (.int (if w < 0 ∨ 2 < w then 0 else 1))) := by
  refine tk_ofV (by decide +kernel) [some (.ref (E.1 + 0)), some (.int (nI j)), some (.int (2)), some (.int (w))] rfl (Nat.le_of_ble_eq_true rfl) ?_
  intro p e s m args below meth c cx hB
  refine v_iload_n cx (tk_dc d_K_set 0 rfl) rfl ?_
  refine v_callS (rest := _) cx (tk_dc d_K_set 1 rfl) m_K_74 ks_K_isJob k_K_isJob (c_K_isJob) rfl rfl (Nat.le_of_ble_eq_true rfl) (by decide) ?_
  refine v_if_ne cx (tk_dc d_K_set 2 rfl) 9 (by decide) (fun _ => ?_) (fun h => absurd h (b01_d (inN (n := 8) (by decide) hj)))
  refine v_iload_n cx (tk_dc d_K_set 5 rfl) rfl ?_
  refine v_tin cx (tk_dc d_K_set 6 rfl) 90 (by decide) (by decide) rfl (by decide) ?_
  refine v_aload_n cx (tk_dc d_K_set 35 rfl) rfl ?_
  refine v_getC cx 2 (tk_dc d_K_set 36 rfl) f_K_17 o_K (by decide) (by rfl) ?_
  refine v_iload_n cx (tk_dc d_K_set 37 rfl) rfl ?_
  refine w_aald cx (jN j) (tk_dc d_K_set 38 rfl) o_js j (rfl) (by omega) (by decide) (rfl) ?_
  refine v_iload_n cx (tk_dc d_K_set 39 rfl) rfl ?_
  refine v_callV (rest := _) cx (tk_dc d_K_set 40 rfl) m_K_101 kn_J_changeMode kv_J_changeMode k_J_changeMode (o_J (by assumption)) (by decide) rfl (c_J_changeMode hj) rfl rfl (Nat.le_of_ble_eq_true rfl) (by decide) ?_
  exact v_zret cx hB (tk_dc d_K_set 41 rfl) (by split; (exact Or.inl rfl); exact Or.inr rfl) (rfl) (rfl)

set_option maxHeartbeats 4000000 in
set_option maxRecDepth 100000 in
theorem c_K_set3 {l : Launch} {E : tk_E} {M : tk_M} {j : Nat} {w : Int32} (hj : j < 8)  : tk_Mt l y_K_set b_K_set 4 (some .boolean) 1 E [.ref (E.1 + 0), .int (nI j), .int (3), .int (w)] M (if w < 0 ∨ 100000 < w then M else wI M (jN j) 7 w) (some (.int (if w < 0 ∨ 100000 < w then 0 else 1))) := by
  refine tk_ofV (by decide +kernel) [some (.ref (E.1 + 0)), some (.int (nI j)), some (.int (3)), some (.int (w))] rfl (Nat.le_of_ble_eq_true rfl) ?_
  intro p e s m args below meth c cx hB
  refine v_iload_n cx (tk_dc d_K_set 0 rfl) rfl ?_
  refine v_callS (rest := _) cx (tk_dc d_K_set 1 rfl) m_K_74 ks_K_isJob k_K_isJob (c_K_isJob) rfl rfl (Nat.le_of_ble_eq_true rfl) (by decide) ?_
  refine v_if_ne cx (tk_dc d_K_set 2 rfl) 9 (by decide) (fun _ => ?_) (fun h => absurd h (b01_d (inN (n := 8) (by decide) hj)))
  refine v_iload_n cx (tk_dc d_K_set 5 rfl) rfl ?_
  refine v_tin cx (tk_dc d_K_set 6 rfl) 101 (by decide) (by decide) rfl (by decide) ?_
  refine v_aload_n cx (tk_dc d_K_set 42 rfl) rfl ?_
  refine v_getC cx 2 (tk_dc d_K_set 43 rfl) f_K_17 o_K (by decide) (by rfl) ?_
  refine v_iload_n cx (tk_dc d_K_set 44 rfl) rfl ?_
  refine w_aald cx (jN j) (tk_dc d_K_set 45 rfl) o_js j (rfl) (by omega) (by decide) (rfl) ?_
  refine v_iload_n cx (tk_dc d_K_set 46 rfl) rfl ?_
  refine v_callV (rest := _) cx (tk_dc d_K_set 47 rfl) m_K_104 kn_J_changeLateness kv_J_changeLateness k_J_changeLateness (o_J (by assumption)) (by decide) rfl (c_J_changeLateness hj) rfl rfl (Nat.le_of_ble_eq_true rfl) (by decide) ?_
  exact v_zret cx hB (tk_dc d_K_set 48 rfl) (by split; (exact Or.inl rfl); exact Or.inr rfl) (rfl) (rfl)

set_option maxHeartbeats 4000000 in
set_option maxRecDepth 100000 in
theorem n_K_setx {l : Launch} {E : tk_E} {M : tk_M} {j : Nat} {y w : Int32} (hj : j < 8) (hy : y < 0 ∨ nI 5 ≤ y) : tk_Mt l y_K_set b_K_set 4 (some .boolean) 1 E [.ref (E.1 + 0), .int (nI j), .int (y), .int (w)] M M (some (.int 0)) := by
  refine tk_ofV (by decide +kernel) [some (.ref (E.1 + 0)), some (.int (nI j)), some (.int (y)), some (.int (w))] rfl (Nat.le_of_ble_eq_true rfl) ?_
  intro p e s m args below meth c cx hB
  refine v_iload_n cx (tk_dc d_K_set 0 rfl) rfl ?_
  refine v_callS (rest := _) cx (tk_dc d_K_set 1 rfl) m_K_74 ks_K_isJob k_K_isJob (c_K_isJob) rfl rfl (Nat.le_of_ble_eq_true rfl) (by decide) ?_
  refine v_if_ne cx (tk_dc d_K_set 2 rfl) 9 (by decide) (fun _ => ?_) (fun h => absurd h (b01_d (inN (n := 8) (by decide) hj)))
  refine v_iload_n cx (tk_dc d_K_set 5 rfl) rfl ?_
  refine v_tout cx (tk_dc d_K_set 6 rfl) 132 (by rcases hy with q | q; (exact Or.inl (tk_neg q)); exact Or.inr (tk_big q (by decide))) (by decide) ?_
  refine v_iconst cx (tk_dc d_K_set 61 rfl) (0) (by decide) ?_
  exact v_zret cx hB (tk_dc d_K_set 62 rfl) (by first | exact Or.inl rfl | exact Or.inr rfl | exact b01_01 _ | assumption) (rfl) (rfl)

set_option maxHeartbeats 4000000 in
set_option maxRecDepth 100000 in
theorem n_K_except {l : Launch} {E : tk_E} {M : tk_M} {x y : Int32} (hb : ¬ ((¬ x < 0 ∧ x < 8) ∧ (¬ y < 0 ∧ y ≤ 52595999))) : tk_Mt l y_K_except b_K_except 3 (some .boolean) 2 E [.ref (E.1 + 0), .int (x), .int (y)] M M (some (.int 0)) := by
  refine tk_ofV (by decide +kernel) [some (.ref (E.1 + 0)), some (.int (x)), some (.int (y))] rfl (Nat.le_of_ble_eq_true rfl) ?_
  intro p e s m args below meth c cx hB
  refine v_iload_n cx (tk_dc d_K_except 0 rfl) rfl ?_
  refine v_callS (rest := _) cx (tk_dc d_K_except 1 rfl) m_K_74 ks_K_isJob k_K_isJob (c_K_isJob) rfl rfl (Nat.le_of_ble_eq_true rfl) (by decide) ?_
  refine v_if_eq cx (tk_dc d_K_except 2 rfl) 31 (by decide) (fun h4 => ?_) (fun h4 => ?_)
  · refine v_iconst cx (tk_dc d_K_except 15 rfl) (0) (by decide) ?_
    exact v_zret cx hB (tk_dc d_K_except 16 rfl) (by first | exact Or.inl rfl | exact Or.inr rfl | exact b01_01 _ | assumption) (rfl) (rfl)
  · refine v_iload_n cx (tk_dc d_K_except 3 rfl) rfl ?_
    refine v_callS (rest := _) cx (tk_dc d_K_except 4 rfl) m_K_59 ks_K_isMinute k_K_isMinute (c_K_isMinute) rfl rfl (Nat.le_of_ble_eq_true rfl) (by decide) ?_
    refine v_if_eq cx (tk_dc d_K_except 5 rfl) 31 (by decide) (fun h11 => ?_) (fun h11 => ?_)
    · refine v_iconst cx (tk_dc d_K_except 15 rfl) (0) (by decide) ?_
      exact v_zret cx hB (tk_dc d_K_except 16 rfl) (by first | exact Or.inl rfl | exact Or.inr rfl | exact b01_01 _ | assumption) (rfl) (rfl)
    · exact absurd ⟨of_decide_eq_true (b01_nz h4), of_decide_eq_true (b01_nz h11)⟩ hb

set_option maxHeartbeats 4000000 in
set_option maxRecDepth 100000 in
theorem c_K_except {l : Launch} {E : tk_E} {M : tk_M} {j ne : Nat} {y : Int32} (hj : j < 8) (h1 : ¬ y < 0 ∧ y ≤ 52595999) (hne : ne ≤ 8) (hc : M.1 (jN j) 4 = nI ne) : tk_Mt l y_K_except b_K_except 3 (some .boolean) 2 E [.ref (E.1 + 0), .int (nI j), .int (y)] M (if ne = 8 ∨ j_exc M j ne y = true then M else j_aex M j ne y) (some (.int (if ne = 8 ∨ j_exc M j ne y = true then 0 else 1))) := by
  refine tk_ofV (by decide +kernel) [some (.ref (E.1 + 0)), some (.int (nI j)), some (.int (y))] rfl (Nat.le_of_ble_eq_true rfl) ?_
  intro p e s m args below meth c cx hB
  refine v_iload_n cx (tk_dc d_K_except 0 rfl) rfl ?_
  refine v_callS (rest := _) cx (tk_dc d_K_except 1 rfl) m_K_74 ks_K_isJob k_K_isJob (c_K_isJob) rfl rfl (Nat.le_of_ble_eq_true rfl) (by decide) ?_
  refine v_if_eq cx (tk_dc d_K_except 2 rfl) 31 (by decide) (fun h => absurd h (b01_d (inN (n := 8) (by decide) hj))) (fun _ => ?_)
  refine v_iload_n cx (tk_dc d_K_except 3 rfl) rfl ?_
  refine v_callS (rest := _) cx (tk_dc d_K_except 4 rfl) m_K_59 ks_K_isMinute k_K_isMinute (c_K_isMinute) rfl rfl (Nat.le_of_ble_eq_true rfl) (by decide) ?_
  refine v_if_eq cx (tk_dc d_K_except 5 rfl) 31 (by decide) (fun h => absurd h (b01_d h1)) (fun _ => ?_)
  refine v_aload_n cx (tk_dc d_K_except 6 rfl) rfl ?_
  refine v_getC cx 2 (tk_dc d_K_except 7 rfl) f_K_17 o_K (by decide) (by rfl) ?_
  refine v_iload_n cx (tk_dc d_K_except 8 rfl) rfl ?_
  refine w_aald cx (jN j) (tk_dc d_K_except 9 rfl) o_js j (rfl) (by omega) (by decide) (rfl) ?_
  refine v_iload_n cx (tk_dc d_K_except 10 rfl) rfl ?_
  refine v_callV (rest := _) cx (tk_dc d_K_except 11 rfl) m_K_110 kn_J_addException kv_J_addException k_J_addException (o_J (by assumption)) (by decide) rfl (c_J_addException hj hne hc) rfl rfl (Nat.le_of_ble_eq_true rfl) (by decide) ?_
  refine v_if_eq cx (tk_dc d_K_except 12 rfl) 31 (by decide) (fun h24 => ?_) (fun h24 => ?_)
  · have g24 : ne = 8 ∨ j_exc M j ne y = true := by by_cases q : ne = 8 ∨ j_exc M j ne y = true; (exact q); (rw [if_neg q] at h24; exact absurd h24 (by decide))
    refine v_iconst cx (tk_dc d_K_except 15 rfl) (0) (by decide) ?_
    exact v_zret cx hB (tk_dc d_K_except 16 rfl) (by first | exact Or.inl rfl | exact Or.inr rfl | exact b01_01 _ | assumption) (by rw [if_pos g24]) (rfl)
  · have g24 : ¬ (ne = 8 ∨ j_exc M j ne y = true) := fun q => h24 (by rw [if_pos q])
    refine v_iconst cx (tk_dc d_K_except 13 rfl) (1) (by decide) ?_
    refine v_goto cx (tk_dc d_K_except 14 rfl) 32 (by decide) ?_
    exact v_zret cx hB (tk_dc d_K_except 16 rfl) (by first | exact Or.inl rfl | exact Or.inr rfl | exact b01_01 _ | assumption) (by rw [if_neg g24]) (rfl)

set_option maxHeartbeats 4000000 in
set_option maxRecDepth 100000 in
theorem n_K_after {l : Launch} {E : tk_E} {M : tk_M} {x y w : Int32} (hb : ¬ ((¬ x < 0 ∧ x < 8) ∧ (¬ y < 0 ∧ y < 8) ∧ (¬ x = y))) : tk_Mt l y_K_after b_K_after 4 (some .boolean) 1 E [.ref (E.1 + 0), .int (x), .int (y), .int (w)] M M (some (.int 0)) := by
  refine tk_ofV (by decide +kernel) [some (.ref (E.1 + 0)), some (.int (x)), some (.int (y)), some (.int (w))] rfl (Nat.le_of_ble_eq_true rfl) ?_
  intro p e s m args below meth c cx hB
  refine v_iload_n cx (tk_dc d_K_after 0 rfl) rfl ?_
  refine v_callS (rest := _) cx (tk_dc d_K_after 1 rfl) m_K_74 ks_K_isJob k_K_isJob (c_K_isJob) rfl rfl (Nat.le_of_ble_eq_true rfl) (by decide) ?_
  refine v_if_eq cx (tk_dc d_K_after 2 rfl) 19 (by decide) (fun h4 => ?_) (fun h4 => ?_)
  · refine v_iconst cx (tk_dc d_K_after 9 rfl) (0) (by decide) ?_
    exact v_zret cx hB (tk_dc d_K_after 10 rfl) (by first | exact Or.inl rfl | exact Or.inr rfl | exact b01_01 _ | assumption) (rfl) (rfl)
  · refine v_iload_n cx (tk_dc d_K_after 3 rfl) rfl ?_
    refine v_callS (rest := _) cx (tk_dc d_K_after 4 rfl) m_K_74 ks_K_isJob k_K_isJob (c_K_isJob) rfl rfl (Nat.le_of_ble_eq_true rfl) (by decide) ?_
    refine v_if_eq cx (tk_dc d_K_after 5 rfl) 19 (by decide) (fun h11 => ?_) (fun h11 => ?_)
    · refine v_iconst cx (tk_dc d_K_after 9 rfl) (0) (by decide) ?_
      exact v_zret cx hB (tk_dc d_K_after 10 rfl) (by first | exact Or.inl rfl | exact Or.inr rfl | exact b01_01 _ | assumption) (rfl) (rfl)
    · refine v_iload_n cx (tk_dc d_K_after 6 rfl) rfl ?_
      refine v_iload_n cx (tk_dc d_K_after 7 rfl) rfl ?_
      refine v_icmp_ne cx (tk_dc d_K_after 8 rfl) 21 (by decide) (fun h16 => ?_) (fun h16 => ?_)
      · exact absurd ⟨of_decide_eq_true (b01_nz h4), of_decide_eq_true (b01_nz h11), h16⟩ hb
      · refine v_iconst cx (tk_dc d_K_after 9 rfl) (0) (by decide) ?_
        exact v_zret cx hB (tk_dc d_K_after 10 rfl) (by first | exact Or.inl rfl | exact Or.inr rfl | exact b01_01 _ | assumption) (rfl) (rfl)

set_option maxHeartbeats 4000000 in
set_option maxRecDepth 100000 in
theorem c_K_after {l : Launch} {E : tk_E} {M : tk_M} {j i : Nat} {w : Int32} (hj : j < 8) (hi : i < 8) (hji : ¬ j = i) (hw : w = 0 ∨ w = 1) : tk_Mt l y_K_after b_K_after 4 (some .boolean) 1 E [.ref (E.1 + 0), .int (nI j), .int (nI i), .int (w)] M (wI M (jN j + 3) i w) (some (.int 1)) := by
  refine tk_ofV (by decide +kernel) [some (.ref (E.1 + 0)), some (.int (nI j)), some (.int (nI i)), some (.int (w))] rfl (Nat.le_of_ble_eq_true rfl) ?_
  intro p e s m args below meth c cx hB
  refine v_iload_n cx (tk_dc d_K_after 0 rfl) rfl ?_
  refine v_callS (rest := _) cx (tk_dc d_K_after 1 rfl) m_K_74 ks_K_isJob k_K_isJob (c_K_isJob) rfl rfl (Nat.le_of_ble_eq_true rfl) (by decide) ?_
  refine v_if_eq cx (tk_dc d_K_after 2 rfl) 19 (by decide) (fun h => absurd h (b01_d (inN (n := 8) (by decide) hj))) (fun _ => ?_)
  refine v_iload_n cx (tk_dc d_K_after 3 rfl) rfl ?_
  refine v_callS (rest := _) cx (tk_dc d_K_after 4 rfl) m_K_74 ks_K_isJob k_K_isJob (c_K_isJob) rfl rfl (Nat.le_of_ble_eq_true rfl) (by decide) ?_
  refine v_if_eq cx (tk_dc d_K_after 5 rfl) 19 (by decide) (fun h => absurd h (b01_d (inN (n := 8) (by decide) hi))) (fun _ => ?_)
  refine v_iload_n cx (tk_dc d_K_after 6 rfl) rfl ?_
  refine v_iload_n cx (tk_dc d_K_after 7 rfl) rfl ?_
  refine v_icmp_ne cx (tk_dc d_K_after 8 rfl) 21 (by decide) (fun _ => ?_) (fun h => absurd h (fun q => hji (nI_inj (by omega) (by omega) q)))
  refine v_aload_n cx (tk_dc d_K_after 11 rfl) rfl ?_
  refine v_getC cx 2 (tk_dc d_K_after 12 rfl) f_K_17 o_K (by decide) (by rfl) ?_
  refine v_iload_n cx (tk_dc d_K_after 13 rfl) rfl ?_
  refine w_aald cx (jN j) (tk_dc d_K_after 14 rfl) o_js j (rfl) (by omega) (by decide) (rfl) ?_
  refine v_getC cx (jN _ + 3) (tk_dc d_K_after 15 rfl) f_K_113 (o_J (by assumption)) (by decide) (by rfl) ?_
  refine v_iload_n cx (tk_dc d_K_after 16 rfl) rfl ?_
  refine v_iload_n cx (tk_dc d_K_after 17 rfl) rfl ?_
  refine w_zast cx (tk_dc d_K_after 18 rfl) (o_J3 hj) i (rfl) (by omega) (by decide) (by first | exact Or.inl rfl | exact Or.inr rfl | assumption) ?_
  refine v_iconst cx (tk_dc d_K_after 19 rfl) (1) (by decide) ?_
  exact v_zret cx hB (tk_dc d_K_after 20 rfl) (by first | exact Or.inl rfl | exact Or.inr rfl | exact b01_01 _ | assumption) (rfl) (rfl)

set_option maxHeartbeats 4000000 in
set_option maxRecDepth 100000 in
theorem n_K_isDue {l : Launch} {E : tk_E} {M : tk_M} {x y : Int32} (hb : ¬ ((¬ x < 0 ∧ x < 8) ∧ ¬ y < 0 ∧ y ≤ 52595999)) : tk_Mt l y_K_isDue b_K_isDue 3 (some .boolean) 5 E [.ref (E.1 + 0), .int (x), .int (y)] M M (some (.int 0)) := by
  refine tk_ofV (by decide +kernel) [some (.ref (E.1 + 0)), some (.int (x)), some (.int (y))] rfl (Nat.le_of_ble_eq_true rfl) ?_
  intro p e s m args below meth c cx hB
  refine v_iload_n cx (tk_dc d_K_isDue 0 rfl) rfl ?_
  refine v_callS (rest := _) cx (tk_dc d_K_isDue 1 rfl) m_K_74 ks_K_isJob k_K_isJob (c_K_isJob) rfl rfl (Nat.le_of_ble_eq_true rfl) (by decide) ?_
  refine v_if_eq cx (tk_dc d_K_isDue 2 rfl) 33 (by decide) (fun h4 => ?_) (fun h4 => ?_)
  · refine v_iconst cx (tk_dc d_K_isDue 17 rfl) (0) (by decide) ?_
    exact v_zret cx hB (tk_dc d_K_isDue 18 rfl) (by first | exact Or.inl rfl | exact Or.inr rfl | exact b01_01 _ | assumption) (rfl) (rfl)
  · refine v_iload_n cx (tk_dc d_K_isDue 3 rfl) rfl ?_
    refine v_callS (rest := _) cx (tk_dc d_K_isDue 4 rfl) m_K_59 ks_K_isMinute k_K_isMinute (c_K_isMinute) rfl rfl (Nat.le_of_ble_eq_true rfl) (by decide) ?_
    refine v_if_eq cx (tk_dc d_K_isDue 5 rfl) 33 (by decide) (fun h11 => ?_) (fun h11 => ?_)
    · refine v_iconst cx (tk_dc d_K_isDue 17 rfl) (0) (by decide) ?_
      exact v_zret cx hB (tk_dc d_K_isDue 18 rfl) (by first | exact Or.inl rfl | exact Or.inr rfl | exact b01_01 _ | assumption) (rfl) (rfl)
    · exact absurd ⟨of_decide_eq_true (b01_nz h4), of_decide_eq_true (b01_nz h11)⟩ hb

set_option maxHeartbeats 4000000 in
set_option maxRecDepth 100000 in
theorem n_K_due {l : Launch} {E : tk_E} {M : tk_M} {x y : Int32} (hb : ¬ ((¬ x < 0 ∧ x < 8) ∧ ¬ y < 0 ∧ y ≤ 52595999)) : tk_Mt l y_K_due b_K_due 3 (some .int) 5 E [.ref (E.1 + 0), .int (x), .int (y)] M M (some (.int (-1))) := by
  refine tk_ofV (by decide +kernel) [some (.ref (E.1 + 0)), some (.int (x)), some (.int (y))] rfl (Nat.le_of_ble_eq_true rfl) ?_
  intro p e s m args below meth c cx hB
  refine v_iload_n cx (tk_dc d_K_due 0 rfl) rfl ?_
  refine v_callS (rest := _) cx (tk_dc d_K_due 1 rfl) m_K_74 ks_K_isJob k_K_isJob (c_K_isJob) rfl rfl (Nat.le_of_ble_eq_true rfl) (by decide) ?_
  refine v_if_eq cx (tk_dc d_K_due 2 rfl) 29 (by decide) (fun h4 => ?_) (fun h4 => ?_)
  · refine v_iconst cx (tk_dc d_K_due 14 rfl) (-1) (by decide) ?_
    exact v_iret cx hB (tk_dc d_K_due 15 rfl) (rfl) (rfl)
  · refine v_iload_n cx (tk_dc d_K_due 3 rfl) rfl ?_
    refine v_callS (rest := _) cx (tk_dc d_K_due 4 rfl) m_K_59 ks_K_isMinute k_K_isMinute (c_K_isMinute) rfl rfl (Nat.le_of_ble_eq_true rfl) (by decide) ?_
    refine v_if_eq cx (tk_dc d_K_due 5 rfl) 29 (by decide) (fun h11 => ?_) (fun h11 => ?_)
    · refine v_iconst cx (tk_dc d_K_due 14 rfl) (-1) (by decide) ?_
      exact v_iret cx hB (tk_dc d_K_due 15 rfl) (rfl) (rfl)
    · exact absurd ⟨of_decide_eq_true (b01_nz h4), of_decide_eq_true (b01_nz h11)⟩ hb

set_option maxHeartbeats 4000000 in
set_option maxRecDepth 100000 in
theorem c_K_isDue {l : Launch} {E : tk_E} {M : tk_M} {j : Nat} {g : gJ} {a : Int} (hj : j < 8) (h1 : 0 ≤ a) (h2 : a ≤ 52595999) (H : calK M j g) : tk_Mt l y_K_isDue b_K_isDue 3 (some .boolean) 5 E [.ref (E.1 + 0), .int (nI j), .int (iI a)] M M (some (.int (b01 (g.1 a)))) := by
  refine tk_ofV (by decide +kernel) [some (.ref (E.1 + 0)), some (.int (nI j)), some (.int (iI a))] rfl (Nat.le_of_ble_eq_true rfl) ?_
  intro p e s m args below meth c cx hB
  obtain ⟨z, h, ne, n, ρ, mv, st, os, e1, e2, e3, e4, e5, e6⟩ := H
  refine v_iload_n cx (tk_dc d_K_isDue 0 rfl) rfl ?_
  refine v_callS (rest := _) cx (tk_dc d_K_isDue 1 rfl) m_K_74 ks_K_isJob k_K_isJob (c_K_isJob) rfl rfl (Nat.le_of_ble_eq_true rfl) (by decide) ?_
  refine v_if_eq cx (tk_dc d_K_isDue 2 rfl) 33 (by decide) (fun h => absurd h (b01_d (inN (n := 8) (by decide) hj))) (fun _ => ?_)
  refine v_iload_n cx (tk_dc d_K_isDue 3 rfl) rfl ?_
  refine v_callS (rest := _) cx (tk_dc d_K_isDue 4 rfl) m_K_59 ks_K_isMinute k_K_isMinute (c_K_isMinute) rfl rfl (Nat.le_of_ble_eq_true rfl) (by decide) ?_
  refine v_if_eq cx (tk_dc d_K_isDue 5 rfl) 33 (by decide) (fun h => absurd h (b01_d (inM h1 h2))) (fun _ => ?_)
  refine v_aload_n cx (tk_dc d_K_isDue 6 rfl) rfl ?_
  refine v_getC cx 2 (tk_dc d_K_isDue 7 rfl) f_K_17 o_K (by decide) (by rfl) ?_
  refine v_iload_n cx (tk_dc d_K_isDue 8 rfl) rfl ?_
  refine w_aald cx (jN j) (tk_dc d_K_isDue 9 rfl) o_js j (rfl) (by omega) (by decide) (rfl) ?_
  refine v_iload_n cx (tk_dc d_K_isDue 10 rfl) rfl ?_
  refine v_iload_n cx (tk_dc d_K_isDue 11 rfl) rfl ?_
  refine v_callVI (rest := _) cx (tk_dc d_K_isDue 12 rfl) m_K_116 kn_J_firstDue kv_J_firstDue k_J_firstDue (o_J (by assumption)) (by decide) rfl (c_J_firstDue e1 e2 e3 e4 (by omega) (by omega) (by omega) h2) rfl rfl (Nat.le_of_ble_eq_true rfl) (by decide) (fun x9 hx9 => ?_)
  obtain ⟨r9, rfl, hr9⟩ := hx9
  rw [e5] at hr9
  have hr7 := FDP_at hr9 h1
  have hr8 := FDP_r hr9 (by omega)
  refine v_iload_n cx (tk_dc d_K_isDue 13 rfl) rfl ?_
  refine v_icmp_ne cx (tk_dc d_K_isDue 14 rfl) 33 (by decide) (fun h26 => ?_) (fun h26 => ?_)
  · have g26 : ¬ r9 = a := fun q => h26 (by rw [q])
    refine v_iconst cx (tk_dc d_K_isDue 17 rfl) (0) (by decide) ?_
    exact v_zret cx hB (tk_dc d_K_isDue 18 rfl) (by first | exact Or.inl rfl | exact Or.inr rfl | exact b01_01 _ | assumption) (by rw [hr7, decide_eq_false g26]; rfl) (rfl)
  · have g26 : r9 = a := (iI_eq (by omega) (by omega) (by omega) (by omega)).mp h26
    refine v_iconst cx (tk_dc d_K_isDue 15 rfl) (1) (by decide) ?_
    refine v_goto cx (tk_dc d_K_isDue 16 rfl) 34 (by decide) ?_
    exact v_zret cx hB (tk_dc d_K_isDue 18 rfl) (by first | exact Or.inl rfl | exact Or.inr rfl | exact b01_01 _ | assumption) (by rw [hr7, decide_eq_true g26]; rfl) (rfl)

set_option maxHeartbeats 4000000 in
set_option maxRecDepth 100000 in
theorem c_K_due {l : Launch} {E : tk_E} {M : tk_M} {j : Nat} {g : gJ} {a : Int} (hj : j < 8) (h1 : 0 ≤ a) (h2 : a ≤ 52595999) (H : calK M j g) : tk_Mt l y_K_due b_K_due 3 (some .int) 5 E [.ref (E.1 + 0), .int (nI j), .int (iI a)] M M (some (.int (iI (fdI0 g a)))) := by
  refine tk_ofV (by decide +kernel) [some (.ref (E.1 + 0)), some (.int (nI j)), some (.int (iI a))] rfl (Nat.le_of_ble_eq_true rfl) ?_
  intro p e s m args below meth c cx hB
  obtain ⟨z, h, ne, n, ρ, mv, st, os, e1, e2, e3, e4, e5, e6⟩ := H
  refine v_iload_n cx (tk_dc d_K_due 0 rfl) rfl ?_
  refine v_callS (rest := _) cx (tk_dc d_K_due 1 rfl) m_K_74 ks_K_isJob k_K_isJob (c_K_isJob) rfl rfl (Nat.le_of_ble_eq_true rfl) (by decide) ?_
  refine v_if_eq cx (tk_dc d_K_due 2 rfl) 29 (by decide) (fun h => absurd h (b01_d (inN (n := 8) (by decide) hj))) (fun _ => ?_)
  refine v_iload_n cx (tk_dc d_K_due 3 rfl) rfl ?_
  refine v_callS (rest := _) cx (tk_dc d_K_due 4 rfl) m_K_59 ks_K_isMinute k_K_isMinute (c_K_isMinute) rfl rfl (Nat.le_of_ble_eq_true rfl) (by decide) ?_
  refine v_if_eq cx (tk_dc d_K_due 5 rfl) 29 (by decide) (fun h => absurd h (b01_d (inM h1 h2))) (fun _ => ?_)
  refine v_aload_n cx (tk_dc d_K_due 6 rfl) rfl ?_
  refine v_getC cx 2 (tk_dc d_K_due 7 rfl) f_K_17 o_K (by decide) (by rfl) ?_
  refine v_iload_n cx (tk_dc d_K_due 8 rfl) rfl ?_
  refine w_aald cx (jN j) (tk_dc d_K_due 9 rfl) o_js j (rfl) (by omega) (by decide) (rfl) ?_
  refine v_iload_n cx (tk_dc d_K_due 10 rfl) rfl ?_
  refine v_ldc cx (tk_dc d_K_due 11 rfl) c_K_54 ?_
  refine v_callVI (rest := _) cx (tk_dc d_K_due 12 rfl) m_K_116 kn_J_firstDue kv_J_firstDue k_J_firstDue (o_J (by assumption)) (by decide) rfl (c_J_firstDue (b := 52595999) e1 e2 e3 e4 (by omega) (by omega) (by omega) (by omega)) rfl rfl (Nat.le_of_ble_eq_true rfl) (by decide) (fun x9 hx9 => ?_)
  obtain ⟨r9, rfl, hr9⟩ := hx9
  rw [e5] at hr9
  refine v_goto cx (tk_dc d_K_due 13 rfl) 30 (by decide) ?_
  exact v_iret cx hB (tk_dc d_K_due 15 rfl) (by rw [fd_eq hr9]) (rfl)
