/-! the other side: rounds, desks -/
/-- of a job: when it is due, its mode, its lateness, its local minute -/
abbrev gJ : Type := (Int → Bool) × Nat × Int × (Int → Int)
/-- cells of the calendar stand -/
def CE (M M' : tk_M) : Prop := (∀ b, M'.2.1 178 b = M.2.1 178 b) ∧ ∀ a b, 173 ≤ a → a ≤ 191 → a ≠ 190 → M'.1 a b = M.1 a b
theorem CE.rf {M : tk_M} : CE M M := ⟨fun _ => rfl, fun _ _ _ _ _ => rfl⟩
theorem CE.tr {M M1 M2 : tk_M} (h : CE M M1) (g : CE M1 M2) : CE M M2 := ⟨fun b => (g.1 b).trans (h.1 b), fun a b w1 w2 w3 => (g.2 a b w1 w2 w3).trans (h.2 a b w1 w2 w3)⟩
theorem SC.ce {M M' : tk_M} (h : SC M M') : CE M M' := ⟨fun b => by rw [h.1], fun a b h1 _ _ => h.2 a b (fun w => by omega)⟩
theorem CE.at {M M' : tk_M} (h : CE M M') {a : Nat} (b : Nat) (ha : (decide (173 ≤ a) && decide (a ≤ 191) && !decide (a = 190)) = true) : M'.1 a b = M.1 a b := by
  simp only [Bool.and_eq_true, decide_eq_true_eq, Bool.not_eq_true', decide_eq_false_iff_not] at ha
  exact h.2 a b ha.1.1 ha.1.2 ha.2
theorem mo_ok.ce {M M' : tk_M} {j z h ne n : Nat} {ρ : ru} {mv : Bool} {st os : Nat → Int} {hd ex : Nat → Int32} (H : mo_ok M j z h ne n ρ mv st os hd ex) (g : CE M M') : mo_ok M' j z h ne n ρ mv st os hd ex := by
  obtain ⟨h1, h2, h3, h4⟩ := H
  refine ⟨?_, ?_, ?_, ?_⟩
  · unfold m_rul at h1 ⊢
    rw [g.at _ rfl, g.at _ rfl, g.at _ rfl, g.at _ rfl, g.at _ rfl, g.at _ rfl, g.1 j]
    exact h1
  · unfold m_zon at h2 ⊢
    rw [g.at _ rfl, g.at _ rfl, g.at _ rfl]
    exact ⟨h2.1, h2.2.1, h2.2.2.1, h2.2.2.2.1, fun i hi => by rw [g.at _ rfl]; exact h2.2.2.2.2.1 i hi, h2.2.2.2.2.2⟩
  · unfold m_zo at h3 ⊢
    rw [g.at _ rfl]
    exact ⟨h3.1, h3.2.1, h3.2.2.1, fun i hi => by rw [g.at _ rfl, g.at _ rfl]; exact h3.2.2.2 i hi⟩
  · unfold m_exs at h4 ⊢
    rw [g.at _ rfl]
    exact ⟨h4.1, h4.2.1, fun i hi => by rw [g.at _ rfl]; exact h4.2.2 i hi⟩
def calM (M : tk_M) (j : Nat) (g : gJ) : Prop := ∃ (z h ne n : Nat) (ρ : ru) (mv : Bool) (st os : Nat → Int) (hd ex : Nat → Int32), mo_ok M j z h ne n ρ mv st os hd ex ∧ due_of n h ne ρ mv st os hd ex = g.1 ∧ M.1 186 j = nI g.2.1 ∧ g.2.1 ≤ 2 ∧ M.1 187 j = iI g.2.2.1 ∧ 0 ≤ g.2.2.1 ∧ g.2.2.1 ≤ 100000 ∧ ∀ m, g.2.2.2 m = m + os (ptI st m n)
theorem calM.ce {M M' : tk_M} {j : Nat} {g : gJ} (H : calM M j g) (w : CE M M') : calM M' j g := by
  obtain ⟨z, h, ne, n, ρ, mv, st, os, hd, ex, h1, h2, h3, h4, h5, h6⟩ := H
  exact ⟨z, h, ne, n, ρ, mv, st, os, hd, ex, h1.ce w, h2, by rw [w.at _ rfl]; exact h3, h4, by rw [w.at _ rfl]; exact h5, h6⟩
theorem calM.sc {M M' : tk_M} {j : Nat} {g : gJ} (H : calM M j g) (w : SC M M') : calM M' j g := H.ce w.ce
theorem calM.lm {M : tk_M} {j : Nat} {g : gJ} (H : calM M j g) {x : Int} (h1 : 0 ≤ x) (h2 : x ≤ 52595999) : x - 900 ≤ g.2.2.2 x ∧ g.2.2.2 x ≤ x + 900 := by
  obtain ⟨z, h, ne, n, ρ, mv, st, os, hd, ex, e1, -, -, -, -, -, -, e2⟩ := H
  obtain ⟨w1, w2, w3⟩ := pt_en e1.2.2.1.1 h1 h2
  have := e1.2.2.1.1.2.2.2.2.1 _ w1
  rw [e2]
  omega
/-- the next moment of a job -/
noncomputable def nxI (g : gJ) (nw bh : Int) : Int := by
  classical exact if h : ∃ r, NXT g.2.1 g.1 (ewI g.2.1 g.2.2.1 bh nw) nw r then Classical.choose h else -1
theorem nx_eq {g : gJ} {nw bh r : Int} (h : NXT g.2.1 g.1 (ewI g.2.1 g.2.2.1 bh nw) nw r) : nxI g nw bh = r := by
  have e : ∃ r, NXT g.2.1 g.1 (ewI g.2.1 g.2.2.1 bh nw) nw r := ⟨r, h⟩
  unfold nxI
  rw [dif_pos e]
  exact NXT_uniq (Classical.choose_spec e) h
theorem nx_r (g : gJ) {nw bh : Int} (hn : 0 ≤ nw) : -1 ≤ nxI g nw bh ∧ nxI g nw bh ≤ nw := by
  by_cases e : ∃ r, NXT g.2.1 g.1 (ewI g.2.1 g.2.2.1 bh nw) nw r
  · obtain ⟨r, hr⟩ := e
    rw [nx_eq hr]
    exact NXT_r hr hn
  · unfold nxI
    rw [dif_neg e]
    omega
/-- the first due moment from a on -/
noncomputable def fdI0 (g : gJ) (a : Int) : Int := by
  classical exact if h : ∃ r, FDP g.1 a 52595999 r then Classical.choose h else -1
theorem fd_eq {g : gJ} {a r : Int} (h : FDP g.1 a 52595999 r) : fdI0 g a = r := by
  have e : ∃ r, FDP g.1 a 52595999 r := ⟨r, h⟩
  unfold fdI0
  rw [dif_pos e]
  exact FDP_uniq (Classical.choose_spec e) h
theorem SC.wI {M M1 : tk_M} (h : SC M M1) (i k : Nat) (v : Int32) : SC (wI M i k v) (wI M1 i k v) := by
  refine ⟨h.1, fun a b w => ?_⟩
  show (if a = i ∧ b = k then v else M1.1 a b) = if a = i ∧ b = k then v else M.1 a b
  rw [h.2 a b w]
theorem SC.snd {M M1 : tk_M} (h : SC M M1) (c : Nat) (l : List Int32) : SC (m_snd M c l) (m_snd M1 c l) := by
  unfold m_snd
  by_cases g : c < 60
  · rw [if_pos g, if_pos g]
    refine SC.wI (M := m_let M c l) (M1 := m_let M1 c l) ⟨h.1, fun a b w => ?_⟩ _ _ _
    show (if a = 208 ∧ 8 * c ≤ b ∧ b < 8 * c + 8 then l.getD (b - 8 * c) 0 else M1.1 a b) = if a = 208 ∧ 8 * c ≤ b ∧ b < 8 * c + 8 then l.getD (b - 8 * c) 0 else M.1 a b
    rw [h.2 a b w]
  · rw [if_neg g, if_neg g]; exact h
theorem SC.oth {M M1 : tk_M} (h : SC M M1) (c x : Nat) (f : Nat → List Int32) : ∀ t, SC (m_oth M c x f t).1 (m_oth M1 c x f t).1 ∧ (m_oth M1 c x f t).2 = (m_oth M c x f t).2
  | 0 => ⟨h, rfl⟩
  | t + 1 => by
    have ih := SC.oth h c x f t
    by_cases g : t = x
    · rw [m_oth_y g, m_oth_y g]; exact ih
    · rw [m_oth_n g, m_oth_n g]
      refine ⟨?_, by rw [ih.2]⟩
      rw [ih.2]
      exact ih.1.snd _ _
theorem SC.ovr {M M1 : tk_M} (h : SC M M1) (k : Nat) : SC (m_ovr M k) (m_ovr M1 k) := ((h.wI _ _ _).wI _ _ _).wI _ _ _
/-- does j have to wait at moment m, as s knows -/
def m_htw (G : Nat → gJ) (M : tk_M) (x j : Nat) (mm : Int) (k : Nat) : Bool := anyN (fun i => bt (M.1 190 j) i && (decide (M.1 199 (8 * x + i) = -1) || decide ((G i).2.2.2 (M.1 199 (8 * x + i)).toInt / 1440 < (G j).2.2.2 mm / 1440))) k
theorem m_htw_sc {G : Nat → gJ} {M M' : tk_M} (h : SC M M') {x j : Nat} {mm : Int} (k : Nat) : m_htw G M' x j mm k = m_htw G M x j mm k := by
  unfold m_htw
  apply anyN_congr
  intro i _
  rw [h.at _ rfl, h.at _ rfl]
set_option maxHeartbeats 4000000 in
set_option maxRecDepth 100000 in
theorem n_M_isDue {l : Launch} {E : tk_E} {M : tk_M} {x y : Int32} (hz0 : M.1 172 0 = 0) (hb : ¬ ((¬ x < 0 ∧ x < 8) ∧ ¬ y < 0 ∧ y ≤ 52595999)) : tk_Mt l y_M_isDue b_M_isDue 3 (some .boolean) 8 E [.ref (E.1 + 172), .int (x), .int (y)] M M (some (.int 0)) := by
  refine tk_ofV (by decide +kernel) [some (.ref (E.1 + 172)), some (.int (x)), some (.int (y))] rfl (Nat.le_of_ble_eq_true rfl) ?_
  intro p e s m args below meth c cx hB
  refine v_aload_n cx (tk_dc d_M_isDue 0 rfl) rfl ?_
  refine v_iconst cx (tk_dc d_M_isDue 1 rfl) (0) (by decide) ?_
  refine v_putI cx (tk_dc d_M_isDue 2 rfl) f_M_120 o_M (by decide) (by rfl) ⟨rfl, rfl⟩ ?_
  refine v_eqM (cz_id hz0) ?_
  refine v_iload_n cx (tk_dc d_M_isDue 3 rfl) rfl ?_
  refine v_callS (rest := _) cx (tk_dc d_M_isDue 4 rfl) m_M_144 ks_M_isJob k_M_isJob (c_M_isJob) rfl rfl (Nat.le_of_ble_eq_true rfl) (by decide) ?_
  refine v_if_eq cx (tk_dc d_M_isDue 5 rfl) 33 (by decide) (fun h9 => ?_) (fun h9 => ?_)
  · refine v_iconst cx (tk_dc d_M_isDue 17 rfl) (0) (by decide) ?_
    exact v_zret cx hB (tk_dc d_M_isDue 18 rfl) (by first | exact Or.inl rfl | exact Or.inr rfl | exact b01_01 _ | assumption) (rfl) (rfl)
  · refine v_iload_n cx (tk_dc d_M_isDue 6 rfl) rfl ?_
    refine v_callS (rest := _) cx (tk_dc d_M_isDue 7 rfl) m_M_136 ks_M_isMinute k_M_isMinute (c_M_isMinute) rfl rfl (Nat.le_of_ble_eq_true rfl) (by decide) ?_
    refine v_if_eq cx (tk_dc d_M_isDue 8 rfl) 33 (by decide) (fun h16 => ?_) (fun h16 => ?_)
    · refine v_iconst cx (tk_dc d_M_isDue 17 rfl) (0) (by decide) ?_
      exact v_zret cx hB (tk_dc d_M_isDue 18 rfl) (by first | exact Or.inl rfl | exact Or.inr rfl | exact b01_01 _ | assumption) (rfl) (rfl)
    · exact absurd ⟨of_decide_eq_true (b01_nz h9), of_decide_eq_true (b01_nz h16)⟩ hb

set_option maxHeartbeats 4000000 in
set_option maxRecDepth 100000 in
theorem n_M_due {l : Launch} {E : tk_E} {M : tk_M} {x y : Int32} (hz0 : M.1 172 0 = 0) (hb : ¬ ((¬ x < 0 ∧ x < 8) ∧ ¬ y < 0 ∧ y ≤ 52595999)) : tk_Mt l y_M_due b_M_due 3 (some .int) 9 E [.ref (E.1 + 172), .int (x), .int (y)] M M (some (.int (-1))) := by
  refine tk_ofV (by decide +kernel) [some (.ref (E.1 + 172)), some (.int (x)), some (.int (y))] rfl (Nat.le_of_ble_eq_true rfl) ?_
  intro p e s m args below meth c cx hB
  refine v_aload_n cx (tk_dc d_M_due 0 rfl) rfl ?_
  refine v_iconst cx (tk_dc d_M_due 1 rfl) (0) (by decide) ?_
  refine v_putI cx (tk_dc d_M_due 2 rfl) f_M_120 o_M (by decide) (by rfl) ⟨rfl, rfl⟩ ?_
  refine v_eqM (cz_id hz0) ?_
  refine v_iload_n cx (tk_dc d_M_due 3 rfl) rfl ?_
  refine v_callS (rest := _) cx (tk_dc d_M_due 4 rfl) m_M_144 ks_M_isJob k_M_isJob (c_M_isJob) rfl rfl (Nat.le_of_ble_eq_true rfl) (by decide) ?_
  refine v_if_eq cx (tk_dc d_M_due 5 rfl) 32 (by decide) (fun h9 => ?_) (fun h9 => ?_)
  · refine v_iconst cx (tk_dc d_M_due 16 rfl) (-1) (by decide) ?_
    exact v_iret cx hB (tk_dc d_M_due 17 rfl) (rfl) (rfl)
  · refine v_iload_n cx (tk_dc d_M_due 6 rfl) rfl ?_
    refine v_callS (rest := _) cx (tk_dc d_M_due 7 rfl) m_M_136 ks_M_isMinute k_M_isMinute (c_M_isMinute) rfl rfl (Nat.le_of_ble_eq_true rfl) (by decide) ?_
    refine v_if_eq cx (tk_dc d_M_due 8 rfl) 32 (by decide) (fun h16 => ?_) (fun h16 => ?_)
    · refine v_iconst cx (tk_dc d_M_due 16 rfl) (-1) (by decide) ?_
      exact v_iret cx hB (tk_dc d_M_due 17 rfl) (rfl) (rfl)
    · exact absurd ⟨of_decide_eq_true (b01_nz h9), of_decide_eq_true (b01_nz h16)⟩ hb

set_option maxHeartbeats 4000000 in
set_option maxRecDepth 100000 in
theorem n_M_local {l : Launch} {E : tk_E} {M : tk_M} {x y : Int32} (hz0 : M.1 172 0 = 0) (hb : ¬ ((¬ x < 0 ∧ x < 4) ∧ ¬ y < 0 ∧ y ≤ 52595999)) : tk_Mt l y_M_local b_M_local 3 (some .int) 2 E [.ref (E.1 + 172), .int (x), .int (y)] M M (some (.int (-1))) := by
  refine tk_ofV (by decide +kernel) [some (.ref (E.1 + 172)), some (.int (x)), some (.int (y))] rfl (Nat.le_of_ble_eq_true rfl) ?_
  intro p e s m args below meth c cx hB
  refine v_aload_n cx (tk_dc d_M_local 0 rfl) rfl ?_
  refine v_iconst cx (tk_dc d_M_local 1 rfl) (0) (by decide) ?_
  refine v_putI cx (tk_dc d_M_local 2 rfl) f_M_120 o_M (by decide) (by rfl) ⟨rfl, rfl⟩ ?_
  refine v_eqM (cz_id hz0) ?_
  refine v_iload_n cx (tk_dc d_M_local 3 rfl) rfl ?_
  refine v_callS (rest := _) cx (tk_dc d_M_local 4 rfl) m_M_132 ks_M_isZone k_M_isZone (c_M_isZone) rfl rfl (Nat.le_of_ble_eq_true rfl) (by decide) ?_
  refine v_if_eq cx (tk_dc d_M_local 5 rfl) 28 (by decide) (fun h9 => ?_) (fun h9 => ?_)
  · refine v_iconst cx (tk_dc d_M_local 14 rfl) (-1) (by decide) ?_
    exact v_iret cx hB (tk_dc d_M_local 15 rfl) (rfl) (rfl)
  · refine v_iload_n cx (tk_dc d_M_local 6 rfl) rfl ?_
    refine v_callS (rest := _) cx (tk_dc d_M_local 7 rfl) m_M_136 ks_M_isMinute k_M_isMinute (c_M_isMinute) rfl rfl (Nat.le_of_ble_eq_true rfl) (by decide) ?_
    refine v_if_eq cx (tk_dc d_M_local 8 rfl) 28 (by decide) (fun h16 => ?_) (fun h16 => ?_)
    · refine v_iconst cx (tk_dc d_M_local 14 rfl) (-1) (by decide) ?_
      exact v_iret cx hB (tk_dc d_M_local 15 rfl) (rfl) (rfl)
    · exact absurd ⟨of_decide_eq_true (b01_nz h9), of_decide_eq_true (b01_nz h16)⟩ hb

set_option maxHeartbeats 4000000 in
set_option maxRecDepth 100000 in
theorem c_M_isDue {l : Launch} {E : tk_E} {M : tk_M} {j : Nat} {g : gJ} {a : Int} (hz0 : M.1 172 0 = 0) (hj : j < 8) (h1 : 0 ≤ a) (h2 : a ≤ 52595999) (H : calM M j g) : tk_MR l y_M_isDue b_M_isDue 3 (some .boolean) 8 E [.ref (E.1 + 172), .int (nI j), .int (iI a)] M  (NR (some (.int (b01 (g.1 a)))) M) := by
  refine tk_ofVR (by decide +kernel) [some (.ref (E.1 + 172)), some (.int (nI j)), some (.int (iI a))] rfl (Nat.le_of_ble_eq_true rfl) ?_
  intro p e s m args below meth c cx hB
  obtain ⟨z, h, ne, n, ρ, mv, st, os, hd, ex, e1, e2, e3, e4, e5, e6, e7, e8⟩ := H
  refine v_aload_n cx (tk_dc d_M_isDue 0 rfl) rfl ?_
  refine v_iconst cx (tk_dc d_M_isDue 1 rfl) (0) (by decide) ?_
  refine v_putI cx (tk_dc d_M_isDue 2 rfl) f_M_120 o_M (by decide) (by rfl) ⟨rfl, rfl⟩ ?_
  refine v_eqM (cz_id hz0) ?_
  refine v_iload_n cx (tk_dc d_M_isDue 3 rfl) rfl ?_
  refine v_callS (rest := _) cx (tk_dc d_M_isDue 4 rfl) m_M_144 ks_M_isJob k_M_isJob (c_M_isJob) rfl rfl (Nat.le_of_ble_eq_true rfl) (by decide) ?_
  refine v_if_eq cx (tk_dc d_M_isDue 5 rfl) 33 (by decide) (fun h => absurd h (b01_d (inN (n := 8) (by decide) hj))) (fun _ => ?_)
  refine v_iload_n cx (tk_dc d_M_isDue 6 rfl) rfl ?_
  refine v_callS (rest := _) cx (tk_dc d_M_isDue 7 rfl) m_M_136 ks_M_isMinute k_M_isMinute (c_M_isMinute) rfl rfl (Nat.le_of_ble_eq_true rfl) (by decide) ?_
  refine v_if_eq cx (tk_dc d_M_isDue 8 rfl) 33 (by decide) (fun h => absurd h (b01_d (inM h1 h2))) (fun _ => ?_)
  refine v_aload_n cx (tk_dc d_M_isDue 9 rfl) rfl ?_
  refine v_iload_n cx (tk_dc d_M_isDue 10 rfl) rfl ?_
  refine v_iload_n cx (tk_dc d_M_isDue 11 rfl) rfl ?_
  refine v_i2l cx (tk_dc d_M_isDue 12 rfl) ?_
  refine v_eql (lI a) (lI_i (by omega) (by omega)) ?_
  refine v_callVS (rest := _) cx (tk_dc d_M_isDue 13 rfl) m_M_208 kn_M_isDueAt kv_M_isDueAt k_M_isDueAt o_M (by decide) rfl (c_M_isDueAt e1 h1 h2) rfl rfl (Nat.le_of_ble_eq_true rfl) (by decide) (fun x9 M2 hx9 sc2 => ?_)
  subst hx9
  rw [e2]
  refine v_if_eq cx (tk_dc d_M_isDue 14 rfl) 33 (by decide) (fun h26 => ?_) (fun h26 => ?_)
  · have g26 := b01_z h26
    refine v_iconst cx (tk_dc d_M_isDue 17 rfl) (0) (by decide) ?_
    exact v_zretR cx hB (tk_dc d_M_isDue 18 rfl) (by first | exact Or.inl rfl | exact Or.inr rfl | exact b01_01 _ | assumption) (⟨by rw [g26]; rfl, sc2⟩)
  · have g26 := b01_nz h26
    refine v_iconst cx (tk_dc d_M_isDue 15 rfl) (1) (by decide) ?_
    refine v_goto cx (tk_dc d_M_isDue 16 rfl) 34 (by decide) ?_
    exact v_zretR cx hB (tk_dc d_M_isDue 18 rfl) (by first | exact Or.inl rfl | exact Or.inr rfl | exact b01_01 _ | assumption) (⟨by rw [g26]; rfl, sc2⟩)

set_option maxHeartbeats 4000000 in
set_option maxRecDepth 100000 in
theorem c_M_due {l : Launch} {E : tk_E} {M : tk_M} {j : Nat} {g : gJ} {a : Int} (hz0 : M.1 172 0 = 0) (hj : j < 8) (h1 : 0 ≤ a) (h2 : a ≤ 52595999) (H : calM M j g) : tk_MR l y_M_due b_M_due 3 (some .int) 9 E [.ref (E.1 + 172), .int (nI j), .int (iI a)] M  (NR (some (.int (iI (fdI0 g a)))) M) := by
  refine tk_ofVR (by decide +kernel) [some (.ref (E.1 + 172)), some (.int (nI j)), some (.int (iI a))] rfl (Nat.le_of_ble_eq_true rfl) ?_
  intro p e s m args below meth c cx hB
  obtain ⟨z, h, ne, n, ρ, mv, st, os, hd, ex, e1, e2, e3, e4, e5, e6, e7, e8⟩ := H
  refine v_aload_n cx (tk_dc d_M_due 0 rfl) rfl ?_
  refine v_iconst cx (tk_dc d_M_due 1 rfl) (0) (by decide) ?_
  refine v_putI cx (tk_dc d_M_due 2 rfl) f_M_120 o_M (by decide) (by rfl) ⟨rfl, rfl⟩ ?_
  refine v_eqM (cz_id hz0) ?_
  refine v_iload_n cx (tk_dc d_M_due 3 rfl) rfl ?_
  refine v_callS (rest := _) cx (tk_dc d_M_due 4 rfl) m_M_144 ks_M_isJob k_M_isJob (c_M_isJob) rfl rfl (Nat.le_of_ble_eq_true rfl) (by decide) ?_
  refine v_if_eq cx (tk_dc d_M_due 5 rfl) 32 (by decide) (fun h => absurd h (b01_d (inN (n := 8) (by decide) hj))) (fun _ => ?_)
  refine v_iload_n cx (tk_dc d_M_due 6 rfl) rfl ?_
  refine v_callS (rest := _) cx (tk_dc d_M_due 7 rfl) m_M_136 ks_M_isMinute k_M_isMinute (c_M_isMinute) rfl rfl (Nat.le_of_ble_eq_true rfl) (by decide) ?_
  refine v_if_eq cx (tk_dc d_M_due 8 rfl) 32 (by decide) (fun h => absurd h (b01_d (inM h1 h2))) (fun _ => ?_)
  refine v_aload_n cx (tk_dc d_M_due 9 rfl) rfl ?_
  refine v_iload_n cx (tk_dc d_M_due 10 rfl) rfl ?_
  refine v_iload_n cx (tk_dc d_M_due 11 rfl) rfl ?_
  refine v_i2l cx (tk_dc d_M_due 12 rfl) ?_
  refine v_eql (lI a) (lI_i (by omega) (by omega)) ?_
  refine v_ldc2 cx (tk_dc d_M_due 13 rfl) c_M_212 ?_
  refine v_callVS (rest := _) cx (tk_dc d_M_due 14 rfl) m_M_214 kn_M_firstDue kv_M_firstDue k_M_firstDue o_M (by decide) rfl (c_M_firstDue (b := 52595999) e1 h1 (by omega) (by omega) (by omega)) rfl rfl (Nat.le_of_ble_eq_true rfl) (by decide) (fun x9 M2 hx9 sc2 => ?_)
  obtain ⟨r9, rfl, hr9⟩ := hx9
  rw [e2] at hr9
  refine v_goto cx (tk_dc d_M_due 15 rfl) 33 (by decide) ?_
  exact v_iretR cx hB (tk_dc d_M_due 17 rfl) (⟨by rw [fd_eq hr9], sc2⟩)

set_option maxHeartbeats 4000000 in
set_option maxRecDepth 100000 in
theorem c_M_local {l : Launch} {E : tk_E} {M : tk_M} {j n : Nat} {st os : Nat → Int} {a : Int} (hz0 : M.1 172 0 = 0) (hj : j < 4) (h1 : 0 ≤ a) (h2 : a ≤ 52595999) (Z : m_zo M j n st os) : tk_Mt l y_M_local b_M_local 3 (some .int) 2 E [.ref (E.1 + 172), .int (nI j), .int (iI a)] M M (some (.int (iI (a + os (ptI st a n))))) := by
  refine tk_ofV (by decide +kernel) [some (.ref (E.1 + 172)), some (.int (nI j)), some (.int (iI a))] rfl (Nat.le_of_ble_eq_true rfl) ?_
  intro p e s m args below meth c cx hB
  refine v_aload_n cx (tk_dc d_M_local 0 rfl) rfl ?_
  refine v_iconst cx (tk_dc d_M_local 1 rfl) (0) (by decide) ?_
  refine v_putI cx (tk_dc d_M_local 2 rfl) f_M_120 o_M (by decide) (by rfl) ⟨rfl, rfl⟩ ?_
  refine v_eqM (cz_id hz0) ?_
  refine v_iload_n cx (tk_dc d_M_local 3 rfl) rfl ?_
  refine v_callS (rest := _) cx (tk_dc d_M_local 4 rfl) m_M_132 ks_M_isZone k_M_isZone (c_M_isZone) rfl rfl (Nat.le_of_ble_eq_true rfl) (by decide) ?_
  refine v_if_eq cx (tk_dc d_M_local 5 rfl) 28 (by decide) (fun h => absurd h (b01_d (inN (n := 4) (by decide) hj))) (fun _ => ?_)
  refine v_iload_n cx (tk_dc d_M_local 6 rfl) rfl ?_
  refine v_callS (rest := _) cx (tk_dc d_M_local 7 rfl) m_M_136 ks_M_isMinute k_M_isMinute (c_M_isMinute) rfl rfl (Nat.le_of_ble_eq_true rfl) (by decide) ?_
  refine v_if_eq cx (tk_dc d_M_local 8 rfl) 28 (by decide) (fun h => absurd h (b01_d (inM h1 h2))) (fun _ => ?_)
  refine v_aload_n cx (tk_dc d_M_local 9 rfl) rfl ?_
  refine v_iload_n cx (tk_dc d_M_local 10 rfl) rfl ?_
  refine v_iload_n cx (tk_dc d_M_local 11 rfl) rfl ?_
  refine v_callV (rest := _) cx (tk_dc d_M_local 12 rfl) m_M_199 kn_M_localOf kv_M_localOf k_M_localOf o_M (by decide) rfl (c_M_localOf Z h1 h2) rfl rfl (Nat.le_of_ble_eq_true rfl) (by decide) ?_
  refine v_goto cx (tk_dc d_M_local 13 rfl) 29 (by decide) ?_
  exact v_iret cx hB (tk_dc d_M_local 15 rfl) (rfl) (rfl)

set_option maxHeartbeats 4000000 in
set_option maxRecDepth 100000 in
theorem c_M_hasToWait {l : Launch} {E : tk_E} {M : tk_M} {G : Nat → gJ} {x j : Nat} {a : Int} (hG : ∀ i, i < 8 → calM M i (G i)) (hkn : ∀ i, i < 8 → -1 ≤ (M.1 199 (8 * x + i)).toInt ∧ (M.1 199 (8 * x + i)).toInt ≤ 52595999) (hx : x < 3) (hj : j < 8) (h1 : 0 ≤ a) (h2 : a ≤ 52595999) : tk_Mt l y_M_hasToWait b_M_hasToWait 8 (some .boolean) 2 E [.ref (E.1 + 172), .int (nI x), .int (nI j), .int (iI a)] M M (some (.int (b01 (m_htw G M x j a 8)))) := by
  refine tk_ofV (by decide +kernel) [some (.ref (E.1 + 172)), some (.int (nI x)), some (.int (nI j)), some (.int (iI a)), none, none, none, none] rfl (Nat.le_of_ble_eq_true rfl) ?_
  intro p e s m args below meth c cx hB
  have dj := (hG j hj).lm h1 h2
  have loop : ∀ (r k : Nat) (w7 : Option Value), k + r = 8 → tk_V p l e (tk_rm 2 0 0) s m args below meth c (MQ below (tk_Q E 209 (tk_ct E M) (some (.int (b01 (m_htw G M x j a 8))))) args s 0 0 (tk_A E)) E 8 209 (tk_ct E M) 0 0 25 [some (.ref (E.1 + 172)), some (.int (nI x)), some (.int (nI j)), some (.int (iI a)), some (.int (b01 (m_htw G M x j a k))), some (.int (iI ((G j).2.2.2 a / 1440))), some (.int (nI k)), w7] [] := by
    intro r
    induction r with
    | zero =>
      intro k w7 hk
      have : k = 8 := by omega
      subst this
      refine v_iload cx (tk_dc d_M_hasToWait 14 rfl) rfl ?_
      refine v_bipush cx (tk_dc d_M_hasToWait 15 rfl) (8) (by decide) ?_
      refine v_icmp_ge cx (tk_dc d_M_hasToWait 16 rfl) 111 (by decide) (fun _ => ?_) (fun h => absurd (by decide) h)
      refine v_iload cx (tk_dc d_M_hasToWait 58 rfl) rfl ?_
      exact v_zret cx hB (tk_dc d_M_hasToWait 59 rfl) (by first | exact Or.inl rfl | exact Or.inr rfl | exact b01_01 _ | assumption) (rfl) (rfl)
    | succ r ih =>
      intro k w7 hk
      have hk8 : k < 8 := by omega
      have kn := hkn k hk8
      obtain ⟨y, hy⟩ : ∃ y, y = M.1 199 (8 * x + k) := ⟨_, rfl⟩
      rw [← hy] at kn
      have st1 : m_htw G M x j a (k + 1) = (m_htw G M x j a k || (bt (M.1 190 j) k && (decide (y = -1) || decide ((G k).2.2.2 y.toInt / 1440 < (G j).2.2.2 a / 1440)))) := by rw [hy]; rfl
      refine v_iload cx (tk_dc d_M_hasToWait 14 rfl) rfl ?_
      refine v_bipush cx (tk_dc d_M_hasToWait 15 rfl) (8) (by decide) ?_
      refine v_icmp_ge cx (tk_dc d_M_hasToWait 16 rfl) 111 (by decide) (fun h => absurd h (Int32.not_le.mpr (nI_lt (b := 8) (by omega) (by decide)))) (fun _ => ?_)
      refine v_aload_n cx (tk_dc d_M_hasToWait 17 rfl) rfl ?_
      refine v_getC cx 190 (tk_dc d_M_hasToWait 18 rfl) f_M_62 o_M (by decide) (by rfl) ?_
      refine v_iload_n cx (tk_dc d_M_hasToWait 19 rfl) rfl ?_
      refine w_iald cx (tk_dc d_M_hasToWait 20 rfl) a_190 j (rfl) (by omega) (by decide) ?_
      refine v_iload cx (tk_dc d_M_hasToWait 21 rfl) rfl ?_
      refine v_ishr cx (tk_dc d_M_hasToWait 22 rfl) ?_
      refine v_iconst cx (tk_dc d_M_hasToWait 23 rfl) (1) (by decide) ?_
      refine v_iand cx (tk_dc d_M_hasToWait 24 rfl) ?_
      refine v_eqi (b01 (bt (M.1 190 j) k)) (bt_is _ (by omega)) ?_
      refine v_if_ne cx (tk_dc d_M_hasToWait 25 rfl) 49 (by decide) (fun h43 => ?_) (fun h43 => ?_)
      · have g43 := b01_nz h43
        refine v_aload_n cx (tk_dc d_M_hasToWait 27 rfl) rfl ?_
        refine v_getC cx 199 (tk_dc d_M_hasToWait 28 rfl) f_M_90 o_M (by decide) (by rfl) ?_
        refine v_bipush cx (tk_dc d_M_hasToWait 29 rfl) (8) (by decide) ?_
        refine v_iload_n cx (tk_dc d_M_hasToWait 30 rfl) rfl ?_
        refine v_imul cx (tk_dc d_M_hasToWait 31 rfl) ?_
        refine v_iload cx (tk_dc d_M_hasToWait 32 rfl) rfl ?_
        refine v_iadd cx (tk_dc d_M_hasToWait 33 rfl) ?_
        refine w_iald cx (tk_dc d_M_hasToWait 34 rfl) a_199 (8 * x + k) (by rw [show (8 : Int32) = nI 8 from rfl, pk_mul, nI_add]) (by omega) (by decide) ?_
        refine v_eqi (y) (hy.symm) ?_
        refine v_istore (lo' := [_, _, _, _, _, _, _, _]) cx (tk_dc d_M_hasToWait 35 rfl) (by decide) rfl ?_
        refine v_iload cx (tk_dc d_M_hasToWait 36 rfl) rfl ?_
        refine v_if_ne cx (tk_dc d_M_hasToWait 37 rfl) 98 (by decide) (fun h65 => ?_) (fun h65 => ?_)
        · have g65 := b01_nz h65
          refine v_iconst cx (tk_dc d_M_hasToWait 52 rfl) (1) (by decide) ?_
          refine v_goto cx (tk_dc d_M_hasToWait 53 rfl) 103 (by decide) ?_
          refine v_eqi (b01 (m_htw G M x j a (k + 1))) (by rw [st1, g43, g65]; simp; rfl) ?_
          refine v_istore (lo' := [_, _, _, _, _, _, _, _]) cx (tk_dc d_M_hasToWait 55 rfl) (by decide) rfl ?_
          refine v_iinc (lo' := [_, _, _, _, _, _, _, _]) cx (tk_dc d_M_hasToWait 56 rfl) rfl (nI (k + 1)) ((nI_succ k).symm) (by decide) rfl ?_
          refine v_goto cx (tk_dc d_M_hasToWait 57 rfl) 25 (by decide) ?_
          exact ih (k + 1) _ (by omega)
        · have g65 := b01_z h65
          refine v_iload cx (tk_dc d_M_hasToWait 38 rfl) rfl ?_
          refine v_iconst cx (tk_dc d_M_hasToWait 39 rfl) (-1) (by decide) ?_
          refine v_icmp_eq cx (tk_dc d_M_hasToWait 40 rfl) 98 (by decide) (fun h71 => ?_) (fun h71 => ?_)
          · refine v_iconst cx (tk_dc d_M_hasToWait 52 rfl) (1) (by decide) ?_
            refine v_goto cx (tk_dc d_M_hasToWait 53 rfl) 103 (by decide) ?_
            refine v_eqi (b01 (m_htw G M x j a (k + 1))) (by rw [st1, g43]; simp [h71]; rfl) ?_
            refine v_istore (lo' := [_, _, _, _, _, _, _, _]) cx (tk_dc d_M_hasToWait 55 rfl) (by decide) rfl ?_
            refine v_iinc (lo' := [_, _, _, _, _, _, _, _]) cx (tk_dc d_M_hasToWait 56 rfl) rfl (nI (k + 1)) ((nI_succ k).symm) (by decide) rfl ?_
            refine v_goto cx (tk_dc d_M_hasToWait 57 rfl) 25 (by decide) ?_
            exact ih (k + 1) _ (by omega)
          · have kz : 0 ≤ y.toInt := by by_cases w : y.toInt < 0; (exact absurd (iI_ext (z := -1) (by omega)) h71); omega
            have dk := (hG k hk8).lm kz kn.2
            obtain ⟨z, h, ne, n, ρ, mv, st, os, hd, ex, e1, e2, e3, e4, e5, e6, e7, e8⟩ := hG k hk8
            refine v_aload_n cx (tk_dc d_M_hasToWait 41 rfl) rfl ?_
            refine v_aload_n cx (tk_dc d_M_hasToWait 42 rfl) rfl ?_
            refine v_getC cx 185 (tk_dc d_M_hasToWait 43 rfl) f_M_47 o_M (by decide) (by rfl) ?_
            refine v_iload cx (tk_dc d_M_hasToWait 44 rfl) rfl ?_
            refine w_iald cx (tk_dc d_M_hasToWait 45 rfl) a_185 k (rfl) (by omega) (by decide) ?_
            refine v_eqi (nI z) (e1.2.1.2.2.1) ?_
            refine v_iload cx (tk_dc d_M_hasToWait 46 rfl) rfl ?_
            refine v_eqi (iI y.toInt) (iI_of y) ?_
            refine v_callV (rest := _) cx (tk_dc d_M_hasToWait 47 rfl) m_M_199 kn_M_localOf kv_M_localOf k_M_localOf o_M (by decide) rfl (c_M_localOf e1.2.2.1 kz kn.2) rfl rfl (Nat.le_of_ble_eq_true rfl) (by decide) ?_
            refine v_eqi (iI ((G k).2.2.2 y.toInt)) (by rw [e8]) ?_
            refine v_sipush cx (tk_dc d_M_hasToWait 48 rfl) (1440) (by decide) ?_
            refine v_callS (rest := _) cx (tk_dc d_M_hasToWait 49 rfl) m_M_184 ks_M_parts k_M_parts (c_M_parts (b := 1440) (by omega) (by omega) (by omega) (by omega)) rfl rfl (Nat.le_of_ble_eq_true rfl) (by decide) ?_
            refine v_iload cx (tk_dc d_M_hasToWait 50 rfl) rfl ?_
            refine v_icmp_ge cx (tk_dc d_M_hasToWait 51 rfl) 102 (by decide) (fun h95 => ?_) (fun h95 => ?_)
            · have g95 : ¬ (G k).2.2.2 y.toInt / 1440 < (G j).2.2.2 a / 1440 := fun w => absurd h95 (Int32.not_le.mpr ((iI_lt (by omega) (by omega) (by omega) (by omega)).mpr w))
              refine v_iconst cx (tk_dc d_M_hasToWait 54 rfl) (0) (by decide) ?_
              refine v_eqi (b01 (m_htw G M x j a (k + 1))) (by rw [st1, g43, g65]; simp [h71, g95]; rfl) ?_
              refine v_istore (lo' := [_, _, _, _, _, _, _, _]) cx (tk_dc d_M_hasToWait 55 rfl) (by decide) rfl ?_
              refine v_iinc (lo' := [_, _, _, _, _, _, _, _]) cx (tk_dc d_M_hasToWait 56 rfl) rfl (nI (k + 1)) ((nI_succ k).symm) (by decide) rfl ?_
              refine v_goto cx (tk_dc d_M_hasToWait 57 rfl) 25 (by decide) ?_
              exact ih (k + 1) _ (by omega)
            · have g95 : (G k).2.2.2 y.toInt / 1440 < (G j).2.2.2 a / 1440 := (iI_lt (by omega) (by omega) (by omega) (by omega)).mp (Int32.not_le.mp h95)
              refine v_iconst cx (tk_dc d_M_hasToWait 52 rfl) (1) (by decide) ?_
              refine v_goto cx (tk_dc d_M_hasToWait 53 rfl) 103 (by decide) ?_
              refine v_eqi (b01 (m_htw G M x j a (k + 1))) (by rw [st1, g43, g65]; simp [h71, g95]; rfl) ?_
              refine v_istore (lo' := [_, _, _, _, _, _, _, _]) cx (tk_dc d_M_hasToWait 55 rfl) (by decide) rfl ?_
              refine v_iinc (lo' := [_, _, _, _, _, _, _, _]) cx (tk_dc d_M_hasToWait 56 rfl) rfl (nI (k + 1)) ((nI_succ k).symm) (by decide) rfl ?_
              refine v_goto cx (tk_dc d_M_hasToWait 57 rfl) 25 (by decide) ?_
              exact ih (k + 1) _ (by omega)
      · have g43 := b01_z h43
        refine v_goto cx (tk_dc d_M_hasToWait 26 rfl) 105 (by decide) ?_
        rw [show m_htw G M x j a k = m_htw G M x j a (k + 1) by rw [st1, g43]; simp]
        refine v_iinc (lo' := [_, _, _, _, _, _, _, _]) cx (tk_dc d_M_hasToWait 56 rfl) rfl (nI (k + 1)) ((nI_succ k).symm) (by decide) rfl ?_
        refine v_goto cx (tk_dc d_M_hasToWait 57 rfl) 25 (by decide) ?_
        exact ih (k + 1) _ (by omega)
  obtain ⟨z, h, ne, n, ρ, mv, st, os, hd, ex, e1, e2, e3, e4, e5, e6, e7, e8⟩ := hG j hj
  refine v_iconst cx (tk_dc d_M_hasToWait 0 rfl) (0) (by decide) ?_
  refine v_istore (lo' := [_, _, _, _, _, _, _, _]) cx (tk_dc d_M_hasToWait 1 rfl) (by decide) rfl ?_
  refine v_aload_n cx (tk_dc d_M_hasToWait 2 rfl) rfl ?_
  refine v_aload_n cx (tk_dc d_M_hasToWait 3 rfl) rfl ?_
  refine v_getC cx 185 (tk_dc d_M_hasToWait 4 rfl) f_M_47 o_M (by decide) (by rfl) ?_
  refine v_iload_n cx (tk_dc d_M_hasToWait 5 rfl) rfl ?_
  refine w_iald cx (tk_dc d_M_hasToWait 6 rfl) a_185 j (rfl) (by omega) (by decide) ?_
  refine v_eqi (nI z) (e1.2.1.2.2.1) ?_
  refine v_iload_n cx (tk_dc d_M_hasToWait 7 rfl) rfl ?_
  refine v_callV (rest := _) cx (tk_dc d_M_hasToWait 8 rfl) m_M_199 kn_M_localOf kv_M_localOf k_M_localOf o_M (by decide) rfl (c_M_localOf e1.2.2.1 h1 h2) rfl rfl (Nat.le_of_ble_eq_true rfl) (by decide) ?_
  refine v_eqi (iI ((G j).2.2.2 a)) (by rw [e8]) ?_
  refine v_sipush cx (tk_dc d_M_hasToWait 9 rfl) (1440) (by decide) ?_
  refine v_callS (rest := _) cx (tk_dc d_M_hasToWait 10 rfl) m_M_184 ks_M_parts k_M_parts (c_M_parts (b := 1440) (by omega) (by omega) (by omega) (by omega)) rfl rfl (Nat.le_of_ble_eq_true rfl) (by decide) ?_
  refine v_istore (lo' := [_, _, _, _, _, _, _, _]) cx (tk_dc d_M_hasToWait 11 rfl) (by decide) rfl ?_
  refine v_iconst cx (tk_dc d_M_hasToWait 12 rfl) (0) (by decide) ?_
  refine v_istore (lo' := [_, _, _, _, _, _, _, _]) cx (tk_dc d_M_hasToWait 13 rfl) (by decide) rfl ?_
  exact loop 8 0 _ rfl
