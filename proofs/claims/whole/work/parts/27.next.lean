/-! the next moment -/
def ewI (md : Nat) (lt bh nw : Int) : Int := if bh + 1 < (if md = 2 then nw else nw - lt) then (if md = 2 then nw else nw - lt) else bh + 1
theorem j_ew_eq {M : tk_M} {j md : Nat} {lt bh nw : Int} (h1 : M.1 (jN j) 6 = nI md) (h2 : M.1 (jN j) 7 = iI lt) (hm : md ≤ 2) (g1 : -1 ≤ bh) (g2 : bh ≤ 52595999) (g3 : 0 ≤ nw) (g4 : nw ≤ 52595999) (g5 : 0 ≤ lt) (g6 : lt ≤ 100000) : j_ew M j (iI bh) (iI nw) = iI (ewI md lt bh nw) := by
  unfold j_ew ewI
  rw [h1, h2, show (1 : Int32) = iI 1 from rfl, iI_add, iI_sub]
  by_cases c : md = 2
  · rw [if_pos (show nI md = 2 by rw [c]; rfl), if_pos c]
    by_cases d : bh + 1 < nw
    · rw [if_pos d, if_pos ((iI_lt (by omega) (by omega) (by omega) (by omega)).mpr d)]
    · rw [if_neg d, if_neg (fun w => d ((iI_lt (by omega) (by omega) (by omega) (by omega)).mp w))]
  · rw [if_neg (show ¬ nI md = 2 from fun w => c (nI_inj (b := 2) (by omega) (by omega) w)), if_neg c]
    by_cases d : bh + 1 < nw - lt
    · rw [if_pos d, if_pos ((iI_lt (by omega) (by omega) (by omega) (by omega)).mpr d)]
    · rw [if_neg d, if_neg (fun w => d ((iI_lt (by omega) (by omega) (by omega) (by omega)).mp w))]
theorem ewI_r {md : Nat} {lt bh nw : Int} (g1 : -1 ≤ bh) (g2 : bh ≤ 52595999) (g3 : 0 ≤ nw) (g4 : nw ≤ 52595999) (g5 : 0 ≤ lt) (g6 : lt ≤ 100000) : 0 ≤ ewI md lt bh nw ∧ ewI md lt bh nw ≤ 52596000 := by
  unfold ewI
  split
  · split <;> omega
  · omega
/-- the last due minute -/
def LDP (due : Int → Bool) (a b r : Int) : Prop := (r = -1 ∧ ∀ m, a ≤ m → 0 ≤ m → m ≤ b → due m = false) ∨ (due r = true ∧ a ≤ r ∧ 0 ≤ r ∧ r ≤ b ∧ ∀ m, r < m → m ≤ b → due m = false)
def NXT (md : Nat) (due : Int → Bool) (a b r : Int) : Prop := if md = 1 then LDP due a b r else FDP due a b r
/-- is there one -/
def EXD (due : Int → Bool) (a b : Int) (x : Int32) : Prop := (x = 1 ∧ ∃ m, a ≤ m ∧ 0 ≤ m ∧ m ≤ b ∧ due m = true) ∨ (x = 0 ∧ ∀ m, a ≤ m → 0 ≤ m → m ≤ b → due m = false)
theorem FDP_r {due : Int → Bool} {a b r : Int} (h : FDP due a b r) (hb : -1 ≤ b) : -1 ≤ r ∧ r ≤ b ∨ r = -1 := by
  rcases h with h | h
  · exact Or.inr h.1
  · have := h.2.2.1
    have := h.2.2.2.1
    omega
set_option maxHeartbeats 4000000 in
set_option maxRecDepth 100000 in
theorem c_J_hasNext {l : Launch} {E : tk_E} {M : tk_M} {j z h ne n md : Nat} {ρ : ru} {mv : Bool} {st os : Nat → Int} {lt bh nw : Int} (H : j_ok M j z h ρ mv) (Z : zo_m M z n st os) (hne : ne ≤ 8) (hxc : M.1 (jN j) 4 = nI ne) (hmd : M.1 (jN j) 6 = nI md) (hlt : M.1 (jN j) 7 = iI lt) (hm2 : md ≤ 2) (g1 : -1 ≤ bh) (g2 : bh ≤ 52595999) (g3 : 0 ≤ nw) (g4 : nw ≤ 52595999) (g5 : 0 ≤ lt) (g6 : lt ≤ 100000) : tk_MI l y_J_hasNext b_J_hasNext 3 (some .boolean) 5 E [.ref (E.1 + jN j), .int (iI bh), .int (iI nw)] M M (EXD (j_due M j z h ne n ρ mv st os) (ewI md lt bh nw) nw) := by
  refine tk_ofVI (by decide +kernel) [some (.ref (E.1 + jN j)), some (.int (iI bh)), some (.int (iI nw))] rfl (Nat.le_of_ble_eq_true rfl) ?_
  intro p e s m args below meth c cx hB
  have hj := H.1
  have hr := ewI_r (md := md) g1 g2 g3 g4 g5 g6
  refine v_aload_n cx (tk_dc d_J_hasNext 0 rfl) rfl ?_
  refine v_aload_n cx (tk_dc d_J_hasNext 1 rfl) rfl ?_
  refine v_iload_n cx (tk_dc d_J_hasNext 2 rfl) rfl ?_
  refine v_iload_n cx (tk_dc d_J_hasNext 3 rfl) rfl ?_
  refine v_callV (rest := _) cx (tk_dc d_J_hasNext 4 rfl) m_J_113 kn_J_earliestWanted kv_J_earliestWanted k_J_earliestWanted (o_J hj) (by decide) rfl (c_J_earliestWanted hj) rfl rfl (Nat.le_of_ble_eq_true rfl) (by decide) ?_
  refine v_eqi (iI (ewI md lt bh nw)) (j_ew_eq hmd hlt hm2 g1 g2 g3 g4 g5 g6) ?_
  refine v_iload_n cx (tk_dc d_J_hasNext 5 rfl) rfl ?_
  refine v_callVI (rest := _) cx (tk_dc d_J_hasNext 6 rfl) m_J_116 kn_J_firstDue kv_J_firstDue k_J_firstDue (o_J hj) (by decide) rfl (c_J_firstDue H Z hne hxc (by omega) (by omega) (by omega) (by omega)) rfl rfl (Nat.le_of_ble_eq_true rfl) (by decide) (fun x9 hx9 => ?_)
  obtain ⟨r, rfl, hF⟩ := hx9
  have hFr := FDP_r hF (by omega)
  refine v_iconst cx (tk_dc d_J_hasNext 7 rfl) (-1) (by decide) ?_
  refine v_icmp_eq cx (tk_dc d_J_hasNext 8 rfl) 19 (by decide) (fun h12 => ?_) (fun h12 => ?_)
  · have hr1 : r = -1 := (iI_eq (b := -1) (by omega) (by omega) (by omega) (by omega)).mp h12
    refine v_iconst cx (tk_dc d_J_hasNext 11 rfl) (0) (by decide) ?_
    exact v_zretI cx hB (tk_dc d_J_hasNext 12 rfl) (by first | exact Or.inl rfl | exact Or.inr rfl | exact b01_01 _ | assumption) (Or.inr ⟨rfl, by rcases hF with w | w; (exact w.2); (have := w.2.2.1; omega)⟩) (rfl)
  · have hr1 : ¬ r = -1 := fun w => h12 (by rw [w]; rfl)
    refine v_iconst cx (tk_dc d_J_hasNext 9 rfl) (1) (by decide) ?_
    refine v_goto cx (tk_dc d_J_hasNext 10 rfl) 20 (by decide) ?_
    exact v_zretI cx hB (tk_dc d_J_hasNext 12 rfl) (by first | exact Or.inl rfl | exact Or.inr rfl | exact b01_01 _ | assumption) (Or.inl ⟨rfl, by rcases hF with w | w; (exact absurd w.1 hr1); exact ⟨r, w.2.1, w.2.2.1, w.2.2.2.1, w.1⟩⟩) (rfl)

set_option maxHeartbeats 4000000 in
set_option maxRecDepth 100000 in
theorem c_J_nextMoment {l : Launch} {E : tk_E} {M : tk_M} {j z h ne n md : Nat} {ρ : ru} {mv : Bool} {st os : Nat → Int} {lt bh nw : Int} (H : j_ok M j z h ρ mv) (Z : zo_m M z n st os) (hne : ne ≤ 8) (hxc : M.1 (jN j) 4 = nI ne) (hmd : M.1 (jN j) 6 = nI md) (hlt : M.1 (jN j) 7 = iI lt) (hm2 : md ≤ 2) (g1 : -1 ≤ bh) (g2 : bh ≤ 52595999) (g3 : 0 ≤ nw) (g4 : nw ≤ 52595999) (g5 : 0 ≤ lt) (g6 : lt ≤ 100000) : tk_MI l y_J_nextMoment b_J_nextMoment 8 (some .int) 5 E [.ref (E.1 + jN j), .int (iI bh), .int (iI nw)] M M (fun x => ∃ r : Int, x = iI r ∧ NXT md (j_due M j z h ne n ρ mv st os) (ewI md lt bh nw) nw r) := by
  refine tk_ofVI (by decide +kernel) [some (.ref (E.1 + jN j)), some (.int (iI bh)), some (.int (iI nw)), none, none, none, none, none] rfl (Nat.le_of_ble_eq_true rfl) ?_
  intro p e s m args below meth c cx hB
  have hj := H.1
  have hr := ewI_r (md := md) g1 g2 g3 g4 g5 g6
  have loop : md = 1 → ∀ (k tn : Nat) (f hg : Int) (w6 w7 : Option Value), tn + k = 32 → (j_due M j z h ne n ρ mv st os) f = true → ewI md lt bh nw ≤ f → 0 ≤ f → f ≤ hg → hg ≤ nw → (∀ m, hg < m → m ≤ nw → (j_due M j z h ne n ρ mv st os) m = false) → hg - f < 2 ^ k → tk_V p l e (tk_rm 5 0 0) s m args below meth c (MQ below (tk_QI E 209 (tk_ct E M) (fun x => ∃ r : Int, x = iI r ∧ NXT md (j_due M j z h ne n ρ mv st os) (ewI md lt bh nw) nw r)) args s 0 0 (tk_A E)) E 8 209 (tk_ct E M) 0 0 33 [some (.ref (E.1 + jN j)), some (.int (iI bh)), some (.int (iI nw)), some (.int (iI f)), some (.int (iI hg)), some (.int (nI tn)), w6, w7] [] := by
    intro hm1 k
    induction k with
    | zero =>
      intro tn f hg w6 w7 htn hf1 hf2 hf3 hf4 hf5 hno hgap
      obtain rfl : tn = 32 := by omega
      have hfh : hg = f := by omega
      refine v_iload cx (tk_dc d_J_nextMoment 21 rfl) rfl ?_
      refine v_bipush cx (tk_dc d_J_nextMoment 22 rfl) (32) (by decide) ?_
      refine v_icmp_ge cx (tk_dc d_J_nextMoment 23 rfl) 91 (by decide) (fun _ => ?_) (fun h => absurd (by decide) h)
      refine v_iload_n cx (tk_dc d_J_nextMoment 52 rfl) rfl ?_
      exact v_iretI cx hB (tk_dc d_J_nextMoment 53 rfl) (⟨f, rfl, by unfold NXT; rw [if_pos hm1]; exact Or.inr ⟨hf1, hf2, hf3, by omega, fun m w1 w2 => hno m (by omega) w2⟩⟩) (rfl)
    | succ k ih =>
      intro tn f hg w6 w7 htn hf1 hf2 hf3 hf4 hf5 hno hgap
      have hp2 : (2 : Int) ^ (k + 1) = 2 * 2 ^ k := by rw [Int.pow_succ]; omega
      refine v_iload cx (tk_dc d_J_nextMoment 21 rfl) rfl ?_
      refine v_bipush cx (tk_dc d_J_nextMoment 22 rfl) (32) (by decide) ?_
      refine v_icmp_ge cx (tk_dc d_J_nextMoment 23 rfl) 91 (by decide) (fun h => absurd h (nI_ge (b := 32) (by omega) (by decide))) (fun _ => ?_)
      refine v_iload_n cx (tk_dc d_J_nextMoment 24 rfl) rfl ?_
      refine v_iload cx (tk_dc d_J_nextMoment 25 rfl) rfl ?_
      refine v_icmp_ge cx (tk_dc d_J_nextMoment 26 rfl) 91 (by decide) (fun h43 => ?_) (fun h43 => ?_)
      · have hfh : hg = f := by have := (iI_le (by omega) (by omega) (by omega) (by omega)).mp h43; omega
        refine v_iload_n cx (tk_dc d_J_nextMoment 52 rfl) rfl ?_
        exact v_iretI cx hB (tk_dc d_J_nextMoment 53 rfl) (⟨f, rfl, by unfold NXT; rw [if_pos hm1]; exact Or.inr ⟨hf1, hf2, hf3, by omega, fun m w1 w2 => hno m (by omega) w2⟩⟩) (rfl)
      · have hfh : f < hg := Int.not_le.mp (fun w => h43 ((iI_le (by omega) (by omega) (by omega) (by omega)).mpr w))
        refine v_iload cx (tk_dc d_J_nextMoment 27 rfl) rfl ?_
        refine v_iload cx (tk_dc d_J_nextMoment 28 rfl) rfl ?_
        refine v_iload_n cx (tk_dc d_J_nextMoment 29 rfl) rfl ?_
        refine v_isub cx (tk_dc d_J_nextMoment 30 rfl) ?_
        refine v_iconst cx (tk_dc d_J_nextMoment 31 rfl) (2) (by decide) ?_
        refine v_idiv cx (tk_dc d_J_nextMoment 32 rfl) (by decide) ?_
        refine v_isub cx (tk_dc d_J_nextMoment 33 rfl) ?_
        refine v_eqi (iI (hg - (hg - f) / 2)) (by rw [iI_sub, show (2 : Int32) = iI 2 from rfl, iI_divN (by omega) (by omega) (by omega) (by omega), iI_sub]) ?_
        refine v_istore (lo' := [_, _, _, _, _, _, _, _]) cx (tk_dc d_J_nextMoment 34 rfl) (by decide) rfl ?_
        refine v_aload_n cx (tk_dc d_J_nextMoment 35 rfl) rfl ?_
        refine v_iload cx (tk_dc d_J_nextMoment 36 rfl) rfl ?_
        refine v_iload cx (tk_dc d_J_nextMoment 37 rfl) rfl ?_
        refine v_callVI (rest := _) cx (tk_dc d_J_nextMoment 38 rfl) m_J_116 kn_J_firstDue kv_J_firstDue k_J_firstDue (o_J hj) (by decide) rfl (c_J_firstDue H Z hne hxc (by omega) (by omega) (by omega) (by omega)) rfl rfl (Nat.le_of_ble_eq_true rfl) (by decide) (fun x9 hx9 => ?_)
        obtain ⟨r, rfl, hF⟩ := hx9
        have hFr := FDP_r hF (by omega)
        refine v_istore (lo' := [_, _, _, _, _, _, _, _]) cx (tk_dc d_J_nextMoment 39 rfl) (by decide) rfl ?_
        refine v_iload cx (tk_dc d_J_nextMoment 40 rfl) rfl ?_
        refine v_iconst cx (tk_dc d_J_nextMoment 41 rfl) (-1) (by decide) ?_
        refine v_icmp_ne cx (tk_dc d_J_nextMoment 42 rfl) 82 (by decide) (fun h70 => ?_) (fun h70 => ?_)
        · have hr1 : ¬ r = -1 := fun w => h70 (by rw [w]; rfl)
          obtain ⟨q1, q2, q3, q4, q5⟩ : (j_due M j z h ne n ρ mv st os) r = true ∧ hg - (hg - f) / 2 ≤ r ∧ 0 ≤ r ∧ r ≤ hg ∧ _ := by rcases hF with w | w; (exact absurd w.1 hr1); exact w
          refine v_iload cx (tk_dc d_J_nextMoment 48 rfl) rfl ?_
          refine v_istore_n (lo' := [_, _, _, _, _, _, _, _]) cx (tk_dc d_J_nextMoment 49 rfl) (by decide) rfl ?_
          refine v_iinc (lo' := [_, _, _, _, _, _, _, _]) cx (tk_dc d_J_nextMoment 50 rfl) rfl (nI (tn + 1)) ((nI_succ tn).symm) (by decide) rfl ?_
          refine v_goto cx (tk_dc d_J_nextMoment 51 rfl) 33 (by decide) ?_
          exact ih (tn + 1) r hg _ _ (by omega) q1 (by omega) q3 q4 hf5 hno (by omega)
        · have hr1 : r = -1 := (iI_eq (b := -1) (by omega) (by omega) (by omega) (by omega)).mp h70
          have hnn : ∀ m, hg - (hg - f) / 2 ≤ m → 0 ≤ m → m ≤ hg → (j_due M j z h ne n ρ mv st os) m = false := by rcases hF with w | w; (exact w.2); (have := w.2.2.1; omega)
          refine v_iload cx (tk_dc d_J_nextMoment 43 rfl) rfl ?_
          refine v_iconst cx (tk_dc d_J_nextMoment 44 rfl) (1) (by decide) ?_
          refine v_isub cx (tk_dc d_J_nextMoment 45 rfl) ?_
          refine v_eqi (iI (hg - (hg - f) / 2 - 1)) (iI_sub _ 1) ?_
          refine v_istore (lo' := [_, _, _, _, _, _, _, _]) cx (tk_dc d_J_nextMoment 46 rfl) (by decide) rfl ?_
          refine v_goto cx (tk_dc d_J_nextMoment 47 rfl) 85 (by decide) ?_
          refine v_iinc (lo' := [_, _, _, _, _, _, _, _]) cx (tk_dc d_J_nextMoment 50 rfl) rfl (nI (tn + 1)) ((nI_succ tn).symm) (by decide) rfl ?_
          refine v_goto cx (tk_dc d_J_nextMoment 51 rfl) 33 (by decide) ?_
          exact ih (tn + 1) f (hg - (hg - f) / 2 - 1) _ _ (by omega) hf1 hf2 hf3 (by omega) (by omega) (fun m w1 w2 => by by_cases w3 : m ≤ hg; (exact hnn m (by omega) (by omega) w3); exact hno m (by omega) w2) (by omega)
  refine v_aload_n cx (tk_dc d_J_nextMoment 0 rfl) rfl ?_
  refine v_aload_n cx (tk_dc d_J_nextMoment 1 rfl) rfl ?_
  refine v_iload_n cx (tk_dc d_J_nextMoment 2 rfl) rfl ?_
  refine v_iload_n cx (tk_dc d_J_nextMoment 3 rfl) rfl ?_
  refine v_callV (rest := _) cx (tk_dc d_J_nextMoment 4 rfl) m_J_113 kn_J_earliestWanted kv_J_earliestWanted k_J_earliestWanted (o_J hj) (by decide) rfl (c_J_earliestWanted hj) rfl rfl (Nat.le_of_ble_eq_true rfl) (by decide) ?_
  refine v_eqi (iI (ewI md lt bh nw)) (j_ew_eq hmd hlt hm2 g1 g2 g3 g4 g5 g6) ?_
  refine v_iload_n cx (tk_dc d_J_nextMoment 5 rfl) rfl ?_
  refine v_callVI (rest := _) cx (tk_dc d_J_nextMoment 6 rfl) m_J_116 kn_J_firstDue kv_J_firstDue k_J_firstDue (o_J hj) (by decide) rfl (c_J_firstDue H Z hne hxc (by omega) (by omega) (by omega) (by omega)) rfl rfl (Nat.le_of_ble_eq_true rfl) (by decide) (fun x9 hx9 => ?_)
  obtain ⟨r, rfl, hF⟩ := hx9
  have hFr := FDP_r hF (by omega)
  refine v_istore_n (lo' := [_, _, _, _, _, _, _, _]) cx (tk_dc d_J_nextMoment 7 rfl) (by decide) rfl ?_
  refine v_aload_n cx (tk_dc d_J_nextMoment 8 rfl) rfl ?_
  refine v_getI cx (tk_dc d_J_nextMoment 9 rfl) f_J_34 (o_J (by assumption)) (by decide) (by rfl) ?_
  refine v_iconst cx (tk_dc d_J_nextMoment 10 rfl) (1) (by decide) ?_
  refine v_icmp_ne cx (tk_dc d_J_nextMoment 11 rfl) 25 (by decide) (fun h17 => ?_) (fun h17 => ?_)
  · have hm1 : ¬ md = 1 := fun w => h17 (by rw [hmd, w]; rfl)
    refine v_iload_n cx (tk_dc d_J_nextMoment 15 rfl) rfl ?_
    exact v_iretI cx hB (tk_dc d_J_nextMoment 16 rfl) (⟨r, rfl, by unfold NXT; rw [if_neg hm1]; exact hF⟩) (rfl)
  · have hm1 : md = 1 := nI_inj (by omega) (by decide) (show nI md = nI 1 by rw [← hmd]; exact h17)
    refine v_iload_n cx (tk_dc d_J_nextMoment 12 rfl) rfl ?_
    refine v_iconst cx (tk_dc d_J_nextMoment 13 rfl) (-1) (by decide) ?_
    refine v_icmp_ne cx (tk_dc d_J_nextMoment 14 rfl) 27 (by decide) (fun h22 => ?_) (fun h22 => ?_)
    · have hr1 : ¬ r = -1 := fun w => h22 (by rw [w]; rfl)
      obtain ⟨q1, q2, q3, q4, q5⟩ : (j_due M j z h ne n ρ mv st os) r = true ∧ ewI md lt bh nw ≤ r ∧ 0 ≤ r ∧ r ≤ nw ∧ _ := by rcases hF with w | w; (exact absurd w.1 hr1); exact w
      refine v_iload_n cx (tk_dc d_J_nextMoment 17 rfl) rfl ?_
      refine v_istore (lo' := [_, _, _, _, _, _, _, _]) cx (tk_dc d_J_nextMoment 18 rfl) (by decide) rfl ?_
      refine v_iconst cx (tk_dc d_J_nextMoment 19 rfl) (0) (by decide) ?_
      refine v_istore (lo' := [_, _, _, _, _, _, _, _]) cx (tk_dc d_J_nextMoment 20 rfl) (by decide) rfl ?_
      exact loop hm1 32 0 r nw _ _ rfl q1 q2 q3 q4 (Int.le_refl _) (fun m w1 w2 => by omega) (by omega)
    · have hr1 : r = -1 := (iI_eq (b := -1) (by omega) (by omega) (by omega) (by omega)).mp h22
      refine v_iload_n cx (tk_dc d_J_nextMoment 15 rfl) rfl ?_
      exact v_iretI cx hB (tk_dc d_J_nextMoment 16 rfl) (⟨r, rfl, by unfold NXT; rw [if_pos hm1]; rcases hF with w | w; (exact Or.inl w); (have := w.2.2.1; omega)⟩) (rfl)
