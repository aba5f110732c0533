/-! the first due minute -/
theorem pt_mono {n : Nat} {st os : Nat → Int} (h : zo n st os) {m m' : Int} (hm : 0 ≤ m) (h1 : m ≤ m') : ptI st m n ≤ ptI st m' n := by
  obtain ⟨a, b, -⟩ := pt_in h hm n h.1 (Nat.le_refl _)
  obtain ⟨a', b', e'⟩ := pt_in h (m := m') (by omega) n h.1 (Nat.le_refl _)
  rcases Nat.lt_or_ge (ptI st m' n) (ptI st m n) with z | z
  · have := e' _ z a
    omega
  · exact z
/-- the memory holds a zone's parts -/
def zo_m (M : tk_M) (z n : Nat) (st os : Nat → Int) : Prop := zo n st os ∧ M.1 (zN z) 3 = nI n ∧ ∀ i, i < n → M.1 (zN z + 1) i = iI (st i) ∧ M.1 (zN z + 2) i = iI (os i)
theorem z_end_eq {M : tk_M} {z n : Nat} {st os : Nat → Int} (h : zo_m M z n st os) (i : Nat) : z_end M z n i = iI (enI n st i) := by
  unfold z_end enI
  by_cases c : i + 1 < n
  · rw [if_pos c, if_pos c, (h.2.2 _ c).1]
    exact iI_sub _ 1
  · rw [if_neg c, if_neg c]
    rfl
theorem enI_r {n : Nat} {st os : Nat → Int} (h : zo n st os) (i : Nat) : -1 ≤ enI n st i ∧ enI n st i ≤ 52595999 := by
  unfold enI
  by_cases c : i + 1 < n
  · rw [if_pos c]
    have := h.2.2.2.2.1 _ c
    omega
  · rw [if_neg c]
    omega
theorem z_fl_eq {M : tk_M} {z n : Nat} {st os : Nat → Int} (h : zo_m M z n st os) {i : Nat} (hi : i < n) {x : Int} (hx : 0 ≤ x) (hx2 : x ≤ 60000000) : z_fl M z i (iI x) = iI (flI st os i x) := by
  obtain ⟨h0, -, h2⟩ := h
  obtain ⟨e1, e2⟩ := h2 i hi
  obtain ⟨e3, e4⟩ := h2 (i - 1) (by omega)
  have r1 := h0.2.2.2.2.1 i hi
  have r2 := h0.2.2.2.2.1 (i - 1) (by omega)
  unfold z_fl flI
  rw [e1, e2, e4, show (0 : Int32) = iI 0 from rfl]
  have hc : (iI (st i) < iI x ∨ iI (st i) = iI 0) ↔ (st i < x ∨ st i = 0) := by
    rw [iI_lt (by omega) (by omega) (by omega) (by omega), iI_eq (by omega) (by omega) (by omega) (by omega)]
  by_cases c : st i < x ∨ st i = 0
  · rw [if_pos (hc.mpr c), if_pos c, iI_add]
  · rw [if_neg (fun w => c (hc.mp w)), if_neg c]
    by_cases c2 : os i < os (i - 1)
    · rw [if_pos c2, if_pos ((iI_lt (by omega) (by omega) (by omega) (by omega)).mpr c2), iI_add]
    · rw [if_neg c2, if_neg (fun w => c2 ((iI_lt (by omega) (by omega) (by omega) (by omega)).mp w)), iI_add]
theorem z_had_eq {M : tk_M} {z n : Nat} {st os : Nat → Int} (h : zo_m M z n st os) {p : Nat} (hp : p < n) {x : Int} (hx : -100000 ≤ x) (hx2 : x ≤ 60000000) : ∃ v : Int, z_had M z n (iI x) p 0 = iI v ∧ ((v = x - 1 ∧ hadB st os p x = false) ∨ ∃ k, k < p ∧ st k + os k ≤ x ∧ x ≤ st (k + 1) - 1 + os k ∧ v = st (k + 1) - 1 + os k) := by
  have key : ∀ d i, i + d = p → hadB st os i x = false → ∃ v : Int, z_had M z n (iI x) d i = iI v ∧ ((v = x - 1 ∧ hadB st os p x = false) ∨ ∃ k, k < p ∧ st k + os k ≤ x ∧ x ≤ st (k + 1) - 1 + os k ∧ v = st (k + 1) - 1 + os k) := by
    intro d
    induction d with
    | zero =>
      intro i hi hf
      obtain rfl : i = p := by omega
      exact ⟨x - 1, iI_sub x 1, Or.inl ⟨rfl, hf⟩⟩
    | succ d ih =>
      intro i hi hf
      have hin : i < n := by omega
      obtain ⟨e1, e2⟩ := h.2.2 i hin
      have r1 := h.1.2.2.2.2.1 i hin
      have r2 := h.1.2.2.2.2.1 (i + 1) (by omega)
      have e3 : z_end M z n i + M.1 (zN z + 2) i = iI (st (i + 1) - 1 + os i) := by
        rw [z_end_eq h, e2, iI_add]
        unfold enI
        rw [if_pos (by omega)]
      unfold z_had
      rw [e3, e1, e2, iI_add]
      by_cases c : st i + os i ≤ x ∧ x ≤ st (i + 1) - 1 + os i
      · rw [if_pos ⟨(iI_le (by omega) (by omega) (by omega) (by omega)).mpr c.1, (iI_le (by omega) (by omega) (by omega) (by omega)).mpr c.2⟩]
        exact ⟨_, rfl, Or.inr ⟨i, by omega, c.1, c.2, rfl⟩⟩
      · rw [if_neg (fun w => c ⟨(iI_le (by omega) (by omega) (by omega) (by omega)).mp w.1, (iI_le (by omega) (by omega) (by omega) (by omega)).mp w.2⟩)]
        refine ih (i + 1) (by omega) ?_
        show (hadB st os i x || decide (st i ≤ x - os i ∧ x - os i < st (i + 1))) = false
        rw [hf, decide_eq_false (by omega)]
        rfl
  exact key p 0 (by omega) rfl
theorem j_exc_ex {M : tk_M} {j ne : Nat} {x : Int} (h : j_exc M j ne (iI x) = true) (h1 : -2147483648 ≤ x) (h2 : x < 2147483648) : ∃ i, i < ne ∧ (M.1 (jN j + 2) i).toInt = x := by
  obtain ⟨i, a, b⟩ := (anyN_iff _ _).mp h
  refine ⟨i, a, ?_⟩
  rw [of_decide_eq_true b]
  exact iI_toInt h1 h2
/-- what a search for a due minute from a to b has found -/
def FDP (due : Int → Bool) (a b r : Int) : Prop := (r = -1 ∧ ∀ m, a ≤ m → 0 ≤ m → m ≤ b → due m = false) ∨ (due r = true ∧ a ≤ r ∧ 0 ≤ r ∧ r ≤ b ∧ ∀ m, a ≤ m → 0 ≤ m → m < r → due m = false)
/-- how many turns are left in part p from local minute x on -/
def fdM (M : tk_M) (j ne p : Nat) (st os : Nat → Int) (x : Int) : Nat := cntN (fun i => decide (x ≤ st (i + 1) - 1 + os i)) p + cntN (fun i => decide (x ≤ (M.1 (jN j + 2) i).toInt + os p)) ne
theorem fdM_had {M : tk_M} {j ne p : Nat} {st os : Nat → Int} {x x' : Int} {k : Nat} (hk : k < p) (h : x ≤ st (k + 1) - 1 + os k) (h' : st (k + 1) - 1 + os k < x') : fdM M j ne p st os x' < fdM M j ne p st os x := by
  have h1 := cntN_drop (f := fun i => decide (x ≤ st (i + 1) - 1 + os i)) (g := fun i => decide (x' ≤ st (i + 1) - 1 + os i)) (fun i hi => by simp only [decide_eq_true_eq] at hi ⊢; omega) (k := k) (by simpa using h) (by simpa using h') p hk
  have h2 := cntN_mono (f := fun i => decide (x ≤ (M.1 (jN j + 2) i).toInt + os p)) (g := fun i => decide (x' ≤ (M.1 (jN j + 2) i).toInt + os p)) (fun i hi => by simp only [decide_eq_true_eq] at hi ⊢; omega) ne
  unfold fdM
  omega
theorem fdM_exc {M : tk_M} {j ne p : Nat} {st os : Nat → Int} {x x' m : Int} (hm : ∃ i, i < ne ∧ (M.1 (jN j + 2) i).toInt = m) (h : x ≤ m + os p) (h' : m + os p < x') : fdM M j ne p st os x' < fdM M j ne p st os x := by
  obtain ⟨k, hk, he⟩ := hm
  have h1 := cntN_mono (f := fun i => decide (x ≤ st (i + 1) - 1 + os i)) (g := fun i => decide (x' ≤ st (i + 1) - 1 + os i)) (fun i hi => by simp only [decide_eq_true_eq] at hi ⊢; omega) p
  have h2 := cntN_drop (f := fun i => decide (x ≤ (M.1 (jN j + 2) i).toInt + os p)) (g := fun i => decide (x' ≤ (M.1 (jN j + 2) i).toInt + os p)) (fun i hi => by simp only [decide_eq_true_eq] at hi ⊢; omega) (k := k) (by simp only [decide_eq_true_eq, he]; exact h) (by simp only [decide_eq_false_iff_not, he]; omega) ne hk
  unfold fdM
  omega
theorem fdM_le (M : tk_M) (j ne p : Nat) (st os : Nat → Int) (x : Int) : fdM M j ne p st os x ≤ p + ne := by
  have h1 := cntN_le (fun i => decide (x ≤ st (i + 1) - 1 + os i)) p
  have h2 := cntN_le (fun i => decide (x ≤ (M.1 (jN j + 2) i).toInt + os p)) ne
  unfold fdM
  omega
def j_due (M : tk_M) (j z h ne n : Nat) (ρ : ru) (mv : Bool) (st os : Nat → Int) : Int → Bool := dueB n st os (ldB ρ (j_jd M z h ρ mv)) (fun m => j_exc M j ne (iI m))
set_option maxHeartbeats 4000000 in
set_option maxRecDepth 100000 in
theorem c_J_firstDue {l : Launch} {E : tk_E} {M : tk_M} {j z h ne n : Nat} {ρ : ru} {mv : Bool} {st os : Nat → Int} {a b : Int} (H : j_ok M j z h ρ mv) (Z : zo_m M z n st os) (hne : ne ≤ 8) (hxc : M.1 (jN j) 4 = nI ne) (ha : -1000000 ≤ a) (ha2 : a ≤ 60000000) (hb : -1 ≤ b) (hb2 : b ≤ 52595999) : tk_MI l y_J_firstDue b_J_firstDue 11 (some .int) 4 E [.ref (E.1 + jN j), .int (iI a), .int (iI b)] M M (fun x => ∃ r : Int, x = iI r ∧ FDP (j_due M j z h ne n ρ mv st os) a b r) := by
  refine tk_ofVI (by decide +kernel) [some (.ref (E.1 + jN j)), some (.int (iI a)), some (.int (iI b)), none, none, none, none, none, none, none, none] rfl (Nat.le_of_ble_eq_true rfl) ?_
  intro p e s m args below meth c cx hB
  have H0 := H
  obtain ⟨hj, hz, hzr, -⟩ := H
  have Z0 := Z
  obtain ⟨zo0, hn, hso⟩ := Z
  have zo1 := zo0
  obtain ⟨hn1, hn9, hst0, hos0, hrg, hinc⟩ := zo1
  have hs00 : M.1 (zN z + 1) 0 = 0 := by rw [(hso 0 (by omega)).1, hst0]; rfl
  have outer : ∀ (t q : Nat) (w4 w5 w6 w7 w8 w9 w10 : Option Value), q + t = n → (∀ m, a ≤ m → 0 ≤ m → m ≤ b → ptI st m n < q → (j_due M j z h ne n ρ mv st os) m = false) → tk_V p l e (tk_rm 4 0 0) s m args below meth c (MQ below (tk_QI E 209 (tk_ct E M) (fun x => ∃ r : Int, x = iI r ∧ FDP (j_due M j z h ne n ρ mv st os) a b r)) args s 0 0 (tk_A E)) E 11 209 (tk_ct E M) 0 0 2 [some (.ref (E.1 + jN j)), some (.int (iI a)), some (.int (iI b)), some (.int (nI q)), w4, w5, w6, w7, w8, w9, w10] [] := by
    intro t
    induction t with
    | zero =>
      intro q w4 w5 w6 w7 w8 w9 w10 hq hI
      obtain rfl : q = n := by omega
      refine v_iload_n cx (tk_dc d_J_firstDue 2 rfl) rfl ?_
      refine v_aload_n cx (tk_dc d_J_firstDue 3 rfl) rfl ?_
      refine v_getR cx (tk_dc d_J_firstDue 4 rfl) f_J_43 (o_J (by assumption)) (by decide) (by rfl) (hzr) ?_
      refine v_getI cx (tk_dc d_J_firstDue 5 rfl) f_J_86 (o_Z hz) (by decide) (by rfl) ?_
      refine v_icmp_ge cx (tk_dc d_J_firstDue 6 rfl) 196 (by decide) (fun _ => ?_) (fun h => absurd (by rw [hn]; exact Int32.le_refl _) h)
      refine v_iconst cx (tk_dc d_J_firstDue 98 rfl) (-1) (by decide) ?_
      exact v_iretI cx hB (tk_dc d_J_firstDue 99 rfl) (⟨-1, rfl, Or.inl ⟨rfl, fun m h1 h2 h3 => hI m h1 h2 h3 (pt_en zo0 h2 (by omega)).1⟩⟩) (rfl)
    | succ t ih =>
      intro q w4 w5 w6 w7 w8 w9 w10 hq hI
      have hqn : q < n := by omega
      obtain ⟨es, eo⟩ := hso q hqn
      have rq := hrg q hqn
      have hen := enI_r zo0 q
      obtain ⟨s0, hs0⟩ : ∃ s0 : Int, s0 = if a < st q then st q else a := ⟨_, rfl⟩
      obtain ⟨e0, he0⟩ : ∃ e0 : Int, e0 = if enI n st q < b then enI n st q else b := ⟨_, rfl⟩
      have hs1 : st q ≤ s0 ∧ a ≤ s0 ∧ (s0 = a ∨ s0 = st q) := by rw [hs0]; split <;> omega
      have he1 : e0 ≤ b ∧ e0 ≤ enI n st q ∧ (e0 = b ∨ e0 = enI n st q) := by rw [he0]; split <;> omega
      have hp0 : q = 0 → st q = 0 := fun w => by rw [w]; exact hst0
      have hpart : ∀ m, a ≤ m → 0 ≤ m → m ≤ b → ptI st m n = q → s0 ≤ m ∧ m ≤ e0 := fun m h1 h2 h3 h4 => by
        have := pt_en zo0 h2 (show m ≤ 52595999 by omega)
        rw [h4] at this
        omega
      have hdue : ∀ m, s0 ≤ m → m ≤ e0 → (j_due M j z h ne n ρ mv st os) m = dueP st os (ldB ρ (j_jd M z h ρ mv)) (fun m => j_exc M j ne (iI m)) q m := fun m h1 h2 => by
        unfold j_due dueB
        rw [pt_is zo0 (by omega) hqn (by omega) (by omega)]
      have nextp : (∀ m, s0 ≤ m → m ≤ e0 → dueP st os (ldB ρ (j_jd M z h ρ mv)) (fun m => j_exc M j ne (iI m)) q m = false) → ∀ m, a ≤ m → 0 ≤ m → m ≤ b → ptI st m n < q + 1 → (j_due M j z h ne n ρ mv st os) m = false := fun hno m h1 h2 h3 h4 => by
        by_cases h5 : ptI st m n = q
        · obtain ⟨g1, g2⟩ := hpart m h1 h2 h3 h5
          rw [hdue m g1 g2]
          exact hno m g1 g2
        · exact hI m h1 h2 h3 (by omega)
      have hflr : s0 - 1000000 ≤ flI st os q s0 ∧ flI st os q s0 ≤ s0 + 1000000 := by
        have r2 := hrg (q - 1) (by omega)
        unfold flI
        split
        · omega
        · split <;> omega
      have inner : s0 ≤ e0 → s0 ≤ 60000000 → ∀ (k tn : Nat) (x r : Int) (w9 w10 : Option Value), fdM M j ne q st os x < k → tn + k ≤ 60 → fdI st os (ldB ρ (j_jd M z h ρ mv)) (fun m => j_exc M j ne (iI m)) q s0 e0 (flI st os q s0) x → FJD (ldB ρ (j_jd M z h ρ mv)) x (e0 + os q) r → -1000000 ≤ r → r ≤ e0 + os q + 1440 → tk_V p l e (tk_rm 4 0 0) s m args below meth c (MQ below (tk_QI E 209 (tk_ct E M) (fun x => ∃ r : Int, x = iI r ∧ FDP (j_due M j z h ne n ρ mv st os) a b r)) args s 0 0 (tk_A E)) E 11 209 (tk_ct E M) 0 0 90 [some (.ref (E.1 + jN j)), some (.int (iI a)), some (.int (iI b)), some (.int (nI q)), some (.int (iI (os q))), some (.int (iI s0)), some (.int (iI (e0 + os q))), some (.int (iI r)), some (.int (nI tn)), w9, w10] [] := by
        intro hse hs6 k
        induction k with
        | zero => intro tn x r w9 w10 hk; omega
        | succ k ihk =>
          intro tn x r w9 w10 hk htn hfd hF hr1 hr2
          have hlow := fun m (g1 : s0 ≤ m) (g2 : m ≤ e0) (g3 : m + os q < r) => fd_low (exc := (fun m => j_exc M j ne (iI m))) hs1.1 hfd hF g1 g2 g3
          refine v_iload cx (tk_dc d_J_firstDue 47 rfl) rfl ?_
          refine v_bipush cx (tk_dc d_J_firstDue 48 rfl) (100) (by decide) ?_
          refine v_icmp_ge cx (tk_dc d_J_firstDue 49 rfl) 190 (by decide) (fun h => absurd h (nI_ge (b := 100) (by omega) (by decide))) (fun _ => ?_)
          refine v_iload cx (tk_dc d_J_firstDue 50 rfl) rfl ?_
          refine v_iload cx (tk_dc d_J_firstDue 51 rfl) rfl ?_
          refine v_icmp_gt cx (tk_dc d_J_firstDue 52 rfl) 190 (by decide) (fun h101 => ?_) (fun h101 => ?_)
          · have hgt : e0 + os q < r := (iI_lt (by omega) (by omega) (by omega) (by omega)).mp h101
            refine v_iinc (lo' := [_, _, _, _, _, _, _, _, _, _, _]) cx (tk_dc d_J_firstDue 96 rfl) rfl (nI (q + 1)) ((nI_succ q).symm) (by decide) rfl ?_
            refine v_goto cx (tk_dc d_J_firstDue 97 rfl) 2 (by decide) ?_
            exact ih (q + 1) _ _ _ _ _ _ _ (by omega) (nextp (fun m g1 g2 => hlow m g1 g2 (by omega)))
          · have hle : r ≤ e0 + os q := Int.not_lt.mp (fun w => h101 ((iI_lt (by omega) (by omega) (by omega) (by omega)).mpr w))
            have hxr := (FJD_is hF hle).2
            obtain ⟨mi, hmi⟩ : ∃ mi : Int, mi = if s0 < r - os q then r - os q else s0 := ⟨_, rfl⟩
            refine v_iload cx (tk_dc d_J_firstDue 53 rfl) rfl ?_
            refine v_iload cx (tk_dc d_J_firstDue 54 rfl) rfl ?_
            refine v_iload cx (tk_dc d_J_firstDue 55 rfl) rfl ?_
            refine v_isub cx (tk_dc d_J_firstDue 56 rfl) ?_
            refine v_eqi (iI (r - os q)) (iI_sub _ _) ?_
            refine v_callS (rest := _) cx (tk_dc d_J_firstDue 57 rfl) m_J_95 ks_Q_max k_Q_max (c_Q_max) rfl rfl (Nat.le_of_ble_eq_true rfl) (by decide) ?_
            refine v_eqi (iI mi) (by rw [hmi]; by_cases g : s0 < r - os q; (rw [if_pos g, if_pos ((iI_lt (by omega) (by omega) (by omega) (by omega)).mpr g)]); rw [if_neg g, if_neg (fun w => g ((iI_lt (by omega) (by omega) (by omega) (by omega)).mp w))]) ?_
            have hmi0 : (s0 < r - os q ∧ mi = r - os q) ∨ (r - os q ≤ s0 ∧ mi = s0) := by rw [hmi]; split <;> omega
            refine v_istore (lo' := [_, _, _, _, _, _, _, _, _, _, _]) cx (tk_dc d_J_firstDue 58 rfl) (by decide) rfl ?_
            refine v_iload cx (tk_dc d_J_firstDue 59 rfl) rfl ?_
            refine v_iload cx (tk_dc d_J_firstDue 60 rfl) rfl ?_
            refine v_iload cx (tk_dc d_J_firstDue 61 rfl) rfl ?_
            refine v_isub cx (tk_dc d_J_firstDue 62 rfl) ?_
            refine v_eqi (iI (r - os q)) (iI_sub _ _) ?_
            refine v_icmp_ne cx (tk_dc d_J_firstDue 63 rfl) 139 (by decide) (fun h123 => ?_) (fun h123 => ?_)
            · have hsk : r - os q < s0 ∧ mi = s0 := by
                have hne2 : ¬ mi = r - os q := fun w => h123 (by rw [w])
                omega
              have hmi2 : mi = s0 := hsk.2
              refine v_iload cx (tk_dc d_J_firstDue 70 rfl) rfl ?_
              refine v_iconst cx (tk_dc d_J_firstDue 71 rfl) (1) (by decide) ?_
              refine v_isub cx (tk_dc d_J_firstDue 72 rfl) ?_
              refine v_eqi (iI (r - 1)) (iI_sub r 1) ?_
              refine v_istore (lo' := [_, _, _, _, _, _, _, _, _, _, _]) cx (tk_dc d_J_firstDue 73 rfl) (by decide) rfl ?_
              refine v_iload cx (tk_dc d_J_firstDue 74 rfl) rfl ?_
              refine v_iload cx (tk_dc d_J_firstDue 75 rfl) rfl ?_
              refine v_icmp_ge cx (tk_dc d_J_firstDue 76 rfl) 164 (by decide) (fun h => absurd h (fun w => absurd ((iI_le (by omega) (by omega) (by omega) (by omega)).mp w) (by omega))) (fun _ => ?_)
              refine v_aload_n cx (tk_dc d_J_firstDue 77 rfl) rfl ?_
              refine v_iload cx (tk_dc d_J_firstDue 78 rfl) rfl ?_
              refine v_callV (rest := _) cx (tk_dc d_J_firstDue 79 rfl) m_J_48 kn_J_isException kv_J_isException k_J_isException (o_J hj) (by decide) rfl (c_J_isException hj hne hxc) rfl rfl (Nat.le_of_ble_eq_true rfl) (by decide) ?_
              refine v_if_ne cx (tk_dc d_J_firstDue 80 rfl) 164 (by decide) (fun h158 => ?_) (fun h158 => ?_)
              · have hex : j_exc M j ne (iI s0) = true := by rw [← hmi2]; exact b01_nz h158
                have hdrop := fdM_exc (M := M) (j := j) (ne := ne) (st := st) (p := q) (os := os) (x := x) (x' := s0 + os q + 1) (j_exc_ex hex (by omega) (by omega)) (by omega) (by omega)
                refine v_aload_n cx (tk_dc d_J_firstDue 83 rfl) rfl ?_
                refine v_iload cx (tk_dc d_J_firstDue 84 rfl) rfl ?_
                refine v_iload cx (tk_dc d_J_firstDue 85 rfl) rfl ?_
                refine v_iload cx (tk_dc d_J_firstDue 86 rfl) rfl ?_
                refine v_iadd cx (tk_dc d_J_firstDue 87 rfl) ?_
                refine v_eqi (iI (s0 + os q)) (by rw [hmi2, iI_add]) ?_
                refine v_callS (rest := _) cx (tk_dc d_J_firstDue 88 rfl) m_J_95 ks_Q_max k_Q_max (c_Q_max) rfl rfl (Nat.le_of_ble_eq_true rfl) (by decide) ?_
                refine v_eqi (iI (s0 + os q)) (by rw [if_pos ((iI_lt (by omega) (by omega) (by omega) (by omega)).mpr (by omega))]) ?_
                refine v_iconst cx (tk_dc d_J_firstDue 89 rfl) (1) (by decide) ?_
                refine v_iadd cx (tk_dc d_J_firstDue 90 rfl) ?_
                refine v_eqi (iI (s0 + os q + 1)) (iI_add _ 1) ?_
                refine v_iload cx (tk_dc d_J_firstDue 91 rfl) rfl ?_
                refine v_callVI (rest := _) cx (tk_dc d_J_firstDue 92 rfl) m_J_107 kn_J_firstJobMinute kv_J_firstJobMinute k_J_firstJobMinute (o_J hj) (by decide) rfl (c_J_firstJobMinute H0 (by omega) (by omega) (by omega) (by omega)) rfl rfl (Nat.le_of_ble_eq_true rfl) (by decide) (fun x9 hx9 => ?_)
                obtain ⟨r2, rfl, hF2, hr3, hr4⟩ := hx9
                refine v_istore (lo' := [_, _, _, _, _, _, _, _, _, _, _]) cx (tk_dc d_J_firstDue 93 rfl) (by decide) rfl ?_
                refine v_iinc (lo' := [_, _, _, _, _, _, _, _, _, _, _]) cx (tk_dc d_J_firstDue 94 rfl) rfl (nI (tn + 1)) ((nI_succ tn).symm) (by decide) rfl ?_
                refine v_goto cx (tk_dc d_J_firstDue 95 rfl) 90 (by decide) ?_
                exact ihk (tn + 1) (s0 + os q + 1) r2 _ _ (by omega) (by omega) (fd_skipx hs1.1 hex) hF2 (by omega) (by omega)
              · have hex : j_exc M j ne (iI mi) = false := b01_z h158
                refine v_iload cx (tk_dc d_J_firstDue 81 rfl) rfl ?_
                exact v_iretI cx hB (tk_dc d_J_firstDue 82 rfl) (⟨s0, by rw [hmi2], Or.inr ⟨by rw [hdue s0 (by omega) (by omega)]; exact fd_skip hfd hs1.1 rq.1 hp0 hF hle (by omega) (by rw [← hmi2]; exact hex), by omega, by omega, by omega, fun m g1 g2 g3 => by
            have g4 := pt_mono zo0 g2 (Int.le_of_lt g3)
            rw [pt_is zo0 (m := s0) (by omega) hqn (by omega) (by omega)] at g4
            by_cases g5 : ptI st m n = q
            · obtain ⟨g6, g7⟩ := hpart m g1 g2 (by omega) g5
              rw [hdue m g6 g7]
              exact hlow m g6 g7 (by omega)
            · exact hI m g1 g2 (by omega) (by omega)⟩⟩) (rfl)
            · have hmi2 : mi = r - os q := (iI_eq (by omega) (by omega) (by omega) (by omega)).mp h123
              obtain ⟨v, ev, hv⟩ := z_had_eq Z0 hqn (x := r) (by omega) (by omega)
              have hvr : -1000000 ≤ v ∧ v ≤ 55000000 := by
                rcases hv with g | ⟨k9, g1, g2, g3, g4⟩
                · omega
                · have r9 := hrg (k9 + 1) (by omega)
                  have r8 := hrg k9 (by omega)
                  omega
              refine v_aload_n cx (tk_dc d_J_firstDue 64 rfl) rfl ?_
              refine v_getR cx (tk_dc d_J_firstDue 65 rfl) f_J_43 (o_J (by assumption)) (by decide) (by rfl) (hzr) ?_
              refine v_iload_n cx (tk_dc d_J_firstDue 66 rfl) rfl ?_
              refine v_iload cx (tk_dc d_J_firstDue 67 rfl) rfl ?_
              refine v_callV (rest := _) cx (tk_dc d_J_firstDue 68 rfl) m_J_110 kn_Z_hadUpTo kv_Z_hadUpTo k_Z_hadUpTo (o_Z hz) (by decide) rfl (c_Z_hadUpTo hz hn1 hn9 hn hqn) rfl rfl (Nat.le_of_ble_eq_true rfl) (by decide) ?_
              refine v_eqi (iI v) ev ?_
              refine v_goto cx (tk_dc d_J_firstDue 69 rfl) 143 (by decide) ?_
              refine v_istore (lo' := [_, _, _, _, _, _, _, _, _, _, _]) cx (tk_dc d_J_firstDue 73 rfl) (by decide) rfl ?_
              refine v_iload cx (tk_dc d_J_firstDue 74 rfl) rfl ?_
              refine v_iload cx (tk_dc d_J_firstDue 75 rfl) rfl ?_
              refine v_icmp_ge cx (tk_dc d_J_firstDue 76 rfl) 164 (by decide) (fun h149 => ?_) (fun h149 => ?_)
              · have hvge : r ≤ v := (iI_le (by omega) (by omega) (by omega) (by omega)).mp h149
                obtain ⟨k9, hv1, hv2, hv3, hv4⟩ : ∃ k9, k9 < q ∧ st k9 + os k9 ≤ r ∧ r ≤ st (k9 + 1) - 1 + os k9 ∧ v = st (k9 + 1) - 1 + os k9 := by rcases hv with g | g; (have := g.1; omega); exact g
                have hdrop := fdM_had (M := M) (j := j) (ne := ne) (p := q) (st := st) (os := os) (x := x) (x' := v + 1) hv1 (by omega) (by omega)
                refine v_aload_n cx (tk_dc d_J_firstDue 83 rfl) rfl ?_
                refine v_iload cx (tk_dc d_J_firstDue 84 rfl) rfl ?_
                refine v_iload cx (tk_dc d_J_firstDue 85 rfl) rfl ?_
                refine v_iload cx (tk_dc d_J_firstDue 86 rfl) rfl ?_
                refine v_iadd cx (tk_dc d_J_firstDue 87 rfl) ?_
                refine v_eqi (iI r) (by rw [hmi2, iI_add]; congr 1; omega) ?_
                refine v_callS (rest := _) cx (tk_dc d_J_firstDue 88 rfl) m_J_95 ks_Q_max k_Q_max (c_Q_max) rfl rfl (Nat.le_of_ble_eq_true rfl) (by decide) ?_
                refine v_eqi (iI v) (by rw [if_neg (fun w => absurd ((iI_lt (by omega) (by omega) (by omega) (by omega)).mp w) (by omega))]) ?_
                refine v_iconst cx (tk_dc d_J_firstDue 89 rfl) (1) (by decide) ?_
                refine v_iadd cx (tk_dc d_J_firstDue 90 rfl) ?_
                refine v_eqi (iI (v + 1)) (iI_add _ 1) ?_
                refine v_iload cx (tk_dc d_J_firstDue 91 rfl) rfl ?_
                refine v_callVI (rest := _) cx (tk_dc d_J_firstDue 92 rfl) m_J_107 kn_J_firstJobMinute kv_J_firstJobMinute k_J_firstJobMinute (o_J hj) (by decide) rfl (c_J_firstJobMinute H0 (by omega) (by omega) (by omega) (by omega)) rfl rfl (Nat.le_of_ble_eq_true rfl) (by decide) (fun x9 hx9 => ?_)
                obtain ⟨r2, rfl, hF2, hr3, hr4⟩ := hx9
                refine v_istore (lo' := [_, _, _, _, _, _, _, _, _, _, _]) cx (tk_dc d_J_firstDue 93 rfl) (by decide) rfl ?_
                refine v_iinc (lo' := [_, _, _, _, _, _, _, _, _, _, _]) cx (tk_dc d_J_firstDue 94 rfl) rfl (nI (tn + 1)) ((nI_succ tn).symm) (by decide) rfl ?_
                refine v_goto cx (tk_dc d_J_firstDue 95 rfl) 90 (by decide) ?_
                exact ihk (tn + 1) (v + 1) r2 _ _ (by omega) (by omega) (by rw [hv4]; exact fd_had hs1.1 hfd hF (by omega) hv1 hv2 hv3) hF2 (by omega) (by omega)
              · have hvlt : v < r := Int.not_le.mp (fun w => h149 ((iI_le (by omega) (by omega) (by omega) (by omega)).mpr w))
                have hnh : v = r - 1 ∧ hadB st os q r = false := by rcases hv with g | ⟨k9, g1, g2, g3, g4⟩; (exact g); omega
                refine v_aload_n cx (tk_dc d_J_firstDue 77 rfl) rfl ?_
                refine v_iload cx (tk_dc d_J_firstDue 78 rfl) rfl ?_
                refine v_callV (rest := _) cx (tk_dc d_J_firstDue 79 rfl) m_J_48 kn_J_isException kv_J_isException k_J_isException (o_J hj) (by decide) rfl (c_J_isException hj hne hxc) rfl rfl (Nat.le_of_ble_eq_true rfl) (by decide) ?_
                refine v_if_ne cx (tk_dc d_J_firstDue 80 rfl) 164 (by decide) (fun h158 => ?_) (fun h158 => ?_)
                · have hex : j_exc M j ne (iI (r - os q)) = true := by rw [← hmi2]; exact b01_nz h158
                  have hdrop := fdM_exc (M := M) (j := j) (ne := ne) (st := st) (p := q) (os := os) (x := x) (x' := r + 1) (j_exc_ex hex (by omega) (by omega)) (by omega) (by omega)
                  rw [← hmi2] at hex
                  refine v_aload_n cx (tk_dc d_J_firstDue 83 rfl) rfl ?_
                  refine v_iload cx (tk_dc d_J_firstDue 84 rfl) rfl ?_
                  refine v_iload cx (tk_dc d_J_firstDue 85 rfl) rfl ?_
                  refine v_iload cx (tk_dc d_J_firstDue 86 rfl) rfl ?_
                  refine v_iadd cx (tk_dc d_J_firstDue 87 rfl) ?_
                  refine v_eqi (iI r) (by rw [hmi2, iI_add]; congr 1; omega) ?_
                  refine v_callS (rest := _) cx (tk_dc d_J_firstDue 88 rfl) m_J_95 ks_Q_max k_Q_max (c_Q_max) rfl rfl (Nat.le_of_ble_eq_true rfl) (by decide) ?_
                  refine v_eqi (iI r) (by rw [if_pos ((iI_lt (by omega) (by omega) (by omega) (by omega)).mpr (by omega))]) ?_
                  refine v_iconst cx (tk_dc d_J_firstDue 89 rfl) (1) (by decide) ?_
                  refine v_iadd cx (tk_dc d_J_firstDue 90 rfl) ?_
                  refine v_eqi (iI (r + 1)) (iI_add _ 1) ?_
                  refine v_iload cx (tk_dc d_J_firstDue 91 rfl) rfl ?_
                  refine v_callVI (rest := _) cx (tk_dc d_J_firstDue 92 rfl) m_J_107 kn_J_firstJobMinute kv_J_firstJobMinute k_J_firstJobMinute (o_J hj) (by decide) rfl (c_J_firstJobMinute H0 (by omega) (by omega) (by omega) (by omega)) rfl rfl (Nat.le_of_ble_eq_true rfl) (by decide) (fun x9 hx9 => ?_)
                  obtain ⟨r2, rfl, hF2, hr3, hr4⟩ := hx9
                  refine v_istore (lo' := [_, _, _, _, _, _, _, _, _, _, _]) cx (tk_dc d_J_firstDue 93 rfl) (by decide) rfl ?_
                  refine v_iinc (lo' := [_, _, _, _, _, _, _, _, _, _, _]) cx (tk_dc d_J_firstDue 94 rfl) rfl (nI (tn + 1)) ((nI_succ tn).symm) (by decide) rfl ?_
                  refine v_goto cx (tk_dc d_J_firstDue 95 rfl) 90 (by decide) ?_
                  exact ihk (tn + 1) (r + 1) r2 _ _ (by omega) (by omega) (fd_exc hs1.1 hfd hF (by omega) (by rw [← hmi2]; exact hex)) hF2 (by omega) (by omega)
                · have hex : j_exc M j ne (iI mi) = false := b01_z h158
                  refine v_iload cx (tk_dc d_J_firstDue 81 rfl) rfl ?_
                  exact v_iretI cx hB (tk_dc d_J_firstDue 82 rfl) (⟨r - os q, by rw [hmi2], Or.inr ⟨by rw [hdue _ (by omega) (by omega)]; exact fd_found hF hle hnh.2 (by rw [← hmi2]; exact hex), by omega, by omega, by omega, fun m g1 g2 g3 => by
            have g4 := pt_mono zo0 g2 (Int.le_of_lt g3)
            rw [pt_is zo0 (m := r - os q) (by omega) hqn (by omega) (by omega)] at g4
            by_cases g5 : ptI st m n = q
            · obtain ⟨g6, g7⟩ := hpart m g1 g2 (by omega) g5
              rw [hdue m g6 g7]
              exact hlow m g6 g7 (by omega)
            · exact hI m g1 g2 (by omega) (by omega)⟩⟩) (rfl)
      refine v_iload_n cx (tk_dc d_J_firstDue 2 rfl) rfl ?_
      refine v_aload_n cx (tk_dc d_J_firstDue 3 rfl) rfl ?_
      refine v_getR cx (tk_dc d_J_firstDue 4 rfl) f_J_43 (o_J (by assumption)) (by decide) (by rfl) (hzr) ?_
      refine v_getI cx (tk_dc d_J_firstDue 5 rfl) f_J_86 (o_Z hz) (by decide) (by rfl) ?_
      refine v_icmp_ge cx (tk_dc d_J_firstDue 6 rfl) 196 (by decide) (fun h => absurd h (by rw [hn]; exact nI_ge hqn (by omega))) (fun _ => ?_)
      refine v_aload_n cx (tk_dc d_J_firstDue 7 rfl) rfl ?_
      refine v_getR cx (tk_dc d_J_firstDue 8 rfl) f_J_43 (o_J (by assumption)) (by decide) (by rfl) (hzr) ?_
      refine v_getC cx (zN _ + 2) (tk_dc d_J_firstDue 9 rfl) f_J_89 (o_Z hz) (by decide) (by rfl) ?_
      refine v_iload_n cx (tk_dc d_J_firstDue 10 rfl) rfl ?_
      refine w_iald cx (tk_dc d_J_firstDue 11 rfl) (o_Z2 hz) q (rfl) (by omega) (by decide) ?_
      refine v_eqi (iI (os q)) eo ?_
      refine v_istore (lo' := [_, _, _, _, _, _, _, _, _, _, _]) cx (tk_dc d_J_firstDue 12 rfl) (by decide) rfl ?_
      refine v_iload_n cx (tk_dc d_J_firstDue 13 rfl) rfl ?_
      refine v_aload_n cx (tk_dc d_J_firstDue 14 rfl) rfl ?_
      refine v_getR cx (tk_dc d_J_firstDue 15 rfl) f_J_43 (o_J (by assumption)) (by decide) (by rfl) (hzr) ?_
      refine v_getC cx (zN _ + 1) (tk_dc d_J_firstDue 16 rfl) f_J_92 (o_Z hz) (by decide) (by rfl) ?_
      refine v_iload_n cx (tk_dc d_J_firstDue 17 rfl) rfl ?_
      refine w_iald cx (tk_dc d_J_firstDue 18 rfl) (o_Z1 hz) q (rfl) (by omega) (by decide) ?_
      refine v_eqi (iI (st q)) es ?_
      refine v_callS (rest := _) cx (tk_dc d_J_firstDue 19 rfl) m_J_95 ks_Q_max k_Q_max (c_Q_max) rfl rfl (Nat.le_of_ble_eq_true rfl) (by decide) ?_
      refine v_eqi (iI s0) (by rw [hs0]; by_cases g : a < st q; (rw [if_pos g, if_pos ((iI_lt (by omega) (by omega) (by omega) (by omega)).mpr g)]); rw [if_neg g, if_neg (fun w => g ((iI_lt (by omega) (by omega) (by omega) (by omega)).mp w))]) ?_
      refine v_istore (lo' := [_, _, _, _, _, _, _, _, _, _, _]) cx (tk_dc d_J_firstDue 20 rfl) (by decide) rfl ?_
      refine v_iload_n cx (tk_dc d_J_firstDue 21 rfl) rfl ?_
      refine v_aload_n cx (tk_dc d_J_firstDue 22 rfl) rfl ?_
      refine v_getR cx (tk_dc d_J_firstDue 23 rfl) f_J_43 (o_J (by assumption)) (by decide) (by rfl) (hzr) ?_
      refine v_iload_n cx (tk_dc d_J_firstDue 24 rfl) rfl ?_
      refine v_callV (rest := _) cx (tk_dc d_J_firstDue 25 rfl) m_J_98 kn_Z_endOf kv_Z_endOf k_Z_endOf (o_Z hz) (by decide) rfl (c_Z_endOf hz hn1 hn9 hn hqn) rfl rfl (Nat.le_of_ble_eq_true rfl) (by decide) ?_
      refine v_eqi (iI (enI n st q)) (z_end_eq Z0 q) ?_
      refine v_callS (rest := _) cx (tk_dc d_J_firstDue 26 rfl) m_J_101 ks_Q_min k_Q_min (c_Q_min) rfl rfl (Nat.le_of_ble_eq_true rfl) (by decide) ?_
      refine v_eqi (iI e0) (by rw [he0]; by_cases g : enI n st q < b; (rw [if_pos g, if_pos ((iI_lt (by omega) (by omega) (by omega) (by omega)).mpr g)]); rw [if_neg g, if_neg (fun w => g ((iI_lt (by omega) (by omega) (by omega) (by omega)).mp w))]) ?_
      refine v_iload cx (tk_dc d_J_firstDue 27 rfl) rfl ?_
      refine v_iadd cx (tk_dc d_J_firstDue 28 rfl) ?_
      refine v_eqi (iI (e0 + os q)) (iI_add _ _) ?_
      refine v_istore (lo' := [_, _, _, _, _, _, _, _, _, _, _]) cx (tk_dc d_J_firstDue 29 rfl) (by decide) rfl ?_
      refine v_iload cx (tk_dc d_J_firstDue 30 rfl) rfl ?_
      refine v_iload cx (tk_dc d_J_firstDue 31 rfl) rfl ?_
      refine v_iadd cx (tk_dc d_J_firstDue 32 rfl) ?_
      refine v_eqi (iI (s0 + os q)) (iI_add _ _) ?_
      refine v_iload cx (tk_dc d_J_firstDue 33 rfl) rfl ?_
      refine v_icmp_le cx (tk_dc d_J_firstDue 34 rfl) 69 (by decide) (fun h63 => ?_) (fun h63 => ?_)
      · have hse : s0 ≤ e0 := by have := (iI_le (by omega) (by omega) (by omega) (by omega)).mp h63; omega
        refine v_aload_n cx (tk_dc d_J_firstDue 36 rfl) rfl ?_
        refine v_aload_n cx (tk_dc d_J_firstDue 37 rfl) rfl ?_
        refine v_getR cx (tk_dc d_J_firstDue 38 rfl) f_J_43 (o_J (by assumption)) (by decide) (by rfl) (hzr) ?_
        refine v_iload_n cx (tk_dc d_J_firstDue 39 rfl) rfl ?_
        refine v_iload cx (tk_dc d_J_firstDue 40 rfl) rfl ?_
        refine v_callV (rest := _) cx (tk_dc d_J_firstDue 41 rfl) m_J_104 kn_Z_firstLocal kv_Z_firstLocal k_Z_firstLocal (o_Z hz) (by decide) rfl (c_Z_firstLocal hz hn1 hn9 hn hqn hs00) rfl rfl (Nat.le_of_ble_eq_true rfl) (by decide) ?_
        refine v_eqi (iI (flI st os q s0)) (z_fl_eq Z0 hqn (by omega) (by omega)) ?_
        refine v_iload cx (tk_dc d_J_firstDue 42 rfl) rfl ?_
        refine v_callVI (rest := _) cx (tk_dc d_J_firstDue 43 rfl) m_J_107 kn_J_firstJobMinute kv_J_firstJobMinute k_J_firstJobMinute (o_J hj) (by decide) rfl (c_J_firstJobMinute H0 (by omega) (by omega) (by omega) (by omega)) rfl rfl (Nat.le_of_ble_eq_true rfl) (by decide) (fun x9 hx9 => ?_)
        obtain ⟨r2, rfl, hF2, hr3, hr4⟩ := hx9
        refine v_istore (lo' := [_, _, _, _, _, _, _, _, _, _, _]) cx (tk_dc d_J_firstDue 44 rfl) (by decide) rfl ?_
        refine v_iconst cx (tk_dc d_J_firstDue 45 rfl) (0) (by decide) ?_
        refine v_istore (lo' := [_, _, _, _, _, _, _, _, _, _, _]) cx (tk_dc d_J_firstDue 46 rfl) (by decide) rfl ?_
        exact inner hse (by omega) 18 0 (flI st os q s0) r2 _ _ (by have := fdM_le M j ne q st os (flI st os q s0); omega) (by omega) (Or.inl rfl) hF2 (by omega) (by omega)
      · have hse : e0 < s0 := by have := Int.not_le.mp (fun w => h63 ((iI_le (a := s0 + os q) (b := e0 + os q) (by omega) (by omega) (by omega) (by omega)).mpr w)); omega
        refine v_goto cx (tk_dc d_J_firstDue 35 rfl) 190 (by decide) ?_
        refine v_iinc (lo' := [_, _, _, _, _, _, _, _, _, _, _]) cx (tk_dc d_J_firstDue 96 rfl) rfl (nI (q + 1)) ((nI_succ q).symm) (by decide) rfl ?_
        refine v_goto cx (tk_dc d_J_firstDue 97 rfl) 2 (by decide) ?_
        exact ih (q + 1) _ _ _ _ _ _ _ (by omega) (nextp (fun m g1 g2 => by omega))
  refine v_iconst cx (tk_dc d_J_firstDue 0 rfl) (0) (by decide) ?_
  refine v_istore_n (lo' := [_, _, _, _, _, _, _, _, _, _, _]) cx (tk_dc d_J_firstDue 1 rfl) (by decide) rfl ?_
  exact outer n 0 _ _ _ _ _ _ _ (by omega) (fun m _ _ _ w => by omega)
