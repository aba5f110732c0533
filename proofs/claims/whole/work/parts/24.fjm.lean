/-! the job's first minute -/
def ldB (r : ru) (jd : Int → Bool) (l : Int) : Bool := mdB (ru_hh r) (ru_mn r) (l % 1440).toNat && jd (l / 1440)
theorem md_ex {hh mn : Nat} (h1 : 0 < hh) (h2 : hh < 2 ^ 24) (h3 : 0 < mn) (h4 : mn < 2 ^ 60) : ∃ t, t < 1440 ∧ mdB hh mn t = true := by
  obtain ⟨a1, -, a3⟩ := lowb_spec 24 hh h1 h2
  obtain ⟨b1, -, b3⟩ := lowb_spec 60 mn h3 h4
  refine ⟨lowb 24 hh * 60 + lowb 60 mn, by omega, ?_⟩
  unfold mdB
  rw [show (lowb 24 hh * 60 + lowb 60 mn) / 60 = lowb 24 hh by omega, show (lowb 24 hh * 60 + lowb 60 mn) % 60 = lowb 60 mn by omega, a1, b1]
  rfl
/-- a day brings no minute from a on -/
def nod (r : ru) (jd : Int → Bool) (a d : Int) : Prop := jd d = false ∨ (d = a / 1440 ∧ ∀ t : Nat, a % 1440 ≤ t → t < 1440 → mdB (ru_hh r) (ru_mn r) t = false)
theorem nod_ld {r : ru} {jd : Int → Bool} {a l : Int} (hl : a ≤ l) (h : nod r jd a (l / 1440)) : ldB r jd l = false := by
  unfold ldB
  rcases h with h | ⟨h1, h2⟩
  · rw [h, Bool.and_false]
  · rw [h2 _ (by omega) (by omega), Bool.false_and]
theorem fjm_none {r : ru} {jd : Int → Bool} {a b : Int} (h : ∀ d, a / 1440 ≤ d → d ≤ b / 1440 → nod r jd a d) : FJD (ldB r jd) a b (b + 1) := Or.inr ⟨rfl, fun l h1 h2 => nod_ld h1 (h _ (by omega) (by omega))⟩
theorem fjm_found {r : ru} {jd : Int → Bool} {a b e : Int} {m : Nat} (he : jd e = true) (hm : mdB (ru_hh r) (ru_mn r) m = true) (hm2 : m < 1440) (ha : a ≤ e * 1440 + m) (hn : ∀ d, a / 1440 ≤ d → d < e → nod r jd a d) (hq : ∀ t : Nat, a ≤ e * 1440 + t → t < m → mdB (ru_hh r) (ru_mn r) t = false) : FJD (ldB r jd) a b (e * 1440 + m) := by
  left
  refine ⟨?_, ha, fun l h1 h2 => ?_⟩
  · unfold ldB
    rw [show (e * 1440 + (m : Int)) % 1440 = m by omega, show (e * 1440 + (m : Int)) / 1440 = e by omega, he, Int.toNat_natCast, hm]
    rfl
  · by_cases hd : l / 1440 = e
    · unfold ldB
      rw [hq (l % 1440).toNat (by omega) (by omega)]
      rfl
    · exact nod_ld h1 (hn _ (by omega) (by omega))
theorem no_min {r : ru} (hr : ru_ok r) (h : lN (ru_mn r) = 0 ∨ nI (ru_hh r) = 0) (jd : Int → Bool) (l : Int) : ldB r jd l = false := by
  obtain ⟨h1, h2, -⟩ := hr
  unfold ldB mdB
  rcases h with h | h
  · have : ru_mn r = 0 := (pk_lEQ (by omega) (by decide)).mp (show lN (ru_mn r) = lN 0 from h)
    rw [this]
    simp
  · have : ru_hh r = 0 := (nI_eq (by omega) (by decide)).mp (show nI (ru_hh r) = nI 0 from h)
    rw [this]
    simp
set_option maxHeartbeats 4000000 in
set_option maxRecDepth 100000 in
theorem c_J_firstJobMinute {l : Launch} {E : tk_E} {M : tk_M} {j z h : Nat} {ρ : ru} {mv : Bool} {a b : Int} (H : j_ok M j z h ρ mv) (ha : -1000000 ≤ a) (ha2 : a ≤ 60000000) (hb : -1000000 ≤ b) (hb2 : b ≤ 60000000) : tk_MI l y_J_firstJobMinute b_J_firstJobMinute 7 (some .int) 3 E [.ref (E.1 + jN j), .int (iI a), .int (iI b)] M M (fun x => ∃ r : Int, x = iI r ∧ FJD (ldB ρ (j_jd M z h ρ mv)) a b r ∧ r ≤ b + 1440 ∧ -1000000 ≤ r) := by
  refine tk_ofVI (by decide +kernel) [some (.ref (E.1 + jN j)), some (.int (iI a)), some (.int (iI b)), none, none, none, none] rfl (Nat.le_of_ble_eq_true rfl) ?_
  intro p e s m args below meth c cx hB
  have H0 := H
  obtain ⟨hj, hz, hzr, hh, hhc, hr, hhr, hmn, hdd, hmo, hww, hnd, hnp, hmv⟩ := H
  have hr0 := hr
  obtain ⟨r1, r2, -⟩ := hr
  have fin : a ≤ b → ∀ (dy : Int) (m1 : Nat), -1000 ≤ dy → dy ≤ 60000 → m1 < 1440 → (dy ≤ b / 1440 → FJD (ldB ρ (j_jd M z h ρ mv)) a b (dy * 1440 + m1) ∧ a ≤ dy * 1440 + m1) → (b / 1440 < dy → FJD (ldB ρ (j_jd M z h ρ mv)) a b (b + 1)) → tk_V p l e (tk_rm 3 0 0) s m args below meth c (MQ below (tk_QI E 209 (tk_ct E M) (fun x => ∃ r : Int, x = iI r ∧ FJD (ldB ρ (j_jd M z h ρ mv)) a b r ∧ r ≤ b + 1440 ∧ -1000000 ≤ r)) args s 0 0 (tk_A E)) E 7 209 (tk_ct E M) 0 0 100 [some (.ref (E.1 + jN j)), some (.int (iI a)), some (.int (iI b)), some (.int (iI (a / 1440))), some (.int (iI (b / 1440))), some (.int (iI dy)), some (.int (nI m1))] [] := by
    intro hab dy m1 he1 he2 hm2 hF hN
    refine v_iload cx (tk_dc d_J_firstJobMinute 53 rfl) rfl ?_
    refine v_iload cx (tk_dc d_J_firstJobMinute 54 rfl) rfl ?_
    refine v_icmp_le cx (tk_dc d_J_firstJobMinute 55 rfl) 113 (by decide) (fun h104 => ?_) (fun h104 => ?_)
    · have hle : dy ≤ b / 1440 := (iI_le (by omega) (by omega) (by omega) (by omega)).mp h104
      refine v_iload cx (tk_dc d_J_firstJobMinute 60 rfl) rfl ?_
      refine v_sipush cx (tk_dc d_J_firstJobMinute 61 rfl) (1440) (by decide) ?_
      refine v_imul cx (tk_dc d_J_firstJobMinute 62 rfl) ?_
      refine v_iload cx (tk_dc d_J_firstJobMinute 63 rfl) rfl ?_
      refine v_iadd cx (tk_dc d_J_firstJobMinute 64 rfl) ?_
      exact v_iretI cx hB (tk_dc d_J_firstJobMinute 65 rfl) (by first | exact ⟨b + 1, iI_add b 1, hN hgt, by omega, by omega⟩ | exact ⟨dy * 1440 + m1, by rw [show (1440 : Int32) = iI 1440 from rfl, iI_mul, iI_nI, iI_add], (hF hle).1, by have := (hF hle).2; omega, by have := (hF hle).2; omega⟩) (rfl)
    · have hgt : b / 1440 < dy := Int.not_le.mp (fun w => h104 ((iI_le (by omega) (by omega) (by omega) (by omega)).mpr w))
      refine v_iload_n cx (tk_dc d_J_firstJobMinute 56 rfl) rfl ?_
      refine v_iconst cx (tk_dc d_J_firstJobMinute 57 rfl) (1) (by decide) ?_
      refine v_iadd cx (tk_dc d_J_firstJobMinute 58 rfl) ?_
      refine v_goto cx (tk_dc d_J_firstJobMinute 59 rfl) 122 (by decide) ?_
      exact v_iretI cx hB (tk_dc d_J_firstJobMinute 65 rfl) (by first | exact ⟨b + 1, iI_add b 1, hN hgt, by omega, by omega⟩ | exact ⟨dy * 1440 + m1, by rw [show (1440 : Int32) = iI 1440 from rfl, iI_mul, iI_nI, iI_add], (hF hle).1, by have := (hF hle).2; omega, by have := (hF hle).2; omega⟩) (rfl)
  refine v_iload_n cx (tk_dc d_J_firstJobMinute 0 rfl) rfl ?_
  refine v_iload_n cx (tk_dc d_J_firstJobMinute 1 rfl) rfl ?_
  refine v_icmp_gt cx (tk_dc d_J_firstJobMinute 2 rfl) 15 (by decide) (fun h2 => ?_) (fun h2 => ?_)
  · have hgt : b < a := (iI_lt (by omega) (by omega) (by omega) (by omega)).mp h2
    refine v_iload_n cx (tk_dc d_J_firstJobMinute 7 rfl) rfl ?_
    refine v_iconst cx (tk_dc d_J_firstJobMinute 8 rfl) (1) (by decide) ?_
    refine v_iadd cx (tk_dc d_J_firstJobMinute 9 rfl) ?_
    exact v_iretI cx hB (tk_dc d_J_firstJobMinute 10 rfl) (by first | exact ⟨b + 1, iI_add b 1, Or.inr ⟨rfl, fun l _ _ => by omega⟩, by omega, by omega⟩ | exact ⟨b + 1, iI_add b 1, Or.inr ⟨rfl, fun l _ _ => no_min hr0 hno _ l⟩, by omega, by omega⟩) (rfl)
  · have hab : a ≤ b := Int.not_lt.mp (fun w => h2 ((iI_lt (by omega) (by omega) (by omega) (by omega)).mpr w))
    refine v_aload_n cx (tk_dc d_J_firstJobMinute 3 rfl) rfl ?_
    refine v_getC cx (jN _ + 1) (tk_dc d_J_firstJobMinute 4 rfl) f_J_12 (o_J (by assumption)) (by decide) (by rfl) ?_
    refine v_callV (rest := _) cx (tk_dc d_J_firstJobMinute 5 rfl) m_J_71 kn_U_hasNoMinute kv_U_hasNoMinute k_U_hasNoMinute (o_J1 hj) (by decide) rfl (c_U_hasNoMinute hj) rfl rfl (Nat.le_of_ble_eq_true rfl) (by decide) ?_
    refine v_if_eq cx (tk_dc d_J_firstJobMinute 6 rfl) 19 (by decide) (fun h12 => ?_) (fun h12 => ?_)
    · have hno := b01_z h12
      rw [hmn, hhr] at hno
      simp only [decide_eq_false_iff_not, not_or] at hno
      have hm0 : 0 < ru_mn ρ := Nat.pos_of_ne_zero (fun w => hno.1 (by rw [w]; rfl))
      have hh0 : 0 < ru_hh ρ := Nat.pos_of_ne_zero (fun w => hno.2 (by rw [w]; rfl))
      obtain ⟨t0, ht0, ht1⟩ := md_ex hh0 r1 hm0 r2
      obtain ⟨m2, em2, -, bm2, cm2, dm2⟩ := u_min_spec (q := 0) hmn hhr hm0 r2 r1 (by decide)
      have lm2 : m2 < 1440 := by rcases Nat.lt_or_ge m2 1440 with w | w; (exact w); exact absurd ht1 (by rw [dm2 t0 (by omega) (by omega)]; decide)
      refine v_iload_n cx (tk_dc d_J_firstJobMinute 11 rfl) rfl ?_
      refine v_sipush cx (tk_dc d_J_firstJobMinute 12 rfl) (1440) (by decide) ?_
      refine v_callS (rest := _) cx (tk_dc d_J_firstJobMinute 13 rfl) m_J_75 ks_Q_floorDiv k_Q_floorDiv (c_Q_floorDiv (by decide)) rfl rfl (Nat.le_of_ble_eq_true rfl) (by decide) ?_
      refine v_eqi (iI (a / 1440)) (i_fd_eq (b := 1440) (by omega) (by omega) (by omega) (by omega)) ?_
      refine v_istore_n (lo' := [_, _, _, _, _, _, _]) cx (tk_dc d_J_firstJobMinute 14 rfl) (by decide) rfl ?_
      refine v_iload_n cx (tk_dc d_J_firstJobMinute 15 rfl) rfl ?_
      refine v_sipush cx (tk_dc d_J_firstJobMinute 16 rfl) (1440) (by decide) ?_
      refine v_callS (rest := _) cx (tk_dc d_J_firstJobMinute 17 rfl) m_J_75 ks_Q_floorDiv k_Q_floorDiv (c_Q_floorDiv (by decide)) rfl rfl (Nat.le_of_ble_eq_true rfl) (by decide) ?_
      refine v_eqi (iI (b / 1440)) (i_fd_eq (b := 1440) (by omega) (by omega) (by omega) (by omega)) ?_
      refine v_istore (lo' := [_, _, _, _, _, _, _]) cx (tk_dc d_J_firstJobMinute 18 rfl) (by decide) rfl ?_
      refine v_aload_n cx (tk_dc d_J_firstJobMinute 19 rfl) rfl ?_
      refine v_iload_n cx (tk_dc d_J_firstJobMinute 20 rfl) rfl ?_
      refine v_iload cx (tk_dc d_J_firstJobMinute 21 rfl) rfl ?_
      refine v_callVI (rest := _) cx (tk_dc d_J_firstJobMinute 22 rfl) m_J_80 kn_J_firstJobDay kv_J_firstJobDay k_J_firstJobDay (o_J hj) (by decide) rfl (c_J_firstJobDay H0 (by omega) (by omega) (by omega) (by omega)) rfl rfl (Nat.le_of_ble_eq_true rfl) (by decide) (fun x9 hx9 => ?_)
      obtain ⟨e1, rfl, hF1, he1⟩ := hx9
      have he0 : a / 1440 ≤ e1 := by rcases hF1 with w | w; (exact w.2.1); (have := w.1; omega)
      refine v_istore (lo' := [_, _, _, _, _, _, _]) cx (tk_dc d_J_firstJobMinute 23 rfl) (by decide) rfl ?_
      refine v_aload_n cx (tk_dc d_J_firstJobMinute 24 rfl) rfl ?_
      refine v_getC cx (jN _ + 1) (tk_dc d_J_firstJobMinute 25 rfl) f_J_12 (o_J (by assumption)) (by decide) (by rfl) ?_
      refine v_iload cx (tk_dc d_J_firstJobMinute 26 rfl) rfl ?_
      refine v_iload_n cx (tk_dc d_J_firstJobMinute 27 rfl) rfl ?_
      refine v_icmp_ne cx (tk_dc d_J_firstJobMinute 28 rfl) 65 (by decide) (fun h52 => ?_) (fun h52 => ?_)
      · have hne : ¬ e1 = a / 1440 := fun w => h52 (by rw [w])
        refine v_iconst cx (tk_dc d_J_firstJobMinute 35 rfl) (0) (by decide) ?_
        refine v_eqi (nI 0) rfl ?_
        refine v_callV (rest := _) cx (tk_dc d_J_firstJobMinute 36 rfl) m_J_83 kn_U_minuteOfDayFrom kv_U_minuteOfDayFrom k_U_minuteOfDayFrom (o_J1 hj) (by decide) rfl (c_U_minuteOfDayFrom hj (by omega)) rfl rfl (Nat.le_of_ble_eq_true rfl) (by decide) ?_
        first | refine v_eqi (nI m1) em1 ?_ | refine v_eqi (nI m2) em2 ?_
        refine v_istore (lo' := [_, _, _, _, _, _, _]) cx (tk_dc d_J_firstJobMinute 37 rfl) (by decide) rfl ?_
        refine v_iload cx (tk_dc d_J_firstJobMinute 38 rfl) rfl ?_
        refine v_sipush cx (tk_dc d_J_firstJobMinute 39 rfl) (1440) (by decide) ?_
        refine v_icmp_lt cx (tk_dc d_J_firstJobMinute 40 rfl) 100 (by decide) (fun _ => ?_) (fun h => absurd (show nI m2 < nI 1440 from nI_lt lm2 (by decide)) h)
        exact fin hab e1 m2 (by omega) (by omega) lm2 (fun w => ⟨by rcases hF1 with g | g; (exact fjm_found g.1 (cm2 lm2) lm2 (by omega) (fun d g1 g2 => Or.inl (g.2.2 d (by omega) g2)) (fun t g1 g2 => dm2 t (by omega) g2)); (have := g.1; omega), by omega⟩) (fun w => fjm_none (fun d g1 g2 => Or.inl (by rcases hF1 with g | g; (exact g.2.2 d g1 (by omega)); exact g.2 d g1 g2)))
      · have heq : e1 = a / 1440 := (iI_eq (by omega) (by omega) (by omega) (by omega)).mp h52
        obtain ⟨m1, em1, am1, bm1, cm1, dm1⟩ := u_min_spec (q := (a % 1440).toNat) hmn hhr hm0 r2 r1 (by omega)
        refine v_iload_n cx (tk_dc d_J_firstJobMinute 29 rfl) rfl ?_
        refine v_iload_n cx (tk_dc d_J_firstJobMinute 30 rfl) rfl ?_
        refine v_sipush cx (tk_dc d_J_firstJobMinute 31 rfl) (1440) (by decide) ?_
        refine v_imul cx (tk_dc d_J_firstJobMinute 32 rfl) ?_
        refine v_isub cx (tk_dc d_J_firstJobMinute 33 rfl) ?_
        refine v_eqi (nI (a % 1440).toNat) (by rw [show (1440 : Int32) = iI 1440 from rfl, iI_mul, iI_sub, iI_nI]; congr 1; omega) ?_
        refine v_goto cx (tk_dc d_J_firstJobMinute 34 rfl) 66 (by decide) ?_
        refine v_callV (rest := _) cx (tk_dc d_J_firstJobMinute 36 rfl) m_J_83 kn_U_minuteOfDayFrom kv_U_minuteOfDayFrom k_U_minuteOfDayFrom (o_J1 hj) (by decide) rfl (c_U_minuteOfDayFrom hj (by omega)) rfl rfl (Nat.le_of_ble_eq_true rfl) (by decide) ?_
        first | refine v_eqi (nI m1) em1 ?_ | refine v_eqi (nI m2) em2 ?_
        refine v_istore (lo' := [_, _, _, _, _, _, _]) cx (tk_dc d_J_firstJobMinute 37 rfl) (by decide) rfl ?_
        refine v_iload cx (tk_dc d_J_firstJobMinute 38 rfl) rfl ?_
        refine v_sipush cx (tk_dc d_J_firstJobMinute 39 rfl) (1440) (by decide) ?_
        refine v_icmp_lt cx (tk_dc d_J_firstJobMinute 40 rfl) 100 (by decide) (fun h76 => ?_) (fun h76 => ?_)
        · have lm1 : m1 < 1440 := (nI_ltI (by omega) (by decide)).mp (show nI m1 < nI 1440 from h76)
          exact fin hab e1 m1 (by omega) (by omega) lm1 (fun w => ⟨by rcases hF1 with g | g; (exact fjm_found g.1 (cm1 lm1) lm1 (by omega) (fun d g1 g2 => Or.inl (g.2.2 d (by omega) g2)) (fun t g1 g2 => dm1 t (by omega) g2)); (have := g.1; omega), by omega⟩) (fun w => by omega)
        · have hm1 : 1440 ≤ m1 := by rcases Nat.lt_or_ge m1 1440 with w | w; (exact absurd (show nI m1 < nI 1440 from nI_lt w (by decide)) h76); exact w
          have hnd2 : ∀ d, a / 1440 ≤ d → (a / 1440 + 1 ≤ d → j_jd M z h ρ mv d = false) → nod ρ (j_jd M z h ρ mv) a d := fun d g1 g2 => by
            by_cases g3 : d = a / 1440
            · exact Or.inr ⟨g3, fun t g4 g5 => dm1 t (by omega) (by omega)⟩
            · exact Or.inl (g2 (by omega))
          refine v_aload_n cx (tk_dc d_J_firstJobMinute 41 rfl) rfl ?_
          refine v_iload_n cx (tk_dc d_J_firstJobMinute 42 rfl) rfl ?_
          refine v_iconst cx (tk_dc d_J_firstJobMinute 43 rfl) (1) (by decide) ?_
          refine v_iadd cx (tk_dc d_J_firstJobMinute 44 rfl) ?_
          refine v_eqi (iI (a / 1440 + 1)) (iI_add _ 1) ?_
          refine v_iload cx (tk_dc d_J_firstJobMinute 45 rfl) rfl ?_
          refine v_callVI (rest := _) cx (tk_dc d_J_firstJobMinute 46 rfl) m_J_80 kn_J_firstJobDay kv_J_firstJobDay k_J_firstJobDay (o_J hj) (by decide) rfl (c_J_firstJobDay H0 (by omega) (by omega) (by omega) (by omega)) rfl rfl (Nat.le_of_ble_eq_true rfl) (by decide) (fun x9 hx9 => ?_)
          obtain ⟨e2, rfl, hF2, he2⟩ := hx9
          have he3 : a / 1440 + 1 ≤ e2 ∨ e2 = b / 1440 + 1 := by rcases hF2 with w | w; (exact Or.inl w.2.1); exact Or.inr w.1
          refine v_istore (lo' := [_, _, _, _, _, _, _]) cx (tk_dc d_J_firstJobMinute 47 rfl) (by decide) rfl ?_
          refine v_aload_n cx (tk_dc d_J_firstJobMinute 48 rfl) rfl ?_
          refine v_getC cx (jN _ + 1) (tk_dc d_J_firstJobMinute 49 rfl) f_J_12 (o_J (by assumption)) (by decide) (by rfl) ?_
          refine v_iconst cx (tk_dc d_J_firstJobMinute 50 rfl) (0) (by decide) ?_
          refine v_eqi (nI 0) rfl ?_
          refine v_callV (rest := _) cx (tk_dc d_J_firstJobMinute 51 rfl) m_J_83 kn_U_minuteOfDayFrom kv_U_minuteOfDayFrom k_U_minuteOfDayFrom (o_J1 hj) (by decide) rfl (c_U_minuteOfDayFrom (q := 0) hj (by omega)) rfl rfl (Nat.le_of_ble_eq_true rfl) (by decide) ?_
          refine v_eqi (nI m2) em2 ?_
          refine v_istore (lo' := [_, _, _, _, _, _, _]) cx (tk_dc d_J_firstJobMinute 52 rfl) (by decide) rfl ?_
          exact fin hab e2 m2 (by omega) (by omega) lm2 (fun w => ⟨by rcases hF2 with g | g; (exact fjm_found g.1 (cm2 lm2) lm2 (by omega) (fun d g1 g2 => hnd2 d g1 (fun g9 => g.2.2 d g9 g2)) (fun t g1 g2 => dm2 t (by omega) g2)); (have := g.1; omega), by omega⟩) (fun w => fjm_none (fun d g1 g2 => hnd2 d g1 (fun g9 => by rcases hF2 with g | g; (exact g.2.2 d g9 (by omega)); exact g.2 d g9 g2)))
    · have hno := b01_nz h12
      rw [hmn, hhr] at hno
      simp only [decide_eq_true_eq] at hno
      refine v_iload_n cx (tk_dc d_J_firstJobMinute 7 rfl) rfl ?_
      refine v_iconst cx (tk_dc d_J_firstJobMinute 8 rfl) (1) (by decide) ?_
      refine v_iadd cx (tk_dc d_J_firstJobMinute 9 rfl) ?_
      exact v_iretI cx hB (tk_dc d_J_firstJobMinute 10 rfl) (by first | exact ⟨b + 1, iI_add b 1, Or.inr ⟨rfl, fun l _ _ => by omega⟩, by omega, by omega⟩ | exact ⟨b + 1, iI_add b 1, Or.inr ⟨rfl, fun l _ _ => no_min hr0 hno _ l⟩, by omega, by omega⟩) (rfl)
