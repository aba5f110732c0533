/-! the other side: due minutes found -/
theorem anyN_le {f : Nat → Bool} {k n : Nat} (h : k ≤ n) (g : anyN f k = true) : anyN f n = true := by
  obtain ⟨i, a, b⟩ := (anyN_iff f k).mp g
  exact anyN_t (by omega) b
set_option maxHeartbeats 4000000 in
set_option maxRecDepth 100000 in
theorem c_M_isSkipped {l : Launch} {E : tk_E} {M : tk_M} {j z h n : Nat} {ρ : ru} {mv : Bool} {st os : Nat → Int} {hd : Nat → Int32} {x : Int} (H : m_rul M j ρ) (Z : m_zon M j z h mv hd) (O : m_zo M z n st os) (h1 : 0 ≤ x) (h2 : x ≤ 52595999) : tk_MS l y_M_isSkipped b_M_isSkipped 8 (some .boolean) 6 E [.ref (E.1 + 172), .int (nI j), .int (iI x)] M  (fun y => y = b01 (skB st os (ldB ρ (jd_of ρ mv h hd)) (ptI st x n) x)) := by
  refine tk_ofVS (by decide +kernel) [some (.ref (E.1 + 172)), some (.int (nI j)), some (.int (iI x)), none, none, none, none, none] rfl (Nat.le_of_ble_eq_true rfl) ?_
  intro p e s m args below meth c cx hB
  have hj := H.1
  have Z0 := Z
  obtain ⟨hz, -, hzj, -⟩ := Z
  have O0 := O
  obtain ⟨zo0, -, hn, hso⟩ := O
  have zo1 := zo0
  obtain ⟨hn1, hn9, hst0, hos0, hrg, -⟩ := zo1
  have hpt := (pt_en zo0 h1 h2).1
  obtain ⟨q, hq⟩ : ∃ q, q = ptI st x n := ⟨_, rfl⟩
  rw [← hq] at hpt
  rw [← hq]
  have rq := hrg q hpt
  have rq1 := hrg (q - 1) (by omega)
  have loop : x ≠ 0 ∧ 0 < q ∧ st q = x → ∀ (d t : Nat) (M1 : tk_M), t + d = (os q - os (q - 1)).toNat → SC M M1 → tk_V p l e (tk_rm 6 0 0) s m args below meth c (MQ below (tk_QS E M (fun y => y = b01 (skB st os (ldB ρ (jd_of ρ mv h hd)) q x))) args s 0 0 (tk_A E)) E 8 209 (tk_ct E M1) 0 0 71 [some (.ref (E.1 + 172)), some (.int (nI j)), some (.int (iI x)), some (.int (nI z)), some (.int (nI q)), some (.int (iI (x + os q))), some (.int (b01 (anyN (fun i => (ldB ρ (jd_of ρ mv h hd)) (x + os (q - 1) + i)) t))), some (.int (iI (x + os (q - 1) + t)))] [] := by
    intro hc d
    have hsk : skB st os (ldB ρ (jd_of ρ mv h hd)) q x = (anyN (fun i => (ldB ρ (jd_of ρ mv h hd)) (x + os (q - 1) + i)) (os q - os (q - 1)).toNat) := by unfold skB; rw [decide_eq_true hc, Bool.true_and]
    induction d with
    | zero =>
      intro t M1 ht sc
      have htt : t = (os q - os (q - 1)).toNat := by omega
      refine v_iload cx (tk_dc d_M_isSkipped 46 rfl) rfl ?_
      refine v_iload cx (tk_dc d_M_isSkipped 47 rfl) rfl ?_
      refine v_icmp_ge cx (tk_dc d_M_isSkipped 48 rfl) 98 (by decide) (fun _ => ?_) (fun h => absurd ((iI_le (by omega) (by omega) (by omega) (by omega)).mpr (by omega)) h)
      refine v_iload cx (tk_dc d_M_isSkipped 58 rfl) rfl ?_
      exact v_zretS cx hB (tk_dc d_M_isSkipped 59 rfl) (b01_01 _) (by rw [hsk, ← htt]) (sc)
    | succ d ih =>
      intro t M1 ht sc
      have hs : (anyN (fun i => (ldB ρ (jd_of ρ mv h hd)) (x + os (q - 1) + i)) (t + 1)) = ((anyN (fun i => (ldB ρ (jd_of ρ mv h hd)) (x + os (q - 1) + i)) t) || (ldB ρ (jd_of ρ mv h hd)) (x + os (q - 1) + t)) := rfl
      refine v_iload cx (tk_dc d_M_isSkipped 46 rfl) rfl ?_
      refine v_iload cx (tk_dc d_M_isSkipped 47 rfl) rfl ?_
      refine v_icmp_ge cx (tk_dc d_M_isSkipped 48 rfl) 98 (by decide) (fun h => absurd h (fun w => absurd ((iI_le (by omega) (by omega) (by omega) (by omega)).mp w) (by omega))) (fun _ => ?_)
      refine v_iload cx (tk_dc d_M_isSkipped 49 rfl) rfl ?_
      refine v_if_ne cx (tk_dc d_M_isSkipped 50 rfl) 98 (by decide) (fun h80 => ?_) (fun h80 => ?_)
      · have g80 := b01_nz h80
        refine v_iload cx (tk_dc d_M_isSkipped 58 rfl) rfl ?_
        exact v_zretS cx hB (tk_dc d_M_isSkipped 59 rfl) (b01_01 _) (by rw [hsk, g80, anyN_le (by omega) g80]) (sc)
      · have g80 := b01_z h80
        refine v_aload_n cx (tk_dc d_M_isSkipped 51 rfl) rfl ?_
        refine v_iload_n cx (tk_dc d_M_isSkipped 52 rfl) rfl ?_
        refine v_iload cx (tk_dc d_M_isSkipped 53 rfl) rfl ?_
        refine v_callVS (rest := _) cx (tk_dc d_M_isSkipped 54 rfl) m_M_196 kn_M_isLocalDue kv_M_isLocalDue k_M_isLocalDue o_M (by decide) rfl (c_M_isLocalDue (H.sc sc) (Z0.sc sc) (by omega) (by omega)) rfl rfl (Nat.le_of_ble_eq_true rfl) (by decide) (fun x9 M2 hx9 sc2 => ?_)
        subst hx9
        have ih2 := ih (t + 1) M2 (by omega) (sc.tr sc2)
        rw [hs, g80, Bool.false_or] at ih2
        refine v_istore (lo' := [_, _, _, _, _, _, _, _]) cx (tk_dc d_M_isSkipped 55 rfl) (by decide) rfl ?_
        refine v_iinc (lo' := [_, _, _, _, _, _, _, _]) cx (tk_dc d_M_isSkipped 56 rfl) rfl (iI (x + os (q - 1) + ((t + 1 : Nat) : Int))) (by rw [show Int32.ofInt 1 = iI 1 from rfl, iI_add]; congr 1; omega) (by decide) rfl ?_
        refine v_goto cx (tk_dc d_M_isSkipped 57 rfl) 71 (by decide) ?_
        exact ih2
  refine v_aload_n cx (tk_dc d_M_isSkipped 0 rfl) rfl ?_
  refine v_getC cx 185 (tk_dc d_M_isSkipped 1 rfl) f_M_47 o_M (by decide) (by rfl) ?_
  refine v_iload_n cx (tk_dc d_M_isSkipped 2 rfl) rfl ?_
  refine w_iald cx (tk_dc d_M_isSkipped 3 rfl) a_185 j (rfl) (by omega) (by decide) ?_
  refine v_eqi (nI z) hzj ?_
  refine v_istore_n (lo' := [_, _, _, _, _, _, _, _]) cx (tk_dc d_M_isSkipped 4 rfl) (by decide) rfl ?_
  refine v_aload_n cx (tk_dc d_M_isSkipped 5 rfl) rfl ?_
  refine v_iload_n cx (tk_dc d_M_isSkipped 6 rfl) rfl ?_
  refine v_iload_n cx (tk_dc d_M_isSkipped 7 rfl) rfl ?_
  refine v_callV (rest := _) cx (tk_dc d_M_isSkipped 8 rfl) m_M_190 kn_M_shiftsBy kv_M_shiftsBy k_M_shiftsBy o_M (by decide) rfl (c_M_shiftsBy O0 h1 h2) rfl rfl (Nat.le_of_ble_eq_true rfl) (by decide) ?_
  refine v_eqi (nI q) (by rw [hq]) ?_
  refine v_istore (lo' := [_, _, _, _, _, _, _, _]) cx (tk_dc d_M_isSkipped 9 rfl) (by decide) rfl ?_
  refine v_iload_n cx (tk_dc d_M_isSkipped 10 rfl) rfl ?_
  refine v_if_eq cx (tk_dc d_M_isSkipped 11 rfl) 42 (by decide) (fun h16 => ?_) (fun h16 => ?_)
  · have g16 : x = 0 := (iI_eq (b := 0) (by omega) (by omega) (by omega) (by omega)).mp h16
    refine v_iconst cx (tk_dc d_M_isSkipped 26 rfl) (0) (by decide) ?_
    exact v_zretS cx hB (tk_dc d_M_isSkipped 27 rfl) (by first | exact Or.inl rfl | exact Or.inr rfl | exact b01_01 _ | assumption) (by unfold skB; rw [decide_eq_false (fun w => w.1 g16), Bool.false_and]; rfl) (by first | exact SC.rf | assumption)
  · have g16 : ¬ x = 0 := fun w => h16 (by rw [w]; rfl)
    refine v_iload cx (tk_dc d_M_isSkipped 12 rfl) rfl ?_
    refine v_if_eq cx (tk_dc d_M_isSkipped 13 rfl) 42 (by decide) (fun h21 => ?_) (fun h21 => ?_)
    · have g21 : q = 0 := nI_inj (b := 0) (by omega) (by decide) h21
      refine v_iconst cx (tk_dc d_M_isSkipped 26 rfl) (0) (by decide) ?_
      exact v_zretS cx hB (tk_dc d_M_isSkipped 27 rfl) (by first | exact Or.inl rfl | exact Or.inr rfl | exact b01_01 _ | assumption) (by unfold skB; rw [decide_eq_false (fun w => by omega), Bool.false_and]; rfl) (by first | exact SC.rf | assumption)
    · have g21 : 0 < q := by rcases Nat.eq_zero_or_pos q with w | w; (exact absurd (by rw [w]; rfl) h21); exact w
      refine v_aload_n cx (tk_dc d_M_isSkipped 14 rfl) rfl ?_
      refine v_getC cx 173 (tk_dc d_M_isSkipped 15 rfl) f_M_7 o_M (by decide) (by rfl) ?_
      refine v_bipush cx (tk_dc d_M_isSkipped 16 rfl) (8) (by decide) ?_
      refine v_iload_n cx (tk_dc d_M_isSkipped 17 rfl) rfl ?_
      refine v_imul cx (tk_dc d_M_isSkipped 18 rfl) ?_
      refine v_iload cx (tk_dc d_M_isSkipped 19 rfl) rfl ?_
      refine v_iadd cx (tk_dc d_M_isSkipped 20 rfl) ?_
      refine v_iconst cx (tk_dc d_M_isSkipped 21 rfl) (1) (by decide) ?_
      refine v_isub cx (tk_dc d_M_isSkipped 22 rfl) ?_
      refine w_iald cx (tk_dc d_M_isSkipped 23 rfl) a_173 (8 * z + (q - 1)) (by rw [show (8 : Int32) = nI 8 from rfl, pk_mul, nI_add, nI_sub1 (by omega)]; congr 1; omega) (by omega) (by decide) ?_
      refine v_eqi (iI (st q)) (by rw [(hso (q - 1) (by omega)).1, Nat.sub_add_cancel g21]) ?_
      refine v_iload_n cx (tk_dc d_M_isSkipped 24 rfl) rfl ?_
      refine v_icmp_eq cx (tk_dc d_M_isSkipped 25 rfl) 44 (by decide) (fun h39 => ?_) (fun h39 => ?_)
      · have g39 : st q = x := (iI_eq (by omega) (by omega) (by omega) (by omega)).mp h39
        refine v_iload_n cx (tk_dc d_M_isSkipped 28 rfl) rfl ?_
        refine v_aload_n cx (tk_dc d_M_isSkipped 29 rfl) rfl ?_
        refine v_iload_n cx (tk_dc d_M_isSkipped 30 rfl) rfl ?_
        refine v_iload cx (tk_dc d_M_isSkipped 31 rfl) rfl ?_
        refine v_callV (rest := _) cx (tk_dc d_M_isSkipped 32 rfl) m_M_193 kn_M_offset kv_M_offset k_M_offset o_M (by decide) rfl (c_M_offset O0 hpt) rfl rfl (Nat.le_of_ble_eq_true rfl) (by decide) ?_
        refine v_iadd cx (tk_dc d_M_isSkipped 33 rfl) ?_
        refine v_eqi (iI (x + os q)) (iI_add _ _) ?_
        refine v_istore (lo' := [_, _, _, _, _, _, _, _]) cx (tk_dc d_M_isSkipped 34 rfl) (by decide) rfl ?_
        refine v_iconst cx (tk_dc d_M_isSkipped 35 rfl) (0) (by decide) ?_
        refine v_istore (lo' := [_, _, _, _, _, _, _, _]) cx (tk_dc d_M_isSkipped 36 rfl) (by decide) rfl ?_
        refine v_iload_n cx (tk_dc d_M_isSkipped 37 rfl) rfl ?_
        refine v_aload_n cx (tk_dc d_M_isSkipped 38 rfl) rfl ?_
        refine v_iload_n cx (tk_dc d_M_isSkipped 39 rfl) rfl ?_
        refine v_iload cx (tk_dc d_M_isSkipped 40 rfl) rfl ?_
        refine v_iconst cx (tk_dc d_M_isSkipped 41 rfl) (1) (by decide) ?_
        refine v_isub cx (tk_dc d_M_isSkipped 42 rfl) ?_
        refine v_eqi (nI (q - 1)) (nI_sub1 g21) ?_
        refine v_callV (rest := _) cx (tk_dc d_M_isSkipped 43 rfl) m_M_193 kn_M_offset kv_M_offset k_M_offset o_M (by decide) rfl (c_M_offset O0 (k := q - 1) (by omega)) rfl rfl (Nat.le_of_ble_eq_true rfl) (by decide) ?_
        refine v_iadd cx (tk_dc d_M_isSkipped 44 rfl) ?_
        refine v_eqi (iI (x + os (q - 1) + ((0 : Nat) : Int))) (by rw [iI_add]; congr 1; omega) ?_
        refine v_istore (lo' := [_, _, _, _, _, _, _, _]) cx (tk_dc d_M_isSkipped 45 rfl) (by decide) rfl ?_
        exact loop ⟨g16, g21, g39⟩ (os q - os (q - 1)).toNat 0 M (by omega) SC.rf
      · have g39 : ¬ st q = x := fun w => h39 (by rw [w])
        refine v_iconst cx (tk_dc d_M_isSkipped 26 rfl) (0) (by decide) ?_
        exact v_zretS cx hB (tk_dc d_M_isSkipped 27 rfl) (by first | exact Or.inl rfl | exact Or.inr rfl | exact b01_01 _ | assumption) (by unfold skB; rw [decide_eq_false (fun w => g39 w.2.2), Bool.false_and]; rfl) (by first | exact SC.rf | assumption)

set_option maxHeartbeats 4000000 in
set_option maxRecDepth 100000 in
theorem c_M_isDueAt {l : Launch} {E : tk_E} {M : tk_M} {j z h ne n : Nat} {ρ : ru} {mv : Bool} {st os : Nat → Int} {hd ex : Nat → Int32} {x : Int} (H : mo_ok M j z h ne n ρ mv st os hd ex) (h1 : 0 ≤ x) (h2 : x ≤ 52595999) : tk_MS l y_M_isDueAt b_M_isDueAt 5 (some .boolean) 7 E [.ref (E.1 + 172), .int (nI j), .long (lI x)] M  (fun y => y = b01 ((due_of n h ne ρ mv st os hd ex) x)) := by
  refine tk_ofVS (by decide +kernel) [some (.ref (E.1 + 172)), some (.int (nI j)), some (.long (lI x)), none, none] rfl (Nat.le_of_ble_eq_true rfl) ?_
  intro p e s m args below meth c cx hB
  obtain ⟨H1, H2, H3, H4⟩ := H
  have hj := H1.1
  have hzj := H2.2.2.1
  have hpt := (pt_en H3.1 h1 h2).1
  have rq := H3.1.2.2.2.2.1 _ hpt
  have hex : m_exc M j ne (iI x) = ex_of ne ex x := anyN_congr (fun i hi => by rw [H4.2.2 i hi])
  have hdu : (due_of n h ne ρ mv st os hd ex) x = ((!ex_of ne ex x) && (((ldB ρ (jd_of ρ mv h hd)) (x + os (ptI st x n)) && !hadB st os (ptI st x n) (x + os (ptI st x n))) || skB st os (ldB ρ (jd_of ρ mv h hd)) (ptI st x n) x)) := rfl
  refine v_lload_n cx (tk_dc d_M_isDueAt 0 rfl) rfl ?_
  refine v_l2i cx (tk_dc d_M_isDueAt 1 rfl) ?_
  refine v_eqi (iI x) (lI_l x) ?_
  refine v_istore (lo' := [_, _, _, _, _]) cx (tk_dc d_M_isDueAt 2 rfl) (by decide) rfl ?_
  refine v_aload_n cx (tk_dc d_M_isDueAt 3 rfl) rfl ?_
  refine v_iload_n cx (tk_dc d_M_isDueAt 4 rfl) rfl ?_
  refine v_iload cx (tk_dc d_M_isDueAt 5 rfl) rfl ?_
  refine v_callV (rest := _) cx (tk_dc d_M_isDueAt 6 rfl) m_M_149 kn_M_isException kv_M_isException k_M_isException o_M (by decide) rfl (c_M_isException hj H4.1 H4.2.1) rfl rfl (Nat.le_of_ble_eq_true rfl) (by decide) ?_
  refine v_eqi (b01 (ex_of ne ex x)) (by rw [hex]) ?_
  refine v_if_eq cx (tk_dc d_M_isDueAt 7 rfl) 16 (by decide) (fun h11 => ?_) (fun h11 => ?_)
  · have g11 := b01_z h11
    refine v_aload_n cx (tk_dc d_M_isDueAt 10 rfl) rfl ?_
    refine v_iload_n cx (tk_dc d_M_isDueAt 11 rfl) rfl ?_
    refine v_aload_n cx (tk_dc d_M_isDueAt 12 rfl) rfl ?_
    refine v_aload_n cx (tk_dc d_M_isDueAt 13 rfl) rfl ?_
    refine v_getC cx 185 (tk_dc d_M_isDueAt 14 rfl) f_M_47 o_M (by decide) (by rfl) ?_
    refine v_iload_n cx (tk_dc d_M_isDueAt 15 rfl) rfl ?_
    refine w_iald cx (tk_dc d_M_isDueAt 16 rfl) a_185 j (rfl) (by omega) (by decide) ?_
    refine v_eqi (nI z) hzj ?_
    refine v_iload cx (tk_dc d_M_isDueAt 17 rfl) rfl ?_
    refine v_callV (rest := _) cx (tk_dc d_M_isDueAt 18 rfl) m_M_199 kn_M_localOf kv_M_localOf k_M_localOf o_M (by decide) rfl (c_M_localOf H3 h1 h2) rfl rfl (Nat.le_of_ble_eq_true rfl) (by decide) ?_
    refine v_callVS (rest := _) cx (tk_dc d_M_isDueAt 19 rfl) m_M_196 kn_M_isLocalDue kv_M_isLocalDue k_M_isLocalDue o_M (by decide) rfl (c_M_isLocalDue H1 H2 (by omega) (by omega)) rfl rfl (Nat.le_of_ble_eq_true rfl) (by decide) (fun x9 M2 hx9 sc2 => ?_)
    subst hx9
    refine v_if_eq cx (tk_dc d_M_isDueAt 20 rfl) 51 (by decide) (fun h33 => ?_) (fun h33 => ?_)
    · have g33 := b01_z h33
      refine v_aload_n cx (tk_dc d_M_isDueAt 29 rfl) rfl ?_
      refine v_iload_n cx (tk_dc d_M_isDueAt 30 rfl) rfl ?_
      refine v_iload cx (tk_dc d_M_isDueAt 31 rfl) rfl ?_
      refine v_callVS (rest := _) cx (tk_dc d_M_isDueAt 32 rfl) m_M_205 kn_M_isSkipped kv_M_isSkipped k_M_isSkipped o_M (by decide) rfl (c_M_isSkipped (H1.sc sc2) (H2.sc sc2) (H3.sc sc2) h1 h2) rfl rfl (Nat.le_of_ble_eq_true rfl) (by decide) (fun x9 M3 hx9 sc3 => ?_)
      subst hx9
      refine v_if_eq cx (tk_dc d_M_isDueAt 33 rfl) 65 (by decide) (fun h58 => ?_) (fun h58 => ?_)
      · have g58 := b01_z h58
        refine v_iconst cx (tk_dc d_M_isDueAt 36 rfl) (0) (by decide) ?_
        exact v_zretS cx hB (tk_dc d_M_isDueAt 37 rfl) (by first | exact Or.inl rfl | exact Or.inr rfl | exact b01_01 _ | assumption) (by rw [hdu, g11, g33, g58]; simp [b01]) (by first | exact sc2 | exact sc2.tr sc3)
      · have g58 := b01_nz h58
        refine v_iconst cx (tk_dc d_M_isDueAt 34 rfl) (1) (by decide) ?_
        refine v_goto cx (tk_dc d_M_isDueAt 35 rfl) 66 (by decide) ?_
        exact v_zretS cx hB (tk_dc d_M_isDueAt 37 rfl) (by first | exact Or.inl rfl | exact Or.inr rfl | exact b01_01 _ | assumption) (by rw [hdu, g11, g33, g58]; simp [b01]) (by first | exact sc2 | exact sc2.tr sc3)
    · have g33 := b01_nz h33
      refine v_aload_n cx (tk_dc d_M_isDueAt 21 rfl) rfl ?_
      refine v_aload_n cx (tk_dc d_M_isDueAt 22 rfl) rfl ?_
      refine v_getC cx 185 (tk_dc d_M_isDueAt 23 rfl) f_M_47 o_M (by decide) (by rfl) ?_
      refine v_iload_n cx (tk_dc d_M_isDueAt 24 rfl) rfl ?_
      refine w_iald cx (tk_dc d_M_isDueAt 25 rfl) a_185 j (rfl) (by omega) (by decide) ?_
      refine v_eqi (nI z) (by rw [sc2.at _ rfl]; exact hzj) ?_
      refine v_iload cx (tk_dc d_M_isDueAt 26 rfl) rfl ?_
      refine v_callV (rest := _) cx (tk_dc d_M_isDueAt 27 rfl) m_M_202 kn_M_wasBefore kv_M_wasBefore k_M_wasBefore o_M (by decide) rfl (c_M_wasBefore (H3.sc sc2) h1 h2) rfl rfl (Nat.le_of_ble_eq_true rfl) (by decide) ?_
      refine v_if_eq cx (tk_dc d_M_isDueAt 28 rfl) 61 (by decide) (fun h48 => ?_) (fun h48 => ?_)
      · have g48 := b01_z h48
        refine v_iconst cx (tk_dc d_M_isDueAt 34 rfl) (1) (by decide) ?_
        refine v_goto cx (tk_dc d_M_isDueAt 35 rfl) 66 (by decide) ?_
        exact v_zretS cx hB (tk_dc d_M_isDueAt 37 rfl) (by first | exact Or.inl rfl | exact Or.inr rfl | exact b01_01 _ | assumption) (by rw [hdu, g11, g33, g48]; simp [b01]) (by first | exact sc2 | exact sc2.tr sc3)
      · have g48 := b01_nz h48
        refine v_aload_n cx (tk_dc d_M_isDueAt 29 rfl) rfl ?_
        refine v_iload_n cx (tk_dc d_M_isDueAt 30 rfl) rfl ?_
        refine v_iload cx (tk_dc d_M_isDueAt 31 rfl) rfl ?_
        refine v_callVS (rest := _) cx (tk_dc d_M_isDueAt 32 rfl) m_M_205 kn_M_isSkipped kv_M_isSkipped k_M_isSkipped o_M (by decide) rfl (c_M_isSkipped (H1.sc sc2) (H2.sc sc2) (H3.sc sc2) h1 h2) rfl rfl (Nat.le_of_ble_eq_true rfl) (by decide) (fun x9 M3 hx9 sc3 => ?_)
        subst hx9
        refine v_if_eq cx (tk_dc d_M_isDueAt 33 rfl) 65 (by decide) (fun h58 => ?_) (fun h58 => ?_)
        · have g58 := b01_z h58
          refine v_iconst cx (tk_dc d_M_isDueAt 36 rfl) (0) (by decide) ?_
          exact v_zretS cx hB (tk_dc d_M_isDueAt 37 rfl) (by first | exact Or.inl rfl | exact Or.inr rfl | exact b01_01 _ | assumption) (by rw [hdu, g11, g33, g48, g58]; simp [b01]) (by first | exact sc2 | exact sc2.tr sc3)
        · have g58 := b01_nz h58
          refine v_iconst cx (tk_dc d_M_isDueAt 34 rfl) (1) (by decide) ?_
          refine v_goto cx (tk_dc d_M_isDueAt 35 rfl) 66 (by decide) ?_
          exact v_zretS cx hB (tk_dc d_M_isDueAt 37 rfl) (by first | exact Or.inl rfl | exact Or.inr rfl | exact b01_01 _ | assumption) (by rw [hdu, g11, g33, g48, g58]; simp [b01]) (by first | exact sc2 | exact sc2.tr sc3)
  · have g11 := b01_nz h11
    refine v_iconst cx (tk_dc d_M_isDueAt 8 rfl) (0) (by decide) ?_
    exact v_zretS cx hB (tk_dc d_M_isDueAt 9 rfl) (by first | exact Or.inl rfl | exact Or.inr rfl | exact b01_01 _ | assumption) (by rw [hdu, g11]; rfl) (by first | exact SC.rf | assumption)
