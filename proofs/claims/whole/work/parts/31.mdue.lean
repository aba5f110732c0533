/-! the other side: when a minute is due -/
def lI (z : Int) : Int64 := Int64.ofInt z
theorem lI_toInt {z : Int} (h1 : -9000000000000000000 ≤ z) (h2 : z < 9000000000000000000) : (lI z).toInt = z := Int64.toInt_ofInt_of_le (by omega) (by omega)
theorem lI_add (a b : Int) : lI a + lI b = lI (a + b) := (Int64.ofInt_add a b).symm
theorem lI_sub (a b : Int) : lI a - lI b = lI (a - b) := (Int64.ofInt_sub a b).symm
theorem lI_lt {a b : Int} (h1 : -9000000000000000000 ≤ a) (h2 : a < 9000000000000000000) (h3 : -9000000000000000000 ≤ b) (h4 : b < 9000000000000000000) : lI a < lI b ↔ a < b := by
  rw [Int64.lt_iff_toInt_lt, lI_toInt h1 h2, lI_toInt h3 h4]
theorem lI_eq {a b : Int} (h1 : -9000000000000000000 ≤ a) (h2 : a < 9000000000000000000) (h3 : -9000000000000000000 ≤ b) (h4 : b < 9000000000000000000) : lI a = lI b ↔ a = b := by
  rw [← Int64.toInt_inj, lI_toInt h1 h2, lI_toInt h3 h4]
theorem lI_i {z : Int} (h1 : -2147483648 ≤ z) (h2 : z < 2147483648) : (iI z).toInt64 = lI z := by
  apply Int64.toInt_inj.mp
  rw [Int32.toInt_toInt64, iI_toInt h1 h2, lI_toInt (by omega) (by omega)]
theorem lI_l (z : Int) : (lI z).toInt32 = iI z := by
  unfold lI iI
  exact Int64.toInt32_ofInt
theorem lgc_gt (x y : Int64) : 0 < lg_cmp x y ↔ y < x := by
  unfold lg_cmp
  by_cases h1 : x > y
  · rw [if_pos h1]
    exact ⟨fun _ => h1, fun _ => by decide⟩
  · rw [if_neg h1]
    by_cases h2 : x = y
    · rw [if_pos h2]
      exact ⟨fun h => absurd h (by decide), fun h => absurd h h1⟩
    · rw [if_neg h2]
      exact ⟨fun h => absurd h (by decide), fun h => absurd h h1⟩
theorem lgc_lt (x y : Int64) : lg_cmp x y < 0 ↔ x < y := by
  unfold lg_cmp
  by_cases h1 : x > y
  · rw [if_pos h1]
    refine ⟨fun h => absurd h (by decide), fun h => ?_⟩
    have a := Int64.lt_iff_toInt_lt.mp h
    have b := Int64.lt_iff_toInt_lt.mp h1
    omega
  · rw [if_neg h1]
    by_cases h2 : x = y
    · rw [if_pos h2, h2]
      exact ⟨fun h => absurd h (by decide), fun h => absurd h Int64.lt_irrefl⟩
    · rw [if_neg h2]
      refine ⟨fun _ => ?_, fun _ => by decide⟩
      rw [Int64.lt_iff_toInt_lt]
      have c : ¬ y.toInt < x.toInt := fun w => h1 (Int64.lt_iff_toInt_lt.mpr w)
      have d : ¬ x.toInt = y.toInt := fun w => h2 (Int64.toInt_inj.mp w)
      omega
theorem cg {a b : Int} (h1 : -9000000000000000000 ≤ a) (h2 : a < 9000000000000000000) (h3 : -9000000000000000000 ≤ b) (h4 : b < 9000000000000000000) : 0 < lg_cmp (lI a) (lI b) ↔ b < a := by rw [lgc_gt, lI_lt h3 h4 h1 h2]
theorem cl {a b : Int} (h1 : -9000000000000000000 ≤ a) (h2 : a < 9000000000000000000) (h3 : -9000000000000000000 ≤ b) (h4 : b < 9000000000000000000) : lg_cmp (lI a) (lI b) < 0 ↔ a < b := by rw [lgc_lt, lI_lt h1 h2 h3 h4]
theorem ce {a b : Int} (h1 : -9000000000000000000 ≤ a) (h2 : a < 9000000000000000000) (h3 : -9000000000000000000 ≤ b) (h4 : b < 9000000000000000000) : lg_cmp (lI a) (lI b) = 0 ↔ a = b := by rw [lgc0, lI_eq h1 h2 h3 h4]
theorem sL_bit1 {f d : Nat} (hf : f < 2 ^ 62) (hd : d < 64) : (lN f >>> ((nI d).toInt64 &&& 63)) &&& 1 = 1 ↔ f.testBit d = true := by
  have h1 : f / 2 ^ d < 2 ^ 62 := Nat.lt_of_le_of_lt (Nat.div_le_self _ _) hf
  rw [sL_shr hf hd, wb_a1 (by omega), Nat.testBit_eq_decide_div_mod_eq, show (1 : Int64) = lN 1 from rfl, pk_lEQ (by omega) (by decide)]
  simp
def m_zo (M : tk_M) (z n : Nat) (st os : Nat → Int) : Prop := zo n st os ∧ z < 4 ∧ M.1 175 z = nI (n - 1) ∧ ∀ i, i + 1 < n → M.1 173 (8 * z + i) = iI (st (i + 1)) ∧ M.1 174 (8 * z + i) = iI (os (i + 1))
theorem m_zo.sc {M M' : tk_M} {z n : Nat} {st os : Nat → Int} (H : m_zo M z n st os) (g : SC M M') : m_zo M' z n st os := by
  unfold m_zo at H ⊢
  rw [g.at _ rfl]
  exact ⟨H.1, H.2.1, H.2.2.1, fun i hi => by rw [g.at _ rfl, g.at _ rfl]; exact H.2.2.2 i hi⟩
def m_exs (M : tk_M) (j ne : Nat) (ex : Nat → Int32) : Prop := ne ≤ 8 ∧ M.1 189 j = nI ne ∧ ∀ i, i < ne → M.1 188 (8 * j + i) = ex i
theorem m_exs.sc {M M' : tk_M} {j ne : Nat} {ex : Nat → Int32} (H : m_exs M j ne ex) (g : SC M M') : m_exs M' j ne ex := by
  unfold m_exs at H ⊢
  rw [g.at _ rfl]
  exact ⟨H.1, H.2.1, fun i hi => by rw [g.at _ rfl]; exact H.2.2 i hi⟩
/-- all of a job on the other side -/
def mo_ok (M : tk_M) (j z h ne n : Nat) (ρ : ru) (mv : Bool) (st os : Nat → Int) (hd ex : Nat → Int32) : Prop := m_rul M j ρ ∧ m_zon M j z h mv hd ∧ m_zo M z n st os ∧ m_exs M j ne ex
theorem mo_ok.sc {M M' : tk_M} {j z h ne n : Nat} {ρ : ru} {mv : Bool} {st os : Nat → Int} {hd ex : Nat → Int32} (H : mo_ok M j z h ne n ρ mv st os hd ex) (g : SC M M') : mo_ok M' j z h ne n ρ mv st os hd ex := ⟨H.1.sc g, H.2.1.sc g, H.2.2.1.sc g, H.2.2.2.sc g⟩
def jd_of (ρ : ru) (mv : Bool) (h : Nat) (hd : Nat → Int32) : Int → Bool := jdB mv (fr_of h hd) (fitI ρ)
def ex_of (ne : Nat) (ex : Nat → Int32) : Int → Bool := fun m => anyN (fun i => decide (ex i = iI m)) ne
def due_of (n h ne : Nat) (ρ : ru) (mv : Bool) (st os : Nat → Int) (hd ex : Nat → Int32) : Int → Bool := dueB n st os (ldB ρ (jd_of ρ mv h hd)) (ex_of ne ex)
set_option maxHeartbeats 4000000 in
set_option maxRecDepth 100000 in
theorem c_M_isFree {l : Launch} {E : tk_E} {M : tk_M} {j z h : Nat} {mv : Bool} {hd : Nat → Int32} {d : Int} (H : m_zon M j z h mv hd) (h1 : -1461 ≤ d) (h2 : d < 1000000) : tk_Mt l y_M_isFree b_M_isFree 3 (some .boolean) 1 E [.ref (E.1 + 172), .int (nI z), .int (iI d)] M M (some (.int (b01 (fr_of h hd d)))) := by
  refine tk_ofV (by decide +kernel) [some (.ref (E.1 + 172)), some (.int (nI z)), some (.int (iI d))] rfl (Nat.le_of_ble_eq_true rfl) ?_
  intro p e s m args below meth c cx hB
  obtain ⟨hz, hh, -, hc, hhd, -⟩ := H
  have hme : m_hol M z h (iI d) = anyN (fun i => decide (hd i = iI d)) h := anyN_congr (fun i hi => by rw [hhd i hi])
  refine v_iload_n cx (tk_dc d_M_isFree 0 rfl) rfl ?_
  refine v_callS (rest := _) cx (tk_dc d_M_isFree 1 rfl) m_M_170 ks_M_weekday k_M_weekday (c_M_weekday h1 h2) rfl rfl (Nat.le_of_ble_eq_true rfl) (by decide) ?_
  refine v_iconst cx (tk_dc d_M_isFree 2 rfl) (4) (by decide) ?_
  refine v_icmp_gt cx (tk_dc d_M_isFree 3 rfl) 17 (by decide) (fun h5 => ?_) (fun h5 => ?_)
  · have g5 : 5 ≤ (d + 1461) % 7 := by have := (iI_lt (a := 4) (by omega) (by omega) (by omega) (by omega)).mp h5; omega
    refine v_iconst cx (tk_dc d_M_isFree 9 rfl) (1) (by decide) ?_
    refine v_goto cx (tk_dc d_M_isFree 10 rfl) 22 (by decide) ?_
    exact v_zret cx hB (tk_dc d_M_isFree 12 rfl) (by first | exact Or.inl rfl | exact Or.inr rfl | exact b01_01 _ | assumption) (by unfold fr_of freeI; dsimp only; rw [decide_eq_true g5]; simp [b01]; try rfl) (rfl)
  · have g5 : ¬ 5 ≤ (d + 1461) % 7 := fun w => h5 ((iI_lt (a := 4) (by omega) (by omega) (by omega) (by omega)).mpr (by omega))
    refine v_aload_n cx (tk_dc d_M_isFree 4 rfl) rfl ?_
    refine v_iload_n cx (tk_dc d_M_isFree 5 rfl) rfl ?_
    refine v_iload_n cx (tk_dc d_M_isFree 6 rfl) rfl ?_
    refine v_callV (rest := _) cx (tk_dc d_M_isFree 7 rfl) m_M_140 kn_M_isHoliday kv_M_isHoliday k_M_isHoliday o_M (by decide) rfl (c_M_isHoliday hz hh hc) rfl rfl (Nat.le_of_ble_eq_true rfl) (by decide) ?_
    refine v_if_eq cx (tk_dc d_M_isFree 8 rfl) 21 (by decide) (fun h14 => ?_) (fun h14 => ?_)
    · have g14 := b01_z h14
      rw [hme] at g14
      refine v_iconst cx (tk_dc d_M_isFree 11 rfl) (0) (by decide) ?_
      exact v_zret cx hB (tk_dc d_M_isFree 12 rfl) (by first | exact Or.inl rfl | exact Or.inr rfl | exact b01_01 _ | assumption) (by unfold fr_of freeI; dsimp only; rw [decide_eq_false g5, g14]; simp [b01]; try rfl) (rfl)
    · have g14 := b01_nz h14
      rw [hme] at g14
      refine v_iconst cx (tk_dc d_M_isFree 9 rfl) (1) (by decide) ?_
      refine v_goto cx (tk_dc d_M_isFree 10 rfl) 22 (by decide) ?_
      exact v_zret cx hB (tk_dc d_M_isFree 12 rfl) (by first | exact Or.inl rfl | exact Or.inr rfl | exact b01_01 _ | assumption) (by unfold fr_of freeI; dsimp only; rw [decide_eq_false g5, g14]; simp [b01]; try rfl) (rfl)

set_option maxHeartbeats 4000000 in
set_option maxRecDepth 100000 in
theorem c_M_isJobs {l : Launch} {E : tk_E} {M : tk_M} {j z h : Nat} {ρ : ru} {mv : Bool} {hd : Nat → Int32} {d : Int} (H : m_rul M j ρ) (Z : m_zon M j z h mv hd) (h1 : -300 ≤ d) (h2 : d ≤ 36550) : tk_MS l y_M_isJobs b_M_isJobs 4 (some .boolean) 4 E [.ref (E.1 + 172), .int (nI j), .int (iI d)] M  (fun x => x = b01 ((jd_of ρ mv h hd) d)) := by
  refine tk_ofVS (by decide +kernel) [some (.ref (E.1 + 172)), some (.int (nI j)), some (.int (iI d)), none] rfl (Nat.le_of_ble_eq_true rfl) ?_
  intro p e s m args below meth c cx hB
  have hj := H.1
  have Z0 := Z
  obtain ⟨hz, hh, hzj, -, -, hmv⟩ := Z
  have loop : ∀ (f k : Nat) (M1 : tk_M), k + f = 21 → 1 ≤ k → SC M M1 → mv = true → fr_of h hd d = false → fitI ρ d = false → bkB (fr_of h hd) (fitI ρ) d f k = bkB (fr_of h hd) (fitI ρ) d 20 1 → tk_V p l e (tk_rm 4 0 0) s m args below meth c (MQ below (tk_QS E M (fun x => x = b01 ((jd_of ρ mv h hd) d))) args s 0 0 (tk_A E)) E 4 209 (tk_ct E M1) 0 0 45 [some (.ref (E.1 + 172)), some (.int (nI j)), some (.int (iI d)), some (.int (nI k))] [] := by
    intro f
    induction f with
    | zero =>
      intro k M1 hk hk1 sc hm hf1 hf2 hb
      obtain rfl : k = 21 := by omega
      refine v_iload_n cx (tk_dc d_M_isJobs 29 rfl) rfl ?_
      refine v_bipush cx (tk_dc d_M_isJobs 30 rfl) (20) (by decide) ?_
      refine v_icmp_gt cx (tk_dc d_M_isJobs 31 rfl) 88 (by decide) (fun _ => ?_) (fun h => absurd (by decide) h)
      refine v_iconst cx (tk_dc d_M_isJobs 55 rfl) (0) (by decide) ?_
      exact v_zretS cx hB (tk_dc d_M_isJobs 56 rfl) (by first | exact Or.inl rfl | exact Or.inr rfl | exact b01_01 _ | assumption) (by unfold jd_of jdB; rw [hm, hf1, hf2, ← hb]; rfl) (sc)
    | succ f ih =>
      intro k M1 hk hk1 sc hm hf1 hf2 hb
      have ek : iI d - nI k = iI (d - k) := by rw [iI_nI, iI_sub]
      refine v_iload_n cx (tk_dc d_M_isJobs 29 rfl) rfl ?_
      refine v_bipush cx (tk_dc d_M_isJobs 30 rfl) (20) (by decide) ?_
      refine v_icmp_gt cx (tk_dc d_M_isJobs 31 rfl) 88 (by decide) (fun h => absurd h (nI_nlt (a := 20) (by omega) (by decide))) (fun _ => ?_)
      refine v_aload_n cx (tk_dc d_M_isJobs 32 rfl) rfl ?_
      refine v_aload_n cx (tk_dc d_M_isJobs 33 rfl) rfl ?_
      refine v_getC cx 185 (tk_dc d_M_isJobs 34 rfl) f_M_47 o_M (by decide) (by rfl) ?_
      refine v_iload_n cx (tk_dc d_M_isJobs 35 rfl) rfl ?_
      refine w_iald cx (tk_dc d_M_isJobs 36 rfl) a_185 j (rfl) (by omega) (by decide) ?_
      refine v_eqi (nI z) (by rw [sc.at _ rfl]; exact hzj) ?_
      refine v_iload_n cx (tk_dc d_M_isJobs 37 rfl) rfl ?_
      refine v_iload_n cx (tk_dc d_M_isJobs 38 rfl) rfl ?_
      refine v_isub cx (tk_dc d_M_isJobs 39 rfl) ?_
      refine v_eqi (iI (d - k)) ek ?_
      refine v_callV (rest := _) cx (tk_dc d_M_isJobs 40 rfl) m_M_181 kn_M_isFree kv_M_isFree k_M_isFree o_M (by decide) rfl (c_M_isFree (Z0.sc sc) (by omega) (by omega)) rfl rfl (Nat.le_of_ble_eq_true rfl) (by decide) ?_
      refine v_if_ne cx (tk_dc d_M_isJobs 41 rfl) 69 (by decide) (fun h64 => ?_) (fun h64 => ?_)
      · have g64 := b01_nz h64
        refine v_aload_n cx (tk_dc d_M_isJobs 44 rfl) rfl ?_
        refine v_iload_n cx (tk_dc d_M_isJobs 45 rfl) rfl ?_
        refine v_iload_n cx (tk_dc d_M_isJobs 46 rfl) rfl ?_
        refine v_iload_n cx (tk_dc d_M_isJobs 47 rfl) rfl ?_
        refine v_isub cx (tk_dc d_M_isJobs 48 rfl) ?_
        refine v_eqi (iI (d - k)) ek ?_
        refine v_callVS (rest := _) cx (tk_dc d_M_isJobs 49 rfl) m_M_178 kn_M_fits kv_M_fits k_M_fits o_M (by decide) rfl (c_M_fits (H.sc sc) (by omega) (by omega)) rfl rfl (Nat.le_of_ble_eq_true rfl) (by decide) (fun x9 M2 hx9 sc2 => ?_)
        subst hx9
        refine v_if_eq cx (tk_dc d_M_isJobs 50 rfl) 82 (by decide) (fun h77 => ?_) (fun h77 => ?_)
        · have g77 := b01_z h77
          refine v_iinc (lo' := [_, _, _, _]) cx (tk_dc d_M_isJobs 53 rfl) rfl (nI (k + 1)) ((nI_succ k).symm) (by decide) rfl ?_
          refine v_goto cx (tk_dc d_M_isJobs 54 rfl) 45 (by decide) ?_
          exact ih (k + 1) M2 (by omega) (by omega) (sc.tr sc2) hm hf1 hf2 (by rw [← hb, bkB, g64, g77]; rfl)
        · have g77 := b01_nz h77
          refine v_iconst cx (tk_dc d_M_isJobs 51 rfl) (1) (by decide) ?_
          exact v_zretS cx hB (tk_dc d_M_isJobs 52 rfl) (by first | exact Or.inl rfl | exact Or.inr rfl | exact b01_01 _ | assumption) (by unfold jd_of jdB; rw [hm, hf1, hf2, ← hb, bkB, g64, g77]; rfl) (sc.tr sc2)
      · have g64 := b01_z h64
        refine v_iconst cx (tk_dc d_M_isJobs 42 rfl) (0) (by decide) ?_
        exact v_zretS cx hB (tk_dc d_M_isJobs 43 rfl) (by first | exact Or.inl rfl | exact Or.inr rfl | exact b01_01 _ | assumption) (by unfold jd_of jdB; rw [hm, hf1, hf2, ← hb, bkB, g64]; rfl) (sc)
  refine v_aload_n cx (tk_dc d_M_isJobs 0 rfl) rfl ?_
  refine v_getC cx 191 (tk_dc d_M_isJobs 1 rfl) f_M_65 o_M (by decide) (by rfl) ?_
  refine v_iload_n cx (tk_dc d_M_isJobs 2 rfl) rfl ?_
  refine w_zald cx (tk_dc d_M_isJobs 3 rfl) a_191 j (rfl) (by omega) (by decide) ?_
  refine v_eqi (b01 mv) hmv ?_
  refine v_if_ne cx (tk_dc d_M_isJobs 4 rfl) 16 (by decide) (fun h6 => ?_) (fun h6 => ?_)
  · have g6 := b01_nz h6
    refine v_aload_n cx (tk_dc d_M_isJobs 10 rfl) rfl ?_
    refine v_aload_n cx (tk_dc d_M_isJobs 11 rfl) rfl ?_
    refine v_getC cx 185 (tk_dc d_M_isJobs 12 rfl) f_M_47 o_M (by decide) (by rfl) ?_
    refine v_iload_n cx (tk_dc d_M_isJobs 13 rfl) rfl ?_
    refine w_iald cx (tk_dc d_M_isJobs 14 rfl) a_185 j (rfl) (by omega) (by decide) ?_
    refine v_eqi (nI z) hzj ?_
    refine v_iload_n cx (tk_dc d_M_isJobs 15 rfl) rfl ?_
    refine v_callV (rest := _) cx (tk_dc d_M_isJobs 16 rfl) m_M_181 kn_M_isFree kv_M_isFree k_M_isFree o_M (by decide) rfl (c_M_isFree Z0 (by omega) (by omega)) rfl rfl (Nat.le_of_ble_eq_true rfl) (by decide) ?_
    refine v_if_eq cx (tk_dc d_M_isJobs 17 rfl) 32 (by decide) (fun h27 => ?_) (fun h27 => ?_)
    · have g27 := b01_z h27
      refine v_aload_n cx (tk_dc d_M_isJobs 20 rfl) rfl ?_
      refine v_iload_n cx (tk_dc d_M_isJobs 21 rfl) rfl ?_
      refine v_iload_n cx (tk_dc d_M_isJobs 22 rfl) rfl ?_
      refine v_callVS (rest := _) cx (tk_dc d_M_isJobs 23 rfl) m_M_178 kn_M_fits kv_M_fits k_M_fits o_M (by decide) rfl (c_M_fits H (by omega) (by omega)) rfl rfl (Nat.le_of_ble_eq_true rfl) (by decide) (fun x9 M2 hx9 sc2 => ?_)
      subst hx9
      refine v_if_eq cx (tk_dc d_M_isJobs 24 rfl) 43 (by decide) (fun h38 => ?_) (fun h38 => ?_)
      · have g38 := b01_z h38
        refine v_iconst cx (tk_dc d_M_isJobs 27 rfl) (1) (by decide) ?_
        refine v_istore_n (lo' := [_, _, _, _]) cx (tk_dc d_M_isJobs 28 rfl) (by decide) rfl ?_
        exact loop 20 1 M2 rfl (by omega) sc2 g6 g27 g38 rfl
      · have g38 := b01_nz h38
        refine v_iconst cx (tk_dc d_M_isJobs 25 rfl) (1) (by decide) ?_
        exact v_zretS cx hB (tk_dc d_M_isJobs 26 rfl) (by first | exact Or.inl rfl | exact Or.inr rfl | exact b01_01 _ | assumption) (by unfold jd_of jdB; rw [g6, g27, g38]; rfl) (sc2)
    · have g27 := b01_nz h27
      refine v_iconst cx (tk_dc d_M_isJobs 18 rfl) (0) (by decide) ?_
      exact v_zretS cx hB (tk_dc d_M_isJobs 19 rfl) (by first | exact Or.inl rfl | exact Or.inr rfl | exact b01_01 _ | assumption) (by unfold jd_of jdB; rw [g6, g27]; rfl) (by first | exact SC.rf | assumption)
  · have g6 := b01_z h6
    refine v_aload_n cx (tk_dc d_M_isJobs 5 rfl) rfl ?_
    refine v_iload_n cx (tk_dc d_M_isJobs 6 rfl) rfl ?_
    refine v_iload_n cx (tk_dc d_M_isJobs 7 rfl) rfl ?_
    refine v_callVS (rest := _) cx (tk_dc d_M_isJobs 8 rfl) m_M_178 kn_M_fits kv_M_fits k_M_fits o_M (by decide) rfl (c_M_fits H (by omega) (by omega)) rfl rfl (Nat.le_of_ble_eq_true rfl) (by decide) (fun x9 M2 hx9 sc2 => ?_)
    subst hx9
    exact v_zretS cx hB (tk_dc d_M_isJobs 9 rfl) (b01_01 _) (by unfold jd_of jdB; rw [g6]; rfl) (sc2)

set_option maxHeartbeats 4000000 in
set_option maxRecDepth 100000 in
theorem c_M_isLocalDue {l : Launch} {E : tk_E} {M : tk_M} {j z h : Nat} {ρ : ru} {mv : Bool} {hd : Nat → Int32} {x : Int} (H : m_rul M j ρ) (Z : m_zon M j z h mv hd) (h1 : -400000 ≤ x) (h2 : x ≤ 52630000) : tk_MS l y_M_isLocalDue b_M_isLocalDue 4 (some .boolean) 5 E [.ref (E.1 + 172), .int (nI j), .int (iI x)] M  (fun y => y = b01 (ldB ρ (jd_of ρ mv h hd) x)) := by
  refine tk_ofVS (by decide +kernel) [some (.ref (E.1 + 172)), some (.int (nI j)), some (.int (iI x)), none] rfl (Nat.le_of_ble_eq_true rfl) ?_
  intro p e s m args below meth c cx hB
  have H0 := H
  obtain ⟨hj, hr, hhh, hmn, -⟩ := H
  obtain ⟨r1, r2, -⟩ := hr
  obtain ⟨q, hq⟩ : ∃ q, q = (x % 1440).toNat := ⟨_, rfl⟩
  have hld : ldB ρ (jd_of ρ mv h hd) x = (((ru_hh ρ).testBit (q / 60) && (ru_mn ρ).testBit (q % 60)) && (jd_of ρ mv h hd) (x / 1440)) := by unfold ldB mdB; rw [hq]
  have eh := hhh (q / 60) (by omega)
  generalize (ru_hh ρ).testBit (q / 60) = HB at hld eh
  refine v_iload_n cx (tk_dc d_M_isLocalDue 0 rfl) rfl ?_
  refine v_sipush cx (tk_dc d_M_isLocalDue 1 rfl) (1440) (by decide) ?_
  refine v_callS (rest := _) cx (tk_dc d_M_isLocalDue 2 rfl) m_M_124 ks_M_modulo k_M_modulo (c_M_modulo (b := 1440) (by omega) (by omega) (by omega) (by omega)) rfl rfl (Nat.le_of_ble_eq_true rfl) (by decide) ?_
  refine v_eqi (nI q) (by rw [iI_nI, hq]; congr 1; omega) ?_
  refine v_istore_n (lo' := [_, _, _, _]) cx (tk_dc d_M_isLocalDue 3 rfl) (by decide) rfl ?_
  refine v_aload_n cx (tk_dc d_M_isLocalDue 4 rfl) rfl ?_
  refine v_getC cx 179 (tk_dc d_M_isLocalDue 5 rfl) f_M_29 o_M (by decide) (by rfl) ?_
  refine v_iload_n cx (tk_dc d_M_isLocalDue 6 rfl) rfl ?_
  refine w_iald cx (tk_dc d_M_isLocalDue 7 rfl) a_179 j (rfl) (by omega) (by decide) ?_
  refine v_iload_n cx (tk_dc d_M_isLocalDue 8 rfl) rfl ?_
  refine v_bipush cx (tk_dc d_M_isLocalDue 9 rfl) (60) (by decide) ?_
  refine v_idiv cx (tk_dc d_M_isLocalDue 10 rfl) (by decide) ?_
  refine v_eqi (nI (q / 60)) (by rw [show (60 : Int32) = nI 60 from rfl, pk_div (by omega) (by decide) (by decide)]) ?_
  refine v_ishr cx (tk_dc d_M_isLocalDue 11 rfl) ?_
  refine v_iconst cx (tk_dc d_M_isLocalDue 12 rfl) (1) (by decide) ?_
  refine v_iand cx (tk_dc d_M_isLocalDue 13 rfl) ?_
  refine v_eqi (b01 HB) (by rw [bt_is _ (by omega), eh]) ?_
  refine v_iconst cx (tk_dc d_M_isLocalDue 14 rfl) (1) (by decide) ?_
  refine v_icmp_ne cx (tk_dc d_M_isLocalDue 15 rfl) 62 (by decide) (fun h22 => ?_) (fun h22 => ?_)
  · have g22 : HB = false := by cases hv : HB with | false => rfl | true => (rw [hv] at h22; exact absurd rfl h22)
    refine v_iconst cx (tk_dc d_M_isLocalDue 38 rfl) (0) (by decide) ?_
    exact v_zretS cx hB (tk_dc d_M_isLocalDue 39 rfl) (by first | exact Or.inl rfl | exact Or.inr rfl | exact b01_01 _ | assumption) (by rw [hld, g22, Bool.false_and, Bool.false_and]; rfl) (by first | exact SC.rf | exact sc2)
  · have g22 := (b01_1 _).mp h22
    refine v_aload_n cx (tk_dc d_M_isLocalDue 16 rfl) rfl ?_
    refine v_getC cx 178 (tk_dc d_M_isLocalDue 17 rfl) f_M_25 o_M (by decide) (by rfl) ?_
    refine v_iload_n cx (tk_dc d_M_isLocalDue 18 rfl) rfl ?_
    refine w_lald cx (tk_dc d_M_isLocalDue 19 rfl) a_178 j (rfl) (by omega) (by decide) ?_
    refine v_eql (lN (ru_mn ρ)) hmn ?_
    refine v_iload_n cx (tk_dc d_M_isLocalDue 20 rfl) rfl ?_
    refine v_bipush cx (tk_dc d_M_isLocalDue 21 rfl) (60) (by decide) ?_
    refine v_irem cx (tk_dc d_M_isLocalDue 22 rfl) (by decide) ?_
    refine v_eqi (nI (q % 60)) (by rw [show (60 : Int32) = nI 60 from rfl, pk_rem (by omega) (by decide) (by decide)]) ?_
    refine v_lshr cx (tk_dc d_M_isLocalDue 23 rfl) ?_
    refine v_lconst cx (tk_dc d_M_isLocalDue 24 rfl) (1) (by decide) ?_
    refine v_land cx (tk_dc d_M_isLocalDue 25 rfl) ?_
    refine v_lconst cx (tk_dc d_M_isLocalDue 26 rfl) (1) (by decide) ?_
    refine v_lcmp cx (tk_dc d_M_isLocalDue 27 rfl) ?_
    refine v_if_ne cx (tk_dc d_M_isLocalDue 28 rfl) 62 (by decide) (fun h40 => ?_) (fun h40 => ?_)
    · have g40 : (ru_mn ρ).testBit (q % 60) = false := by cases hv : (ru_mn ρ).testBit (q % 60) with | false => rfl | true => exact absurd ((lgc0 _ _).mpr ((sL_bit1 (by omega) (by omega)).mpr hv)) h40
      refine v_iconst cx (tk_dc d_M_isLocalDue 38 rfl) (0) (by decide) ?_
      exact v_zretS cx hB (tk_dc d_M_isLocalDue 39 rfl) (by first | exact Or.inl rfl | exact Or.inr rfl | exact b01_01 _ | assumption) (by rw [hld, g22, g40, Bool.and_false, Bool.false_and]; rfl) (by first | exact SC.rf | exact sc2)
    · have g40 : (ru_mn ρ).testBit (q % 60) = true := (sL_bit1 (by omega) (by omega)).mp ((lgc0 _ _).mp h40)
      refine v_aload_n cx (tk_dc d_M_isLocalDue 29 rfl) rfl ?_
      refine v_iload_n cx (tk_dc d_M_isLocalDue 30 rfl) rfl ?_
      refine v_iload_n cx (tk_dc d_M_isLocalDue 31 rfl) rfl ?_
      refine v_sipush cx (tk_dc d_M_isLocalDue 32 rfl) (1440) (by decide) ?_
      refine v_callS (rest := _) cx (tk_dc d_M_isLocalDue 33 rfl) m_M_184 ks_M_parts k_M_parts (c_M_parts (b := 1440) (by omega) (by omega) (by omega) (by omega)) rfl rfl (Nat.le_of_ble_eq_true rfl) (by decide) ?_
      refine v_callVS (rest := _) cx (tk_dc d_M_isLocalDue 34 rfl) m_M_187 kn_M_isJobs kv_M_isJobs k_M_isJobs o_M (by decide) rfl (c_M_isJobs H0 Z (by omega) (by omega)) rfl rfl (Nat.le_of_ble_eq_true rfl) (by decide) (fun x9 M2 hx9 sc2 => ?_)
      subst hx9
      refine v_if_eq cx (tk_dc d_M_isLocalDue 35 rfl) 62 (by decide) (fun h55 => ?_) (fun h55 => ?_)
      · have g55 := b01_z h55
        refine v_iconst cx (tk_dc d_M_isLocalDue 38 rfl) (0) (by decide) ?_
        exact v_zretS cx hB (tk_dc d_M_isLocalDue 39 rfl) (by first | exact Or.inl rfl | exact Or.inr rfl | exact b01_01 _ | assumption) (by rw [hld, g22, g40, g55]; rfl) (by first | exact SC.rf | exact sc2)
      · have g55 := b01_nz h55
        refine v_iconst cx (tk_dc d_M_isLocalDue 36 rfl) (1) (by decide) ?_
        refine v_goto cx (tk_dc d_M_isLocalDue 37 rfl) 63 (by decide) ?_
        exact v_zretS cx hB (tk_dc d_M_isLocalDue 39 rfl) (by first | exact Or.inl rfl | exact Or.inr rfl | exact b01_01 _ | assumption) (by rw [hld, g22, g40, g55]; rfl) (by first | exact SC.rf | exact sc2)

set_option maxHeartbeats 4000000 in
set_option maxRecDepth 100000 in
theorem c_M_shiftsBy {l : Launch} {E : tk_E} {M : tk_M} {z n : Nat} {st os : Nat → Int} {x : Int} (Z : m_zo M z n st os) (h1 : 0 ≤ x) (h2 : x ≤ 52595999) : tk_Mt l y_M_shiftsBy b_M_shiftsBy 4 (some .int) 0 E [.ref (E.1 + 172), .int (nI z), .int (iI x)] M M (some (.int (nI (ptI st x n)))) := by
  refine tk_ofV (by decide +kernel) [some (.ref (E.1 + 172)), some (.int (nI z)), some (.int (iI x)), none] rfl (Nat.le_of_ble_eq_true rfl) ?_
  intro p e s m args below meth c cx hB
  obtain ⟨zo0, hz, hn, hso⟩ := Z
  have zo1 := zo0
  obtain ⟨hn1, hn9, hst0, -, hrg, -⟩ := zo1
  have loop : ∀ (d k : Nat), k + d = n - 1 → st k ≤ x → tk_V p l e (tk_rm 0 0 0) s m args below meth c (MQ below (tk_Q E 209 (tk_ct E M) (some (.int (nI (ptI st x n))))) args s 0 0 (tk_A E)) E 4 209 (tk_ct E M) 0 0 2 [some (.ref (E.1 + 172)), some (.int (nI z)), some (.int (iI x)), some (.int (nI k))] [] := by
    intro d
    induction d with
    | zero =>
      intro k hk hs
      obtain rfl : k = n - 1 := by omega
      refine v_iload_n cx (tk_dc d_M_shiftsBy 2 rfl) rfl ?_
      refine v_aload_n cx (tk_dc d_M_shiftsBy 3 rfl) rfl ?_
      refine v_getC cx 175 (tk_dc d_M_shiftsBy 4 rfl) f_M_16 o_M (by decide) (by rfl) ?_
      refine v_iload_n cx (tk_dc d_M_shiftsBy 5 rfl) rfl ?_
      refine w_iald cx (tk_dc d_M_shiftsBy 6 rfl) a_175 z (rfl) (by omega) (by decide) ?_
      refine v_icmp_ge cx (tk_dc d_M_shiftsBy 7 rfl) 33 (by decide) (fun _ => ?_) (fun h => absurd (by rw [hn]; exact Int32.le_refl _) h)
      refine v_iload_n cx (tk_dc d_M_shiftsBy 20 rfl) rfl ?_
      exact v_iret cx hB (tk_dc d_M_shiftsBy 21 rfl) (by rw [pt_is zo0 h1 (show n - 1 < n by omega) hs (by unfold enI; rw [if_neg (by omega)]; exact h2)]) (rfl)
    | succ d ih =>
      intro k hk hs
      have rk := hrg (k + 1) (by omega)
      refine v_iload_n cx (tk_dc d_M_shiftsBy 2 rfl) rfl ?_
      refine v_aload_n cx (tk_dc d_M_shiftsBy 3 rfl) rfl ?_
      refine v_getC cx 175 (tk_dc d_M_shiftsBy 4 rfl) f_M_16 o_M (by decide) (by rfl) ?_
      refine v_iload_n cx (tk_dc d_M_shiftsBy 5 rfl) rfl ?_
      refine w_iald cx (tk_dc d_M_shiftsBy 6 rfl) a_175 z (rfl) (by omega) (by decide) ?_
      refine v_icmp_ge cx (tk_dc d_M_shiftsBy 7 rfl) 33 (by decide) (fun h => absurd h (by rw [hn]; exact nI_ge (by omega) (by omega))) (fun _ => ?_)
      refine v_aload_n cx (tk_dc d_M_shiftsBy 8 rfl) rfl ?_
      refine v_getC cx 173 (tk_dc d_M_shiftsBy 9 rfl) f_M_7 o_M (by decide) (by rfl) ?_
      refine v_bipush cx (tk_dc d_M_shiftsBy 10 rfl) (8) (by decide) ?_
      refine v_iload_n cx (tk_dc d_M_shiftsBy 11 rfl) rfl ?_
      refine v_imul cx (tk_dc d_M_shiftsBy 12 rfl) ?_
      refine v_iload_n cx (tk_dc d_M_shiftsBy 13 rfl) rfl ?_
      refine v_iadd cx (tk_dc d_M_shiftsBy 14 rfl) ?_
      refine w_iald cx (tk_dc d_M_shiftsBy 15 rfl) a_173 (8 * z + k) (by rw [show (8 : Int32) = nI 8 from rfl, pk_mul, nI_add]) (by omega) (by decide) ?_
      refine v_eqi (iI (st (k + 1))) (hso k (by omega)).1 ?_
      refine v_iload_n cx (tk_dc d_M_shiftsBy 16 rfl) rfl ?_
      refine v_icmp_gt cx (tk_dc d_M_shiftsBy 17 rfl) 33 (by decide) (fun h24 => ?_) (fun h24 => ?_)
      · have g24 : x < st (k + 1) := (iI_lt (by omega) (by omega) (by omega) (by omega)).mp h24
        refine v_iload_n cx (tk_dc d_M_shiftsBy 20 rfl) rfl ?_
        exact v_iret cx hB (tk_dc d_M_shiftsBy 21 rfl) (by rw [pt_is zo0 h1 (show k < n by omega) hs (by unfold enI; rw [if_pos (by omega)]; omega)]) (rfl)
      · have g24 : st (k + 1) ≤ x := Int.not_lt.mp (fun w => h24 ((iI_lt (by omega) (by omega) (by omega) (by omega)).mpr w))
        refine v_iinc (lo' := [_, _, _, _]) cx (tk_dc d_M_shiftsBy 18 rfl) rfl (nI (k + 1)) ((nI_succ k).symm) (by decide) rfl ?_
        refine v_goto cx (tk_dc d_M_shiftsBy 19 rfl) 2 (by decide) ?_
        exact ih (k + 1) (by omega) g24
  refine v_iconst cx (tk_dc d_M_shiftsBy 0 rfl) (0) (by decide) ?_
  refine v_istore_n (lo' := [_, _, _, _]) cx (tk_dc d_M_shiftsBy 1 rfl) (by decide) rfl ?_
  exact loop (n - 1) 0 (by omega) (by rw [hst0]; exact h1)

set_option maxHeartbeats 4000000 in
set_option maxRecDepth 100000 in
theorem c_M_offset {l : Launch} {E : tk_E} {M : tk_M} {z n k : Nat} {st os : Nat → Int} (Z : m_zo M z n st os) (hk : k < n) : tk_Mt l y_M_offset b_M_offset 3 (some .int) 0 E [.ref (E.1 + 172), .int (nI z), .int (nI k)] M M (some (.int (iI (os k)))) := by
  refine tk_ofV (by decide +kernel) [some (.ref (E.1 + 172)), some (.int (nI z)), some (.int (nI k))] rfl (Nat.le_of_ble_eq_true rfl) ?_
  intro p e s m args below meth c cx hB
  obtain ⟨zo0, hz, hn, hso⟩ := Z
  have hn9 := zo0.2.1
  refine v_iload_n cx (tk_dc d_M_offset 0 rfl) rfl ?_
  refine v_if_ne cx (tk_dc d_M_offset 1 rfl) 8 (by decide) (fun h1 => ?_) (fun h1 => ?_)
  · have k1 : 1 ≤ k := by rcases Nat.eq_zero_or_pos k with w | w; (exact absurd (by rw [w]; rfl) h1); exact w
    refine v_aload_n cx (tk_dc d_M_offset 4 rfl) rfl ?_
    refine v_getC cx 174 (tk_dc d_M_offset 5 rfl) f_M_13 o_M (by decide) (by rfl) ?_
    refine v_bipush cx (tk_dc d_M_offset 6 rfl) (8) (by decide) ?_
    refine v_iload_n cx (tk_dc d_M_offset 7 rfl) rfl ?_
    refine v_imul cx (tk_dc d_M_offset 8 rfl) ?_
    refine v_iload_n cx (tk_dc d_M_offset 9 rfl) rfl ?_
    refine v_iadd cx (tk_dc d_M_offset 10 rfl) ?_
    refine v_iconst cx (tk_dc d_M_offset 11 rfl) (1) (by decide) ?_
    refine v_isub cx (tk_dc d_M_offset 12 rfl) ?_
    refine w_iald cx (tk_dc d_M_offset 13 rfl) a_174 (8 * z + (k - 1)) (by rw [show (8 : Int32) = nI 8 from rfl, pk_mul, nI_add, nI_sub1 (by omega)]; congr 1; omega) (by omega) (by decide) ?_
    refine v_eqi (iI (os k)) (by rw [(hso (k - 1) (by omega)).2, Nat.sub_add_cancel k1]) ?_
    exact v_iret cx hB (tk_dc d_M_offset 14 rfl) (rfl) (rfl)
  · have k0 : k = 0 := nI_inj (b := 0) (by omega) (by decide) h1
    refine v_iconst cx (tk_dc d_M_offset 2 rfl) (0) (by decide) ?_
    refine v_goto cx (tk_dc d_M_offset 3 rfl) 21 (by decide) ?_
    exact v_iret cx hB (tk_dc d_M_offset 14 rfl) (by rw [k0, zo0.2.2.2.1]; rfl) (rfl)

set_option maxHeartbeats 4000000 in
set_option maxRecDepth 100000 in
theorem c_M_localOf {l : Launch} {E : tk_E} {M : tk_M} {z n : Nat} {st os : Nat → Int} {x : Int} (Z : m_zo M z n st os) (h1 : 0 ≤ x) (h2 : x ≤ 52595999) : tk_Mt l y_M_localOf b_M_localOf 3 (some .int) 1 E [.ref (E.1 + 172), .int (nI z), .int (iI x)] M M (some (.int (iI (x + os (ptI st x n))))) := by
  refine tk_ofV (by decide +kernel) [some (.ref (E.1 + 172)), some (.int (nI z)), some (.int (iI x))] rfl (Nat.le_of_ble_eq_true rfl) ?_
  intro p e s m args below meth c cx hB
  refine v_iload_n cx (tk_dc d_M_localOf 0 rfl) rfl ?_
  refine v_aload_n cx (tk_dc d_M_localOf 1 rfl) rfl ?_
  refine v_iload_n cx (tk_dc d_M_localOf 2 rfl) rfl ?_
  refine v_aload_n cx (tk_dc d_M_localOf 3 rfl) rfl ?_
  refine v_iload_n cx (tk_dc d_M_localOf 4 rfl) rfl ?_
  refine v_iload_n cx (tk_dc d_M_localOf 5 rfl) rfl ?_
  refine v_callV (rest := _) cx (tk_dc d_M_localOf 6 rfl) m_M_190 kn_M_shiftsBy kv_M_shiftsBy k_M_shiftsBy o_M (by decide) rfl (c_M_shiftsBy Z h1 h2) rfl rfl (Nat.le_of_ble_eq_true rfl) (by decide) ?_
  refine v_callV (rest := _) cx (tk_dc d_M_localOf 7 rfl) m_M_193 kn_M_offset kv_M_offset k_M_offset o_M (by decide) rfl (c_M_offset Z (pt_en Z.1 h1 h2).1) rfl rfl (Nat.le_of_ble_eq_true rfl) (by decide) ?_
  refine v_iadd cx (tk_dc d_M_localOf 8 rfl) ?_
  exact v_iret cx hB (tk_dc d_M_localOf 9 rfl) (iI_add _ _) (rfl)

set_option maxHeartbeats 4000000 in
set_option maxRecDepth 100000 in
theorem c_M_wasBefore {l : Launch} {E : tk_E} {M : tk_M} {z n : Nat} {st os : Nat → Int} {x : Int} (Z : m_zo M z n st os) (h1 : 0 ≤ x) (h2 : x ≤ 52595999) : tk_Mt l y_M_wasBefore b_M_wasBefore 10 (some .boolean) 1 E [.ref (E.1 + 172), .int (nI z), .int (iI x)] M M (some (.int (b01 (hadB st os (ptI st x n) (x + os (ptI st x n)))))) := by
  refine tk_ofV (by decide +kernel) [some (.ref (E.1 + 172)), some (.int (nI z)), some (.int (iI x)), none, none, none, none, none, none, none] rfl (Nat.le_of_ble_eq_true rfl) ?_
  intro p e s m args below meth c cx hB
  have Z0 := Z
  obtain ⟨zo0, hz, hn, hso⟩ := Z
  have zo1 := zo0
  obtain ⟨hn1, hn9, hst0, hos0, hrg, -⟩ := zo1
  have hpt := (pt_en zo0 h1 h2).1
  obtain ⟨q, hq⟩ : ∃ q, q = ptI st x n := ⟨_, rfl⟩
  rw [← hq] at hpt
  rw [← hq]
  have rq := hrg q hpt
  have loop : ∀ (d k : Nat) (w7 w8 w9 : Option Value), k + d = q → tk_V p l e (tk_rm 1 0 0) s m args below meth c (MQ below (tk_Q E 209 (tk_ct E M) (some (.int (b01 (hadB st os q (x + os q)))))) args s 0 0 (tk_A E)) E 10 209 (tk_ct E M) 0 0 23 [some (.ref (E.1 + 172)), some (.int (nI z)), some (.int (iI x)), some (.int (nI q)), some (.int (iI (x + os q))), some (.int (b01 (hadB st os k (x + os q)))), some (.int (nI k)), w7, w8, w9] [] := by
    intro d
    induction d with
    | zero =>
      intro k w7 w8 w9 hk
      obtain rfl : k = q := by omega
      refine v_iload cx (tk_dc d_M_wasBefore 16 rfl) rfl ?_
      refine v_iload_n cx (tk_dc d_M_wasBefore 17 rfl) rfl ?_
      refine v_icmp_ge cx (tk_dc d_M_wasBefore 18 rfl) 112 (by decide) (fun _ => ?_) (fun h => absurd (Int32.le_refl _) h)
      refine v_iload cx (tk_dc d_M_wasBefore 64 rfl) rfl ?_
      exact v_zret cx hB (tk_dc d_M_wasBefore 65 rfl) (b01_01 _) (rfl) (rfl)
    | succ d ih =>
      intro k w7 w8 w9 hk
      have rk := hrg k (by omega)
      have rk1 := hrg (k + 1) (by omega)
      have hs : hadB st os (k + 1) (x + os q) = (hadB st os k (x + os q) || decide (st k ≤ x + os q - os k ∧ x + os q - os k < st (k + 1))) := rfl
      have ih2 := fun a b d => ih (k + 1) a b d (by omega)
      rw [hs] at ih2
      refine v_iload cx (tk_dc d_M_wasBefore 16 rfl) rfl ?_
      refine v_iload_n cx (tk_dc d_M_wasBefore 17 rfl) rfl ?_
      refine v_icmp_ge cx (tk_dc d_M_wasBefore 18 rfl) 112 (by decide) (fun h => absurd h (nI_ge (by omega) (by omega))) (fun _ => ?_)
      refine v_iload cx (tk_dc d_M_wasBefore 19 rfl) rfl ?_
      refine v_if_ne cx (tk_dc d_M_wasBefore 20 rfl) 38 (by decide) (fun h31 => ?_) (fun h31 => ?_)
      · have k1 : 1 ≤ k := by rcases Nat.eq_zero_or_pos k with w | w; (exact absurd (by rw [w]; rfl) h31); exact w
        refine v_aload_n cx (tk_dc d_M_wasBefore 23 rfl) rfl ?_
        refine v_getC cx 173 (tk_dc d_M_wasBefore 24 rfl) f_M_7 o_M (by decide) (by rfl) ?_
        refine v_bipush cx (tk_dc d_M_wasBefore 25 rfl) (8) (by decide) ?_
        refine v_iload_n cx (tk_dc d_M_wasBefore 26 rfl) rfl ?_
        refine v_imul cx (tk_dc d_M_wasBefore 27 rfl) ?_
        refine v_iload cx (tk_dc d_M_wasBefore 28 rfl) rfl ?_
        refine v_iadd cx (tk_dc d_M_wasBefore 29 rfl) ?_
        refine v_iconst cx (tk_dc d_M_wasBefore 30 rfl) (1) (by decide) ?_
        refine v_isub cx (tk_dc d_M_wasBefore 31 rfl) ?_
        refine w_iald cx (tk_dc d_M_wasBefore 32 rfl) a_173 (8 * z + (k - 1)) (by rw [show (8 : Int32) = nI 8 from rfl, pk_mul, nI_add, nI_sub1 (by omega)]; congr 1; omega) (by omega) (by decide) ?_
        refine v_eqi (iI (st k)) (by rw [(hso (k - 1) (by omega)).1, Nat.sub_add_cancel k1]) ?_
        refine v_istore (lo' := [_, _, _, _, _, _, _, _, _, _]) cx (tk_dc d_M_wasBefore 33 rfl) (by decide) rfl ?_
        refine v_aload_n cx (tk_dc d_M_wasBefore 34 rfl) rfl ?_
        refine v_getC cx 173 (tk_dc d_M_wasBefore 35 rfl) f_M_7 o_M (by decide) (by rfl) ?_
        refine v_bipush cx (tk_dc d_M_wasBefore 36 rfl) (8) (by decide) ?_
        refine v_iload_n cx (tk_dc d_M_wasBefore 37 rfl) rfl ?_
        refine v_imul cx (tk_dc d_M_wasBefore 38 rfl) ?_
        refine v_iload cx (tk_dc d_M_wasBefore 39 rfl) rfl ?_
        refine v_iadd cx (tk_dc d_M_wasBefore 40 rfl) ?_
        refine w_iald cx (tk_dc d_M_wasBefore 41 rfl) a_173 (8 * z + k) (by rw [show (8 : Int32) = nI 8 from rfl, pk_mul, nI_add]) (by omega) (by decide) ?_
        refine v_eqi (iI (st (k + 1))) (hso k (by omega)).1 ?_
        refine v_istore (lo' := [_, _, _, _, _, _, _, _, _, _]) cx (tk_dc d_M_wasBefore 42 rfl) (by decide) rfl ?_
        refine v_iload cx (tk_dc d_M_wasBefore 43 rfl) rfl ?_
        refine v_aload_n cx (tk_dc d_M_wasBefore 44 rfl) rfl ?_
        refine v_iload_n cx (tk_dc d_M_wasBefore 45 rfl) rfl ?_
        refine v_iload cx (tk_dc d_M_wasBefore 46 rfl) rfl ?_
        refine v_callV (rest := _) cx (tk_dc d_M_wasBefore 47 rfl) m_M_193 kn_M_offset kv_M_offset k_M_offset o_M (by decide) rfl (c_M_offset Z0 (by omega)) rfl rfl (Nat.le_of_ble_eq_true rfl) (by decide) ?_
        refine v_isub cx (tk_dc d_M_wasBefore 48 rfl) ?_
        refine v_eqi (iI (x + os q - os k)) (iI_sub _ _) ?_
        refine v_istore (lo' := [_, _, _, _, _, _, _, _, _, _]) cx (tk_dc d_M_wasBefore 49 rfl) (by decide) rfl ?_
        refine v_iload cx (tk_dc d_M_wasBefore 50 rfl) rfl ?_
        refine v_if_ne cx (tk_dc d_M_wasBefore 51 rfl) 99 (by decide) (fun h82 => ?_) (fun h82 => ?_)
        · have g82 := b01_nz h82
          rw [g82] at ih2
          refine v_iconst cx (tk_dc d_M_wasBefore 58 rfl) (1) (by decide) ?_
          refine v_goto cx (tk_dc d_M_wasBefore 59 rfl) 104 (by decide) ?_
          refine v_istore (lo' := [_, _, _, _, _, _, _, _, _, _]) cx (tk_dc d_M_wasBefore 61 rfl) (by decide) rfl ?_
          refine v_iinc (lo' := [_, _, _, _, _, _, _, _, _, _]) cx (tk_dc d_M_wasBefore 62 rfl) rfl (nI (k + 1)) ((nI_succ k).symm) (by decide) rfl ?_
          refine v_goto cx (tk_dc d_M_wasBefore 63 rfl) 23 (by decide) ?_
          exact ih2 _ _ _
        · have g82 := b01_z h82
          rw [g82] at ih2
          refine v_iload cx (tk_dc d_M_wasBefore 52 rfl) rfl ?_
          refine v_iload cx (tk_dc d_M_wasBefore 53 rfl) rfl ?_
          refine v_icmp_lt cx (tk_dc d_M_wasBefore 54 rfl) 103 (by decide) (fun h89 => ?_) (fun h89 => ?_)
          · have g89 : ¬ st k ≤ x + os q - os k := fun w => absurd ((iI_lt (by omega) (by omega) (by omega) (by omega)).mp h89) (by omega)
            rw [decide_eq_false (fun w => g89 w.1)] at ih2
            refine v_iconst cx (tk_dc d_M_wasBefore 60 rfl) (0) (by decide) ?_
            refine v_istore (lo' := [_, _, _, _, _, _, _, _, _, _]) cx (tk_dc d_M_wasBefore 61 rfl) (by decide) rfl ?_
            refine v_iinc (lo' := [_, _, _, _, _, _, _, _, _, _]) cx (tk_dc d_M_wasBefore 62 rfl) rfl (nI (k + 1)) ((nI_succ k).symm) (by decide) rfl ?_
            refine v_goto cx (tk_dc d_M_wasBefore 63 rfl) 23 (by decide) ?_
            exact ih2 _ _ _
          · have g89 : st k ≤ x + os q - os k := Int.not_lt.mp (fun w => h89 ((iI_lt (by omega) (by omega) (by omega) (by omega)).mpr w))
            refine v_iload cx (tk_dc d_M_wasBefore 55 rfl) rfl ?_
            refine v_iload cx (tk_dc d_M_wasBefore 56 rfl) rfl ?_
            refine v_icmp_ge cx (tk_dc d_M_wasBefore 57 rfl) 103 (by decide) (fun h96 => ?_) (fun h96 => ?_)
            · have g96 : ¬ x + os q - os k < st (k + 1) := fun w => absurd ((iI_le (by omega) (by omega) (by omega) (by omega)).mp h96) (by omega)
              rw [decide_eq_false (fun w => g96 w.2)] at ih2
              refine v_iconst cx (tk_dc d_M_wasBefore 60 rfl) (0) (by decide) ?_
              refine v_istore (lo' := [_, _, _, _, _, _, _, _, _, _]) cx (tk_dc d_M_wasBefore 61 rfl) (by decide) rfl ?_
              refine v_iinc (lo' := [_, _, _, _, _, _, _, _, _, _]) cx (tk_dc d_M_wasBefore 62 rfl) rfl (nI (k + 1)) ((nI_succ k).symm) (by decide) rfl ?_
              refine v_goto cx (tk_dc d_M_wasBefore 63 rfl) 23 (by decide) ?_
              exact ih2 _ _ _
            · have g96 : x + os q - os k < st (k + 1) := Int.not_le.mp (fun w => h96 ((iI_le (by omega) (by omega) (by omega) (by omega)).mpr w))
              rw [decide_eq_true ⟨g89, g96⟩] at ih2
              refine v_iconst cx (tk_dc d_M_wasBefore 58 rfl) (1) (by decide) ?_
              refine v_goto cx (tk_dc d_M_wasBefore 59 rfl) 104 (by decide) ?_
              refine v_istore (lo' := [_, _, _, _, _, _, _, _, _, _]) cx (tk_dc d_M_wasBefore 61 rfl) (by decide) rfl ?_
              refine v_iinc (lo' := [_, _, _, _, _, _, _, _, _, _]) cx (tk_dc d_M_wasBefore 62 rfl) rfl (nI (k + 1)) ((nI_succ k).symm) (by decide) rfl ?_
              refine v_goto cx (tk_dc d_M_wasBefore 63 rfl) 23 (by decide) ?_
              exact ih2 _ _ _
      · have k0 : k = 0 := nI_inj (b := 0) (by omega) (by decide) h31
        refine v_iconst cx (tk_dc d_M_wasBefore 21 rfl) (0) (by decide) ?_
        refine v_eqi (iI (st k)) (by rw [k0, hst0]; rfl) ?_
        refine v_goto cx (tk_dc d_M_wasBefore 22 rfl) 52 (by decide) ?_
        refine v_istore (lo' := [_, _, _, _, _, _, _, _, _, _]) cx (tk_dc d_M_wasBefore 33 rfl) (by decide) rfl ?_
        refine v_aload_n cx (tk_dc d_M_wasBefore 34 rfl) rfl ?_
        refine v_getC cx 173 (tk_dc d_M_wasBefore 35 rfl) f_M_7 o_M (by decide) (by rfl) ?_
        refine v_bipush cx (tk_dc d_M_wasBefore 36 rfl) (8) (by decide) ?_
        refine v_iload_n cx (tk_dc d_M_wasBefore 37 rfl) rfl ?_
        refine v_imul cx (tk_dc d_M_wasBefore 38 rfl) ?_
        refine v_iload cx (tk_dc d_M_wasBefore 39 rfl) rfl ?_
        refine v_iadd cx (tk_dc d_M_wasBefore 40 rfl) ?_
        refine w_iald cx (tk_dc d_M_wasBefore 41 rfl) a_173 (8 * z + k) (by rw [show (8 : Int32) = nI 8 from rfl, pk_mul, nI_add]) (by omega) (by decide) ?_
        refine v_eqi (iI (st (k + 1))) (hso k (by omega)).1 ?_
        refine v_istore (lo' := [_, _, _, _, _, _, _, _, _, _]) cx (tk_dc d_M_wasBefore 42 rfl) (by decide) rfl ?_
        refine v_iload cx (tk_dc d_M_wasBefore 43 rfl) rfl ?_
        refine v_aload_n cx (tk_dc d_M_wasBefore 44 rfl) rfl ?_
        refine v_iload_n cx (tk_dc d_M_wasBefore 45 rfl) rfl ?_
        refine v_iload cx (tk_dc d_M_wasBefore 46 rfl) rfl ?_
        refine v_callV (rest := _) cx (tk_dc d_M_wasBefore 47 rfl) m_M_193 kn_M_offset kv_M_offset k_M_offset o_M (by decide) rfl (c_M_offset Z0 (by omega)) rfl rfl (Nat.le_of_ble_eq_true rfl) (by decide) ?_
        refine v_isub cx (tk_dc d_M_wasBefore 48 rfl) ?_
        refine v_eqi (iI (x + os q - os k)) (iI_sub _ _) ?_
        refine v_istore (lo' := [_, _, _, _, _, _, _, _, _, _]) cx (tk_dc d_M_wasBefore 49 rfl) (by decide) rfl ?_
        refine v_iload cx (tk_dc d_M_wasBefore 50 rfl) rfl ?_
        refine v_if_ne cx (tk_dc d_M_wasBefore 51 rfl) 99 (by decide) (fun h82 => ?_) (fun h82 => ?_)
        · have g82 := b01_nz h82
          rw [g82] at ih2
          refine v_iconst cx (tk_dc d_M_wasBefore 58 rfl) (1) (by decide) ?_
          refine v_goto cx (tk_dc d_M_wasBefore 59 rfl) 104 (by decide) ?_
          refine v_istore (lo' := [_, _, _, _, _, _, _, _, _, _]) cx (tk_dc d_M_wasBefore 61 rfl) (by decide) rfl ?_
          refine v_iinc (lo' := [_, _, _, _, _, _, _, _, _, _]) cx (tk_dc d_M_wasBefore 62 rfl) rfl (nI (k + 1)) ((nI_succ k).symm) (by decide) rfl ?_
          refine v_goto cx (tk_dc d_M_wasBefore 63 rfl) 23 (by decide) ?_
          exact ih2 _ _ _
        · have g82 := b01_z h82
          rw [g82] at ih2
          refine v_iload cx (tk_dc d_M_wasBefore 52 rfl) rfl ?_
          refine v_iload cx (tk_dc d_M_wasBefore 53 rfl) rfl ?_
          refine v_icmp_lt cx (tk_dc d_M_wasBefore 54 rfl) 103 (by decide) (fun h89 => ?_) (fun h89 => ?_)
          · have g89 : ¬ st k ≤ x + os q - os k := fun w => absurd ((iI_lt (by omega) (by omega) (by omega) (by omega)).mp h89) (by omega)
            rw [decide_eq_false (fun w => g89 w.1)] at ih2
            refine v_iconst cx (tk_dc d_M_wasBefore 60 rfl) (0) (by decide) ?_
            refine v_istore (lo' := [_, _, _, _, _, _, _, _, _, _]) cx (tk_dc d_M_wasBefore 61 rfl) (by decide) rfl ?_
            refine v_iinc (lo' := [_, _, _, _, _, _, _, _, _, _]) cx (tk_dc d_M_wasBefore 62 rfl) rfl (nI (k + 1)) ((nI_succ k).symm) (by decide) rfl ?_
            refine v_goto cx (tk_dc d_M_wasBefore 63 rfl) 23 (by decide) ?_
            exact ih2 _ _ _
          · have g89 : st k ≤ x + os q - os k := Int.not_lt.mp (fun w => h89 ((iI_lt (by omega) (by omega) (by omega) (by omega)).mpr w))
            refine v_iload cx (tk_dc d_M_wasBefore 55 rfl) rfl ?_
            refine v_iload cx (tk_dc d_M_wasBefore 56 rfl) rfl ?_
            refine v_icmp_ge cx (tk_dc d_M_wasBefore 57 rfl) 103 (by decide) (fun h96 => ?_) (fun h96 => ?_)
            · have g96 : ¬ x + os q - os k < st (k + 1) := fun w => absurd ((iI_le (by omega) (by omega) (by omega) (by omega)).mp h96) (by omega)
              rw [decide_eq_false (fun w => g96 w.2)] at ih2
              refine v_iconst cx (tk_dc d_M_wasBefore 60 rfl) (0) (by decide) ?_
              refine v_istore (lo' := [_, _, _, _, _, _, _, _, _, _]) cx (tk_dc d_M_wasBefore 61 rfl) (by decide) rfl ?_
              refine v_iinc (lo' := [_, _, _, _, _, _, _, _, _, _]) cx (tk_dc d_M_wasBefore 62 rfl) rfl (nI (k + 1)) ((nI_succ k).symm) (by decide) rfl ?_
              refine v_goto cx (tk_dc d_M_wasBefore 63 rfl) 23 (by decide) ?_
              exact ih2 _ _ _
            · have g96 : x + os q - os k < st (k + 1) := Int.not_le.mp (fun w => h96 ((iI_le (by omega) (by omega) (by omega) (by omega)).mpr w))
              rw [decide_eq_true ⟨g89, g96⟩] at ih2
              refine v_iconst cx (tk_dc d_M_wasBefore 58 rfl) (1) (by decide) ?_
              refine v_goto cx (tk_dc d_M_wasBefore 59 rfl) 104 (by decide) ?_
              refine v_istore (lo' := [_, _, _, _, _, _, _, _, _, _]) cx (tk_dc d_M_wasBefore 61 rfl) (by decide) rfl ?_
              refine v_iinc (lo' := [_, _, _, _, _, _, _, _, _, _]) cx (tk_dc d_M_wasBefore 62 rfl) rfl (nI (k + 1)) ((nI_succ k).symm) (by decide) rfl ?_
              refine v_goto cx (tk_dc d_M_wasBefore 63 rfl) 23 (by decide) ?_
              exact ih2 _ _ _
  refine v_aload_n cx (tk_dc d_M_wasBefore 0 rfl) rfl ?_
  refine v_iload_n cx (tk_dc d_M_wasBefore 1 rfl) rfl ?_
  refine v_iload_n cx (tk_dc d_M_wasBefore 2 rfl) rfl ?_
  refine v_callV (rest := _) cx (tk_dc d_M_wasBefore 3 rfl) m_M_190 kn_M_shiftsBy kv_M_shiftsBy k_M_shiftsBy o_M (by decide) rfl (c_M_shiftsBy Z0 h1 h2) rfl rfl (Nat.le_of_ble_eq_true rfl) (by decide) ?_
  refine v_eqi (nI q) (by rw [hq]) ?_
  refine v_istore_n (lo' := [_, _, _, _, _, _, _, _, _, _]) cx (tk_dc d_M_wasBefore 4 rfl) (by decide) rfl ?_
  refine v_iload_n cx (tk_dc d_M_wasBefore 5 rfl) rfl ?_
  refine v_aload_n cx (tk_dc d_M_wasBefore 6 rfl) rfl ?_
  refine v_iload_n cx (tk_dc d_M_wasBefore 7 rfl) rfl ?_
  refine v_iload_n cx (tk_dc d_M_wasBefore 8 rfl) rfl ?_
  refine v_callV (rest := _) cx (tk_dc d_M_wasBefore 9 rfl) m_M_193 kn_M_offset kv_M_offset k_M_offset o_M (by decide) rfl (c_M_offset Z0 hpt) rfl rfl (Nat.le_of_ble_eq_true rfl) (by decide) ?_
  refine v_iadd cx (tk_dc d_M_wasBefore 10 rfl) ?_
  refine v_eqi (iI (x + os q)) (iI_add _ _) ?_
  refine v_istore (lo' := [_, _, _, _, _, _, _, _, _, _]) cx (tk_dc d_M_wasBefore 11 rfl) (by decide) rfl ?_
  refine v_iconst cx (tk_dc d_M_wasBefore 12 rfl) (0) (by decide) ?_
  refine v_istore (lo' := [_, _, _, _, _, _, _, _, _, _]) cx (tk_dc d_M_wasBefore 13 rfl) (by decide) rfl ?_
  refine v_iconst cx (tk_dc d_M_wasBefore 14 rfl) (0) (by decide) ?_
  refine v_istore (lo' := [_, _, _, _, _, _, _, _, _, _]) cx (tk_dc d_M_wasBefore 15 rfl) (by decide) rfl ?_
  exact loop q 0 _ _ _ (by omega)
