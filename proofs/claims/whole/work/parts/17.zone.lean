/-! months and zones -/
def tk_sN (j : Nat) : Nat := ([0, 31, 60, 91, 121, 152, 182, 213, 244, 274, 305, 335, 366, 397, 425, 456, 486, 517, 547, 578, 609, 639, 670, 700, 731, 762, 790, 821, 851, 882, 912, 943, 974, 1004, 1035, 1065, 1096, 1127, 1155, 1186, 1216, 1247, 1277, 1308, 1339, 1369, 1400, 1430, 1461] : List Nat).getD j 0
theorem tk_st_N : ∀ j, j < 49 → tk_st j = nI (tk_sN j) := by decide
theorem tk_sN_le : ∀ j, j < 49 → tk_sN j ≤ 1461 := by decide
theorem tk_sN_lt : ∀ j, j < 48 → tk_sN j + 28 ≤ tk_sN (j + 1) ∧ tk_sN (j + 1) ≤ tk_sN j + 31 := by decide
/-- the month (from 1996 on) of day c (from 1996 on) -/
def mth (c : Nat) : Nat := c / 1461 * 48 + (if tk_sN (c % 1461 / 31 + 1) ≤ c % 1461 then c % 1461 / 31 + 1 else c % 1461 / 31)
def fday (m : Nat) : Int := (m / 48 : Nat) * 1461 - 1461 + tk_sN (m % 48)
def mlen (m : Nat) : Nat := tk_sN (m % 48 + 1) - tk_sN (m % 48)
set_option maxHeartbeats 4000000 in
set_option maxRecDepth 100000 in
theorem c_O_weekdayOf {l : Launch} {E : tk_E} {M : tk_M} {d : Int} (h1 : -1461 ≤ d) (h2 : d < 1000000) : tk_Mt l y_O_weekdayOf b_O_weekdayOf 1 (some .int) 0 E [.int (iI d)] M M (some (.int (iI ((d + 1461) % 7)))) := by
  refine tk_ofV (by decide +kernel) [some (.int (iI d))] rfl (Nat.le_of_ble_eq_true rfl) ?_
  intro p e s m args below meth c cx hB
  refine v_iload_n cx (tk_dc d_O_weekdayOf 0 rfl) rfl ?_
  refine v_sipush cx (tk_dc d_O_weekdayOf 1 rfl) (1461) (by decide) ?_
  refine v_iadd cx (tk_dc d_O_weekdayOf 2 rfl) ?_
  refine v_bipush cx (tk_dc d_O_weekdayOf 3 rfl) (7) (by decide) ?_
  refine v_irem cx (tk_dc d_O_weekdayOf 4 rfl) (by decide) ?_
  exact v_iret cx hB (tk_dc d_O_weekdayOf 5 rfl) (by rw [show (1461 : Int32) = iI 1461 from rfl, show (7 : Int32) = iI 7 from rfl, iI_add, iI_remN (by omega) (by omega) (by omega) (by omega)]) (rfl)

set_option maxHeartbeats 4000000 in
set_option maxRecDepth 100000 in
theorem c_O_monthOf {l : Launch} {E : tk_E} {M : tk_M} {n : Nat} (h2 : n < 1000000) : tk_Mt l y_O_monthOf b_O_monthOf 4 (some .int) 0 E [.int (iI ((n : Int) - 1461))] M M (some (.int (nI (mth n)))) := by
  refine tk_ofV (by decide +kernel) [some (.int (iI ((n : Int) - 1461))), none, none, none] rfl (Nat.le_of_ble_eq_true rfl) ?_
  intro p e s m args below meth c cx hB
  refine v_iload_n cx (tk_dc d_O_monthOf 0 rfl) rfl ?_
  refine v_sipush cx (tk_dc d_O_monthOf 1 rfl) (1461) (by decide) ?_
  refine v_iadd cx (tk_dc d_O_monthOf 2 rfl) ?_
  refine v_eqi (nI n) (by rw [show (1461 : Int32) = iI 1461 from rfl, iI_add, iI_nI]; congr 1; omega) ?_
  refine v_istore_n (lo' := [_, _, _, _]) cx (tk_dc d_O_monthOf 3 rfl) (by decide) rfl ?_
  refine v_iload_n cx (tk_dc d_O_monthOf 4 rfl) rfl ?_
  refine v_sipush cx (tk_dc d_O_monthOf 5 rfl) (1461) (by decide) ?_
  refine v_irem cx (tk_dc d_O_monthOf 6 rfl) (by decide) ?_
  refine v_eqi (nI (n % 1461)) (by rw [show (1461 : Int32) = nI 1461 from rfl, pk_rem (by omega) (by decide) (by decide)]) ?_
  refine v_istore_n (lo' := [_, _, _, _]) cx (tk_dc d_O_monthOf 7 rfl) (by decide) rfl ?_
  refine v_iload_n cx (tk_dc d_O_monthOf 8 rfl) rfl ?_
  refine v_bipush cx (tk_dc d_O_monthOf 9 rfl) (31) (by decide) ?_
  refine v_idiv cx (tk_dc d_O_monthOf 10 rfl) (by decide) ?_
  refine v_eqi (nI (n % 1461 / 31)) (by rw [show (31 : Int32) = nI 31 from rfl, pk_div (by omega) (by decide) (by decide)]) ?_
  refine v_istore_n (lo' := [_, _, _, _]) cx (tk_dc d_O_monthOf 11 rfl) (by decide) rfl ?_
  refine v_iload_n cx (tk_dc d_O_monthOf 12 rfl) rfl ?_
  refine v_gets cx (tk_dc d_O_monthOf 13 rfl) fs_O_11 ?_
  refine v_iload_n cx (tk_dc d_O_monthOf 14 rfl) rfl ?_
  refine v_iconst cx (tk_dc d_O_monthOf 15 rfl) (1) (by decide) ?_
  refine v_iadd cx (tk_dc d_O_monthOf 16 rfl) ?_
  refine w_tald cx (tk_dc d_O_monthOf 17 rfl) (n % 1461 / 31 + 1) ((nI_succ _).symm) (by omega) ?_
  refine v_eqi (nI (tk_sN (n % 1461 / 31 + 1))) (tk_st_N _ (by omega)) ?_
  refine v_icmp_lt cx (tk_dc d_O_monthOf 18 rfl) 31 (by decide) (fun h25 => ?_) (fun h25 => ?_)
  · have hm : ¬ tk_sN (n % 1461 / 31 + 1) ≤ n % 1461 := fun z => absurd h25 (nI_nlt z (by omega))
    refine v_iload_n cx (tk_dc d_O_monthOf 20 rfl) rfl ?_
    refine v_sipush cx (tk_dc d_O_monthOf 21 rfl) (1461) (by decide) ?_
    refine v_idiv cx (tk_dc d_O_monthOf 22 rfl) (by decide) ?_
    refine v_bipush cx (tk_dc d_O_monthOf 23 rfl) (48) (by decide) ?_
    refine v_imul cx (tk_dc d_O_monthOf 24 rfl) ?_
    refine v_iload_n cx (tk_dc d_O_monthOf 25 rfl) rfl ?_
    refine v_iadd cx (tk_dc d_O_monthOf 26 rfl) ?_
    exact v_iret cx hB (tk_dc d_O_monthOf 27 rfl) (by unfold mth; simp only [hm]; rw [show (48 : Int32) = nI 48 from rfl, show (1461 : Int32) = nI 1461 from rfl, pk_div (by omega) (by decide) (by decide), pk_mul]; simp only [nI_add, if_true, if_false]; try rfl) (rfl)
  · have hm : tk_sN (n % 1461 / 31 + 1) ≤ n % 1461 := by rcases Nat.lt_or_ge (n % 1461) (tk_sN (n % 1461 / 31 + 1)) with z | z; (exact absurd (nI_lt z (by have := tk_sN_le (n % 1461 / 31 + 1) (by omega); omega)) h25); exact z
    refine v_iinc (lo' := [_, _, _, _]) cx (tk_dc d_O_monthOf 19 rfl) rfl (nI (n % 1461 / 31 + 1)) ((nI_succ _).symm) (by decide) rfl ?_
    refine v_iload_n cx (tk_dc d_O_monthOf 20 rfl) rfl ?_
    refine v_sipush cx (tk_dc d_O_monthOf 21 rfl) (1461) (by decide) ?_
    refine v_idiv cx (tk_dc d_O_monthOf 22 rfl) (by decide) ?_
    refine v_bipush cx (tk_dc d_O_monthOf 23 rfl) (48) (by decide) ?_
    refine v_imul cx (tk_dc d_O_monthOf 24 rfl) ?_
    refine v_iload_n cx (tk_dc d_O_monthOf 25 rfl) rfl ?_
    refine v_iadd cx (tk_dc d_O_monthOf 26 rfl) ?_
    exact v_iret cx hB (tk_dc d_O_monthOf 27 rfl) (by unfold mth; simp only [hm]; rw [show (48 : Int32) = nI 48 from rfl, show (1461 : Int32) = nI 1461 from rfl, pk_div (by omega) (by decide) (by decide), pk_mul]; simp only [nI_add, if_true, if_false]; try rfl) (rfl)

set_option maxHeartbeats 4000000 in
set_option maxRecDepth 100000 in
theorem c_O_firstDayOf {l : Launch} {E : tk_E} {M : tk_M} {n : Nat} (h2 : n < 1000000) : tk_Mt l y_O_firstDayOf b_O_firstDayOf 1 (some .int) 0 E [.int (nI n)] M M (some (.int (iI (fday n)))) := by
  refine tk_ofV (by decide +kernel) [some (.int (nI n))] rfl (Nat.le_of_ble_eq_true rfl) ?_
  intro p e s m args below meth c cx hB
  refine v_iload_n cx (tk_dc d_O_firstDayOf 0 rfl) rfl ?_
  refine v_bipush cx (tk_dc d_O_firstDayOf 1 rfl) (48) (by decide) ?_
  refine v_idiv cx (tk_dc d_O_firstDayOf 2 rfl) (by decide) ?_
  refine v_eqi (nI (n / 48)) (by rw [show (48 : Int32) = nI 48 from rfl, pk_div (by omega) (by decide) (by decide)]) ?_
  refine v_iconst cx (tk_dc d_O_firstDayOf 3 rfl) (1) (by decide) ?_
  refine v_isub cx (tk_dc d_O_firstDayOf 4 rfl) ?_
  refine v_sipush cx (tk_dc d_O_firstDayOf 5 rfl) (1461) (by decide) ?_
  refine v_imul cx (tk_dc d_O_firstDayOf 6 rfl) ?_
  refine v_eqi (iI ((n / 48 : Nat) * 1461 - 1461)) (by rw [show (1461 : Int32) = iI 1461 from rfl, show (1 : Int32) = iI 1 from rfl, iI_nI, iI_sub, iI_mul]; congr 1; omega) ?_
  refine v_gets cx (tk_dc d_O_firstDayOf 7 rfl) fs_O_11 ?_
  refine v_iload_n cx (tk_dc d_O_firstDayOf 8 rfl) rfl ?_
  refine v_bipush cx (tk_dc d_O_firstDayOf 9 rfl) (48) (by decide) ?_
  refine v_irem cx (tk_dc d_O_firstDayOf 10 rfl) (by decide) ?_
  refine v_eqi (nI (n % 48)) (by rw [show (48 : Int32) = nI 48 from rfl, pk_rem (by omega) (by decide) (by decide)]) ?_
  refine w_tald cx (tk_dc d_O_firstDayOf 11 rfl) (n % 48) (rfl) (by omega) ?_
  refine v_eqi (iI (tk_sN (n % 48) : Nat)) (by rw [tk_st_N _ (by omega), iI_nI]) ?_
  refine v_iadd cx (tk_dc d_O_firstDayOf 12 rfl) ?_
  exact v_iret cx hB (tk_dc d_O_firstDayOf 13 rfl) (by unfold fday; rw [iI_add]) (rfl)

set_option maxHeartbeats 4000000 in
set_option maxRecDepth 100000 in
theorem c_O_lengthOf {l : Launch} {E : tk_E} {M : tk_M} {n : Nat} (h2 : n < 1000000) : tk_Mt l y_O_lengthOf b_O_lengthOf 2 (some .int) 0 E [.int (nI n)] M M (some (.int (nI (mlen n)))) := by
  refine tk_ofV (by decide +kernel) [some (.int (nI n)), none] rfl (Nat.le_of_ble_eq_true rfl) ?_
  intro p e s m args below meth c cx hB
  refine v_iload_n cx (tk_dc d_O_lengthOf 0 rfl) rfl ?_
  refine v_bipush cx (tk_dc d_O_lengthOf 1 rfl) (48) (by decide) ?_
  refine v_irem cx (tk_dc d_O_lengthOf 2 rfl) (by decide) ?_
  refine v_eqi (nI (n % 48)) (by rw [show (48 : Int32) = nI 48 from rfl, pk_rem (by omega) (by decide) (by decide)]) ?_
  refine v_istore_n (lo' := [_, _]) cx (tk_dc d_O_lengthOf 3 rfl) (by decide) rfl ?_
  refine v_gets cx (tk_dc d_O_lengthOf 4 rfl) fs_O_11 ?_
  refine v_iload_n cx (tk_dc d_O_lengthOf 5 rfl) rfl ?_
  refine v_iconst cx (tk_dc d_O_lengthOf 6 rfl) (1) (by decide) ?_
  refine v_iadd cx (tk_dc d_O_lengthOf 7 rfl) ?_
  refine w_tald cx (tk_dc d_O_lengthOf 8 rfl) (n % 48 + 1) ((nI_succ _).symm) (by omega) ?_
  refine v_gets cx (tk_dc d_O_lengthOf 9 rfl) fs_O_11 ?_
  refine v_iload_n cx (tk_dc d_O_lengthOf 10 rfl) rfl ?_
  refine w_tald cx (tk_dc d_O_lengthOf 11 rfl) (n % 48) (rfl) (by omega) ?_
  refine v_isub cx (tk_dc d_O_lengthOf 12 rfl) ?_
  exact v_iret cx hB (tk_dc d_O_lengthOf 13 rfl) (by rw [tk_st_N _ (by omega), tk_st_N _ (by omega)]; exact pk_sub (by have := (tk_sN_lt (n % 48) (by omega)).1; omega)) (rfl)

def z_hol (M : tk_M) (z h : Nat) (x : Int32) : Bool := anyN (fun i => decide (M.1 (zN z + 3) i = x)) h
def z_ash (M : tk_M) (z n : Nat) (a b : Int32) : tk_M := wI (wI (wI M (zN z + 1) n a) (zN z + 2) n b) (zN z) 3 (nI (n + 1))
def z_ahd (M : tk_M) (z h : Nat) (a : Int32) : tk_M := wI (wI M (zN z + 3) h a) (zN z) 4 (nI (h + 1))
def z_end (M : tk_M) (z n i : Nat) : Int32 := if i + 1 < n then M.1 (zN z + 1) (i + 1) - 1 else 52595999
/-- the part of a minute, among the first k -/
def z_pt (M : tk_M) (z : Nat) (x : Int32) : Nat → Nat
  | 0 => 0
  | k + 1 => if k = 0 then 0 else if x < M.1 (zN z + 1) k then z_pt M z x k else k
theorem z_pt_lt {M : tk_M} {z : Nat} {x : Int32} : ∀ k, 0 < k → z_pt M z x k < k
  | 0, h => by omega
  | k + 1, _ => by
    unfold z_pt
    by_cases h0 : k = 0
    · rw [if_pos h0]; omega
    · rw [if_neg h0]
      split
      · have := z_pt_lt (M := M) (z := z) (x := x) k (by omega)
        omega
      · omega
theorem z_pt_s1 {M : tk_M} {z k : Nat} {x : Int32} (h : x < M.1 (zN z + 1) (k + 1)) : z_pt M z x (k + 1 + 1) = z_pt M z x (k + 1) := by
  rw [z_pt, if_neg (by omega), if_pos h]
theorem z_pt_s2 {M : tk_M} {z k : Nat} {x : Int32} (h : ¬ x < M.1 (zN z + 1) (k + 1)) : z_pt M z x (k + 1 + 1) = k + 1 := by
  rw [z_pt, if_neg (by omega), if_neg h]
def z_loc (M : tk_M) (z n : Nat) (x : Int32) : Int32 := x + M.1 (zN z + 2) (z_pt M z x n)
def z_fl (M : tk_M) (z i : Nat) (x : Int32) : Int32 := if M.1 (zN z + 1) i < x ∨ M.1 (zN z + 1) i = 0 then x + M.1 (zN z + 2) i else M.1 (zN z + 1) i + (if M.1 (zN z + 2) i < M.1 (zN z + 2) (i - 1) then M.1 (zN z + 2) i else M.1 (zN z + 2) (i - 1))
/-- hadUpTo, with d parts left to look at, from part i on -/
def z_had (M : tk_M) (z n : Nat) (x : Int32) : Nat → Nat → Int32
  | 0, _ => x - 1
  | d + 1, i => if M.1 (zN z + 1) i + M.1 (zN z + 2) i ≤ x ∧ x ≤ z_end M z n i + M.1 (zN z + 2) i then z_end M z n i + M.1 (zN z + 2) i else z_had M z n x d (i + 1)
theorem nI_inj {a b : Nat} (ha : a < 1000000) (hb : b < 1000000) (h : nI a = nI b) : a = b := (nI_eq (by omega) (by omega)).mp h
set_option maxHeartbeats 4000000 in
set_option maxRecDepth 100000 in
theorem c_Z_addShift {l : Launch} {E : tk_E} {M : tk_M} {z n : Nat} {a b : Int32} (hz : z < 4) (hn1 : 1 ≤ n) (hn9 : n ≤ 9) (hn : M.1 (zN z) 3 = nI n) : tk_Mt l y_Z_addShift b_Z_addShift 3 (some .boolean) 0 E [.ref (E.1 + zN z), .int a, .int b] M (if 9 ≤ n ∨ (1 < n ∧ a ≤ M.1 (zN z + 1) (n - 1)) then M else z_ash M z n a b) (some (.int (if 9 ≤ n ∨ (1 < n ∧ a ≤ M.1 (zN z + 1) (n - 1)) then 0 else 1))) := by
  refine tk_ofV (by decide +kernel) [some (.ref (E.1 + zN z)), some (.int a), some (.int b)] rfl (Nat.le_of_ble_eq_true rfl) ?_
  intro p e s m args below meth c cx hB
  refine v_aload_n cx (tk_dc d_Z_addShift 0 rfl) rfl ?_
  refine v_getI cx (tk_dc d_Z_addShift 1 rfl) f_Z_21 (o_Z (by assumption)) (by decide) (by rfl) ?_
  refine v_bipush cx (tk_dc d_Z_addShift 2 rfl) (8) (by decide) ?_
  refine v_icmp_gt cx (tk_dc d_Z_addShift 3 rfl) 32 (by decide) (fun h6 => ?_) (fun h6 => ?_)
  · have k8 : 9 ≤ n := by rcases Nat.lt_or_ge 8 n with z | z; (exact z); exact absurd (show (8 : Int32) < nI n from hn ▸ h6) (nI_nlt z (by decide))
    have k1 : 1 < n := by omega
    refine v_iconst cx (tk_dc d_Z_addShift 17 rfl) (0) (by decide) ?_
    exact v_zret cx hB (tk_dc d_Z_addShift 18 rfl) (by first | exact Or.inl rfl | exact Or.inr rfl | exact b01_01 _ | assumption) (by simp [h6, Int32.not_le.mpr h6, k8, k1]; try omega) (by simp [h6, Int32.not_le.mpr h6, k8, k1, z_ash, nI_succ, hn, wI_ne]; try omega)
  · have k8 : ¬ 9 ≤ n := fun z => h6 (by rw [hn]; exact nI_lt (a := 8) (by omega) (by omega))
    refine v_aload_n cx (tk_dc d_Z_addShift 4 rfl) rfl ?_
    refine v_getI cx (tk_dc d_Z_addShift 5 rfl) f_Z_21 (o_Z (by assumption)) (by decide) (by rfl) ?_
    refine v_iconst cx (tk_dc d_Z_addShift 6 rfl) (1) (by decide) ?_
    refine v_icmp_le cx (tk_dc d_Z_addShift 7 rfl) 34 (by decide) (fun h14 => ?_) (fun h14 => ?_)
    · have k1 : ¬ 1 < n := fun z => absurd (show nI n ≤ nI 1 from hn ▸ h14) (nI_ge z (by omega))
      refine v_aload_n cx (tk_dc d_Z_addShift 19 rfl) rfl ?_
      refine v_getC cx (zN _ + 1) (tk_dc d_Z_addShift 20 rfl) f_Z_9 (o_Z (by assumption)) (by decide) (by rfl) ?_
      refine v_aload_n cx (tk_dc d_Z_addShift 21 rfl) rfl ?_
      refine v_getI cx (tk_dc d_Z_addShift 22 rfl) f_Z_21 (o_Z (by assumption)) (by decide) (by rfl) ?_
      refine v_iload_n cx (tk_dc d_Z_addShift 23 rfl) rfl ?_
      refine w_iast cx (tk_dc d_Z_addShift 24 rfl) (o_Z1 hz) n (hn) (by omega) (by decide) ?_
      refine v_aload_n cx (tk_dc d_Z_addShift 25 rfl) rfl ?_
      refine v_getC cx (zN _ + 2) (tk_dc d_Z_addShift 26 rfl) f_Z_15 (o_Z (by assumption)) (by decide) (by rfl) ?_
      refine v_aload_n cx (tk_dc d_Z_addShift 27 rfl) rfl ?_
      refine v_getI cx (tk_dc d_Z_addShift 28 rfl) f_Z_21 (o_Z (by assumption)) (by decide) (by rfl) ?_
      refine v_iload_n cx (tk_dc d_Z_addShift 29 rfl) rfl ?_
      refine w_iast cx (tk_dc d_Z_addShift 30 rfl) (o_Z2 hz) n (by simp [wI, hn]) (by omega) (by decide) ?_
      refine v_aload_n cx (tk_dc d_Z_addShift 31 rfl) rfl ?_
      refine v_dup cx (tk_dc d_Z_addShift 32 rfl) rfl ?_
      refine v_getI cx (tk_dc d_Z_addShift 33 rfl) f_Z_21 (o_Z (by assumption)) (by decide) (by rfl) ?_
      refine v_iconst cx (tk_dc d_Z_addShift 34 rfl) (1) (by decide) ?_
      refine v_iadd cx (tk_dc d_Z_addShift 35 rfl) ?_
      refine v_putI cx (tk_dc d_Z_addShift 36 rfl) f_Z_21 (o_Z (by assumption)) (by decide) (by rfl) ⟨rfl, rfl⟩ ?_
      refine v_iconst cx (tk_dc d_Z_addShift 37 rfl) (1) (by decide) ?_
      exact v_zret cx hB (tk_dc d_Z_addShift 38 rfl) (by first | exact Or.inl rfl | exact Or.inr rfl | exact b01_01 _ | assumption) (by simp [h6, Int32.not_lt.mp h6, h14, Int32.not_lt.mpr h14, k8, k1]; try omega) (by simp [h6, Int32.not_lt.mp h6, h14, Int32.not_lt.mpr h14, k8, k1, z_ash, nI_succ, hn, wI_ne]; try omega)
    · have k1 : 1 < n := by rcases Nat.lt_or_ge 1 n with z | z; (exact z); exact absurd (show nI n ≤ nI 1 from nI_le z (by decide)) (hn ▸ h14)
      refine v_aload_n cx (tk_dc d_Z_addShift 8 rfl) rfl ?_
      refine v_getC cx (zN _ + 1) (tk_dc d_Z_addShift 9 rfl) f_Z_9 (o_Z (by assumption)) (by decide) (by rfl) ?_
      refine v_aload_n cx (tk_dc d_Z_addShift 10 rfl) rfl ?_
      refine v_getI cx (tk_dc d_Z_addShift 11 rfl) f_Z_21 (o_Z (by assumption)) (by decide) (by rfl) ?_
      refine v_iconst cx (tk_dc d_Z_addShift 12 rfl) (1) (by decide) ?_
      refine v_isub cx (tk_dc d_Z_addShift 13 rfl) ?_
      refine w_iald cx (tk_dc d_Z_addShift 14 rfl) (o_Z1 hz) (n - 1) (by rw [hn]; exact nI_sub1 hn1) (by omega) (by decide) ?_
      refine v_iload_n cx (tk_dc d_Z_addShift 15 rfl) rfl ?_
      refine v_icmp_lt cx (tk_dc d_Z_addShift 16 rfl) 34 (by decide) (fun h29 => ?_) (fun h29 => ?_)
      · refine v_aload_n cx (tk_dc d_Z_addShift 19 rfl) rfl ?_
        refine v_getC cx (zN _ + 1) (tk_dc d_Z_addShift 20 rfl) f_Z_9 (o_Z (by assumption)) (by decide) (by rfl) ?_
        refine v_aload_n cx (tk_dc d_Z_addShift 21 rfl) rfl ?_
        refine v_getI cx (tk_dc d_Z_addShift 22 rfl) f_Z_21 (o_Z (by assumption)) (by decide) (by rfl) ?_
        refine v_iload_n cx (tk_dc d_Z_addShift 23 rfl) rfl ?_
        refine w_iast cx (tk_dc d_Z_addShift 24 rfl) (o_Z1 hz) n (hn) (by omega) (by decide) ?_
        refine v_aload_n cx (tk_dc d_Z_addShift 25 rfl) rfl ?_
        refine v_getC cx (zN _ + 2) (tk_dc d_Z_addShift 26 rfl) f_Z_15 (o_Z (by assumption)) (by decide) (by rfl) ?_
        refine v_aload_n cx (tk_dc d_Z_addShift 27 rfl) rfl ?_
        refine v_getI cx (tk_dc d_Z_addShift 28 rfl) f_Z_21 (o_Z (by assumption)) (by decide) (by rfl) ?_
        refine v_iload_n cx (tk_dc d_Z_addShift 29 rfl) rfl ?_
        refine w_iast cx (tk_dc d_Z_addShift 30 rfl) (o_Z2 hz) n (by simp [wI, hn]) (by omega) (by decide) ?_
        refine v_aload_n cx (tk_dc d_Z_addShift 31 rfl) rfl ?_
        refine v_dup cx (tk_dc d_Z_addShift 32 rfl) rfl ?_
        refine v_getI cx (tk_dc d_Z_addShift 33 rfl) f_Z_21 (o_Z (by assumption)) (by decide) (by rfl) ?_
        refine v_iconst cx (tk_dc d_Z_addShift 34 rfl) (1) (by decide) ?_
        refine v_iadd cx (tk_dc d_Z_addShift 35 rfl) ?_
        refine v_putI cx (tk_dc d_Z_addShift 36 rfl) f_Z_21 (o_Z (by assumption)) (by decide) (by rfl) ⟨rfl, rfl⟩ ?_
        refine v_iconst cx (tk_dc d_Z_addShift 37 rfl) (1) (by decide) ?_
        exact v_zret cx hB (tk_dc d_Z_addShift 38 rfl) (by first | exact Or.inl rfl | exact Or.inr rfl | exact b01_01 _ | assumption) (by simp [h6, Int32.not_lt.mp h6, h14, Int32.not_le.mp h14, h29, Int32.not_le.mpr h29, k8, k1]; try omega) (by simp [h6, Int32.not_lt.mp h6, h14, Int32.not_le.mp h14, h29, Int32.not_le.mpr h29, k8, k1, z_ash, nI_succ, hn, wI_ne]; try omega)
      · refine v_iconst cx (tk_dc d_Z_addShift 17 rfl) (0) (by decide) ?_
        exact v_zret cx hB (tk_dc d_Z_addShift 18 rfl) (by first | exact Or.inl rfl | exact Or.inr rfl | exact b01_01 _ | assumption) (by simp [h6, Int32.not_lt.mp h6, h14, Int32.not_le.mp h14, h29, Int32.not_lt.mp h29, k8, k1]; try omega) (by simp [h6, Int32.not_lt.mp h6, h14, Int32.not_le.mp h14, h29, Int32.not_lt.mp h29, k8, k1, z_ash, nI_succ, hn, wI_ne]; try omega)

set_option maxHeartbeats 4000000 in
set_option maxRecDepth 100000 in
theorem c_Z_isHoliday {l : Launch} {E : tk_E} {M : tk_M} {z h : Nat} {x : Int32} (hz : z < 4) (hh : h ≤ 16) (hc : M.1 (zN z) 4 = nI h) : tk_Mt l y_Z_isHoliday b_Z_isHoliday 3 (some .boolean) 0 E [.ref (E.1 + zN z), .int x] M M (some (.int (b01 (z_hol M z h x)))) := by
  refine tk_ofV (by decide +kernel) [some (.ref (E.1 + zN z)), some (.int x), none] rfl (Nat.le_of_ble_eq_true rfl) ?_
  intro p e s m args below meth c cx hB
  have loop : ∀ (d k : Nat), k + d = h → z_hol M z k x = false → tk_V p l e (tk_rm 0 0 0) s m args below meth c (MQ below (tk_Q E 209 (tk_ct E M) (some (.int (b01 (z_hol M z h x))))) args s 0 0 (tk_A E)) E 3 209 (tk_ct E M) 0 0 2 [some (.ref (E.1 + zN z)), some (.int x), some (.int (nI k))] [] := by
    intro d
    induction d with
    | zero =>
      intro k hk hf
      obtain rfl : k = h := by omega
      refine v_iload_n cx (tk_dc d_Z_isHoliday 2 rfl) rfl ?_
      refine v_aload_n cx (tk_dc d_Z_isHoliday 3 rfl) rfl ?_
      refine v_getI cx (tk_dc d_Z_isHoliday 4 rfl) f_Z_25 (o_Z (by assumption)) (by decide) (by rfl) ?_
      refine v_icmp_ge cx (tk_dc d_Z_isHoliday 5 rfl) 28 (by decide) (fun _ => ?_) (fun h => absurd (by rw [hc]; exact Int32.le_refl _) h)
      refine v_iconst cx (tk_dc d_Z_isHoliday 16 rfl) (0) (by decide) ?_
      exact v_zret cx hB (tk_dc d_Z_isHoliday 17 rfl) (by first | exact Or.inl rfl | exact Or.inr rfl | exact b01_01 _ | assumption) (by rw [hf]; rfl) (rfl)
    | succ d ih =>
      intro k hk hf
      refine v_iload_n cx (tk_dc d_Z_isHoliday 2 rfl) rfl ?_
      refine v_aload_n cx (tk_dc d_Z_isHoliday 3 rfl) rfl ?_
      refine v_getI cx (tk_dc d_Z_isHoliday 4 rfl) f_Z_25 (o_Z (by assumption)) (by decide) (by rfl) ?_
      refine v_icmp_ge cx (tk_dc d_Z_isHoliday 5 rfl) 28 (by decide) (fun h => absurd h (by rw [hc]; exact nI_ge (by omega) (by omega))) (fun _ => ?_)
      refine v_aload_n cx (tk_dc d_Z_isHoliday 6 rfl) rfl ?_
      refine v_getC cx (zN _ + 3) (tk_dc d_Z_isHoliday 7 rfl) f_Z_18 (o_Z (by assumption)) (by decide) (by rfl) ?_
      refine v_iload_n cx (tk_dc d_Z_isHoliday 8 rfl) rfl ?_
      refine w_iald cx (tk_dc d_Z_isHoliday 9 rfl) (o_Z3 hz) k (rfl) (by omega) (by decide) ?_
      refine v_iload_n cx (tk_dc d_Z_isHoliday 10 rfl) rfl ?_
      refine v_icmp_ne cx (tk_dc d_Z_isHoliday 11 rfl) 22 (by decide) (fun h17 => ?_) (fun h17 => ?_)
      · refine v_iinc (lo' := [_, _, _]) cx (tk_dc d_Z_isHoliday 14 rfl) rfl (nI (k + 1)) ((nI_succ k).symm) (by decide) rfl ?_
        refine v_goto cx (tk_dc d_Z_isHoliday 15 rfl) 2 (by decide) ?_
        exact ih (k + 1) (by omega) (by rw [show z_hol M z (k + 1) x = (z_hol M z k x || decide (M.1 (zN z + 3) k = x)) from rfl, hf]; simpa using h17)
      · refine v_iconst cx (tk_dc d_Z_isHoliday 12 rfl) (1) (by decide) ?_
        exact v_zret cx hB (tk_dc d_Z_isHoliday 13 rfl) (by first | exact Or.inl rfl | exact Or.inr rfl | exact b01_01 _ | assumption) (by rw [show z_hol M z h x = true from anyN_t (k := k) (by omega) (by simpa using h17)]; rfl) (rfl)
  refine v_iconst cx (tk_dc d_Z_isHoliday 0 rfl) (0) (by decide) ?_
  refine v_istore_n (lo' := [_, _, _]) cx (tk_dc d_Z_isHoliday 1 rfl) (by decide) rfl ?_
  exact loop h 0 (by omega) rfl

set_option maxHeartbeats 4000000 in
set_option maxRecDepth 100000 in
theorem c_Z_addHoliday {l : Launch} {E : tk_E} {M : tk_M} {z h : Nat} {x : Int32} (hz : z < 4) (hh : h ≤ 16) (hc : M.1 (zN z) 4 = nI h) : tk_Mt l y_Z_addHoliday b_Z_addHoliday 2 (some .boolean) 1 E [.ref (E.1 + zN z), .int x] M (if h = 16 ∨ z_hol M z h x = true then M else z_ahd M z h x) (some (.int (if h = 16 ∨ z_hol M z h x = true then 0 else 1))) := by
  refine tk_ofV (by decide +kernel) [some (.ref (E.1 + zN z)), some (.int x)] rfl (Nat.le_of_ble_eq_true rfl) ?_
  intro p e s m args below meth c cx hB
  refine v_aload_n cx (tk_dc d_Z_addHoliday 0 rfl) rfl ?_
  refine v_getI cx (tk_dc d_Z_addHoliday 1 rfl) f_Z_25 (o_Z (by assumption)) (by decide) (by rfl) ?_
  refine v_bipush cx (tk_dc d_Z_addHoliday 2 rfl) (16) (by decide) ?_
  refine v_icmp_ge cx (tk_dc d_Z_addHoliday 3 rfl) 17 (by decide) (fun h6 => ?_) (fun h6 => ?_)
  · have k16 : h = 16 := by rcases Nat.lt_or_ge h 16 with z | z; (exact absurd (show nI 16 ≤ nI h from hc ▸ h6) (nI_ge z (by decide))); omega
    have kh : True := trivial
    refine v_iconst cx (tk_dc d_Z_addHoliday 8 rfl) (0) (by decide) ?_
    exact v_zret cx hB (tk_dc d_Z_addHoliday 9 rfl) (by first | exact Or.inl rfl | exact Or.inr rfl | exact b01_01 _ | assumption) (by simp [k16, kh]) (by simp [k16, kh, z_ahd, nI_succ, hc, wI_ne])
  · have k16 : ¬ h = 16 := fun z => h6 (by rw [hc, z]; decide)
    refine v_aload_n cx (tk_dc d_Z_addHoliday 4 rfl) rfl ?_
    refine v_iload_n cx (tk_dc d_Z_addHoliday 5 rfl) rfl ?_
    refine v_callV (rest := _) cx (tk_dc d_Z_addHoliday 6 rfl) m_Z_28 kn_Z_isHoliday kv_Z_isHoliday k_Z_isHoliday (o_Z (by assumption)) (by decide) rfl (c_Z_isHoliday hz hh hc) rfl rfl (Nat.le_of_ble_eq_true rfl) (by decide) ?_
    refine v_if_eq cx (tk_dc d_Z_addHoliday 7 rfl) 19 (by decide) (fun h14 => ?_) (fun h14 => ?_)
    · have kh : z_hol M z h x = false := by cases hv : z_hol M z h x with | true => (rw [hv] at h14; exact absurd h14 (by decide)) | false => rfl
      refine v_aload_n cx (tk_dc d_Z_addHoliday 10 rfl) rfl ?_
      refine v_getC cx (zN _ + 3) (tk_dc d_Z_addHoliday 11 rfl) f_Z_18 (o_Z (by assumption)) (by decide) (by rfl) ?_
      refine v_aload_n cx (tk_dc d_Z_addHoliday 12 rfl) rfl ?_
      refine v_getI cx (tk_dc d_Z_addHoliday 13 rfl) f_Z_25 (o_Z (by assumption)) (by decide) (by rfl) ?_
      refine v_iload_n cx (tk_dc d_Z_addHoliday 14 rfl) rfl ?_
      refine w_iast cx (tk_dc d_Z_addHoliday 15 rfl) (o_Z3 hz) h (hc) (by omega) (by decide) ?_
      refine v_aload_n cx (tk_dc d_Z_addHoliday 16 rfl) rfl ?_
      refine v_dup cx (tk_dc d_Z_addHoliday 17 rfl) rfl ?_
      refine v_getI cx (tk_dc d_Z_addHoliday 18 rfl) f_Z_25 (o_Z (by assumption)) (by decide) (by rfl) ?_
      refine v_iconst cx (tk_dc d_Z_addHoliday 19 rfl) (1) (by decide) ?_
      refine v_iadd cx (tk_dc d_Z_addHoliday 20 rfl) ?_
      refine v_putI cx (tk_dc d_Z_addHoliday 21 rfl) f_Z_25 (o_Z (by assumption)) (by decide) (by rfl) ⟨rfl, rfl⟩ ?_
      refine v_iconst cx (tk_dc d_Z_addHoliday 22 rfl) (1) (by decide) ?_
      exact v_zret cx hB (tk_dc d_Z_addHoliday 23 rfl) (by first | exact Or.inl rfl | exact Or.inr rfl | exact b01_01 _ | assumption) (by simp [k16, kh]) (by simp [k16, kh, z_ahd, nI_succ, hc, wI_ne])
    · have kh : z_hol M z h x = true := by cases hv : z_hol M z h x with | false => (rw [hv] at h14; exact absurd rfl h14) | true => rfl
      refine v_iconst cx (tk_dc d_Z_addHoliday 8 rfl) (0) (by decide) ?_
      exact v_zret cx hB (tk_dc d_Z_addHoliday 9 rfl) (by first | exact Or.inl rfl | exact Or.inr rfl | exact b01_01 _ | assumption) (by simp [k16, kh]) (by simp [k16, kh, z_ahd, nI_succ, hc, wI_ne])

set_option maxHeartbeats 4000000 in
set_option maxRecDepth 100000 in
theorem c_Z_endOf {l : Launch} {E : tk_E} {M : tk_M} {z n i : Nat} (hz : z < 4) (hn1 : 1 ≤ n) (hn9 : n ≤ 9) (hn : M.1 (zN z) 3 = nI n) (hi : i < n) : tk_Mt l y_Z_endOf b_Z_endOf 2 (some .int) 0 E [.ref (E.1 + zN z), .int (nI i)] M M (some (.int (z_end M z n i))) := by
  refine tk_ofV (by decide +kernel) [some (.ref (E.1 + zN z)), some (.int (nI i))] rfl (Nat.le_of_ble_eq_true rfl) ?_
  intro p e s m args below meth c cx hB
  refine v_iload_n cx (tk_dc d_Z_endOf 0 rfl) rfl ?_
  refine v_iconst cx (tk_dc d_Z_endOf 1 rfl) (1) (by decide) ?_
  refine v_iadd cx (tk_dc d_Z_endOf 2 rfl) ?_
  refine v_eqi (nI (i + 1)) (nI_succ i).symm ?_
  refine v_aload_n cx (tk_dc d_Z_endOf 3 rfl) rfl ?_
  refine v_getI cx (tk_dc d_Z_endOf 4 rfl) f_Z_21 (o_Z (by assumption)) (by decide) (by rfl) ?_
  refine v_icmp_ge cx (tk_dc d_Z_endOf 5 rfl) 23 (by decide) (fun h7 => ?_) (fun h7 => ?_)
  · have k : ¬ i + 1 < n := fun z => absurd h7 (by rw [hn]; exact nI_ge z (by omega))
    refine v_ldc cx (tk_dc d_Z_endOf 15 rfl) c_Z_38 ?_
    exact v_iret cx hB (tk_dc d_Z_endOf 16 rfl) (by unfold z_end; simp only [k, if_true, if_false]) (rfl)
  · have k : i + 1 < n := by rcases Nat.lt_or_ge (i + 1) n with z | z; (exact z); exact absurd (by rw [hn]; exact nI_le z (by omega)) h7
    refine v_aload_n cx (tk_dc d_Z_endOf 6 rfl) rfl ?_
    refine v_getC cx (zN _ + 1) (tk_dc d_Z_endOf 7 rfl) f_Z_9 (o_Z (by assumption)) (by decide) (by rfl) ?_
    refine v_iload_n cx (tk_dc d_Z_endOf 8 rfl) rfl ?_
    refine v_iconst cx (tk_dc d_Z_endOf 9 rfl) (1) (by decide) ?_
    refine v_iadd cx (tk_dc d_Z_endOf 10 rfl) ?_
    refine v_eqi (nI (i + 1)) (nI_succ i).symm ?_
    refine w_iald cx (tk_dc d_Z_endOf 11 rfl) (o_Z1 hz) (i + 1) (rfl) (by omega) (by decide) ?_
    refine v_iconst cx (tk_dc d_Z_endOf 12 rfl) (1) (by decide) ?_
    refine v_isub cx (tk_dc d_Z_endOf 13 rfl) ?_
    refine v_goto cx (tk_dc d_Z_endOf 14 rfl) 25 (by decide) ?_
    exact v_iret cx hB (tk_dc d_Z_endOf 16 rfl) (by unfold z_end; simp only [k, if_true, if_false]) (rfl)

set_option maxHeartbeats 4000000 in
set_option maxRecDepth 100000 in
theorem c_Z_localMinute {l : Launch} {E : tk_E} {M : tk_M} {z n : Nat} {x : Int32} (hz : z < 4) (hn1 : 1 ≤ n) (hn9 : n ≤ 9) (hn : M.1 (zN z) 3 = nI n) : tk_Mt l y_Z_localMinute b_Z_localMinute 3 (some .int) 0 E [.ref (E.1 + zN z), .int x] M M (some (.int (z_loc M z n x))) := by
  refine tk_ofV (by decide +kernel) [some (.ref (E.1 + zN z)), some (.int x), none] rfl (Nat.le_of_ble_eq_true rfl) ?_
  intro p e s m args below meth c cx hB
  have loop : ∀ (k : Nat), k + 1 ≤ n → z_pt M z x (k + 1) = z_pt M z x n → tk_V p l e (tk_rm 0 0 0) s m args below meth c (MQ below (tk_Q E 209 (tk_ct E M) (some (.int (z_loc M z n x)))) args s 0 0 (tk_A E)) E 3 209 (tk_ct E M) 0 0 7 [some (.ref (E.1 + zN z)), some (.int x), some (.int (nI k))] [] := by
    intro k
    induction k with
    | zero =>
      intro hk hf
      refine v_iload_n cx (tk_dc d_Z_localMinute 5 rfl) rfl ?_
      refine v_if_le cx (tk_dc d_Z_localMinute 6 rfl) 27 (by decide) (fun _ => ?_) (fun h => absurd (by decide) h)
      refine v_iload_n cx (tk_dc d_Z_localMinute 15 rfl) rfl ?_
      refine v_aload_n cx (tk_dc d_Z_localMinute 16 rfl) rfl ?_
      refine v_getC cx (zN _ + 2) (tk_dc d_Z_localMinute 17 rfl) f_Z_15 (o_Z (by assumption)) (by decide) (by rfl) ?_
      refine v_iload_n cx (tk_dc d_Z_localMinute 18 rfl) rfl ?_
      refine w_iald cx (tk_dc d_Z_localMinute 19 rfl) (o_Z2 hz) 0 (rfl) (by omega) (by decide) ?_
      refine v_iadd cx (tk_dc d_Z_localMinute 20 rfl) ?_
      exact v_iret cx hB (tk_dc d_Z_localMinute 21 rfl) (by unfold z_loc; rw [← hf]; rfl) (rfl)
    | succ k ih =>
      intro hk hf
      refine v_iload_n cx (tk_dc d_Z_localMinute 5 rfl) rfl ?_
      refine v_if_le cx (tk_dc d_Z_localMinute 6 rfl) 27 (by decide) (fun h => absurd h (nI_nle (by omega) (by omega))) (fun _ => ?_)
      refine v_aload_n cx (tk_dc d_Z_localMinute 7 rfl) rfl ?_
      refine v_getC cx (zN _ + 1) (tk_dc d_Z_localMinute 8 rfl) f_Z_9 (o_Z (by assumption)) (by decide) (by rfl) ?_
      refine v_iload_n cx (tk_dc d_Z_localMinute 9 rfl) rfl ?_
      refine w_iald cx (tk_dc d_Z_localMinute 10 rfl) (o_Z1 hz) (k + 1) (rfl) (by omega) (by decide) ?_
      refine v_iload_n cx (tk_dc d_Z_localMinute 11 rfl) rfl ?_
      refine v_icmp_le cx (tk_dc d_Z_localMinute 12 rfl) 27 (by decide) (fun h18 => ?_) (fun h18 => ?_)
      · refine v_iload_n cx (tk_dc d_Z_localMinute 15 rfl) rfl ?_
        refine v_aload_n cx (tk_dc d_Z_localMinute 16 rfl) rfl ?_
        refine v_getC cx (zN _ + 2) (tk_dc d_Z_localMinute 17 rfl) f_Z_15 (o_Z (by assumption)) (by decide) (by rfl) ?_
        refine v_iload_n cx (tk_dc d_Z_localMinute 18 rfl) rfl ?_
        refine w_iald cx (tk_dc d_Z_localMinute 19 rfl) (o_Z2 hz) (k + 1) (rfl) (by omega) (by decide) ?_
        refine v_iadd cx (tk_dc d_Z_localMinute 20 rfl) ?_
        exact v_iret cx hB (tk_dc d_Z_localMinute 21 rfl) (by unfold z_loc; rw [← hf, z_pt_s2 (Int32.not_lt.mpr h18)]) (rfl)
      · refine v_iinc (lo' := [_, _, _]) cx (tk_dc d_Z_localMinute 13 rfl) rfl (nI k) (pk_m1 k) (by decide) rfl ?_
        refine v_goto cx (tk_dc d_Z_localMinute 14 rfl) 7 (by decide) ?_
        exact ih (by omega) ((z_pt_s1 (Int32.not_le.mp h18)).symm.trans hf)
  refine v_aload_n cx (tk_dc d_Z_localMinute 0 rfl) rfl ?_
  refine v_getI cx (tk_dc d_Z_localMinute 1 rfl) f_Z_21 (o_Z (by assumption)) (by decide) (by rfl) ?_
  refine v_iconst cx (tk_dc d_Z_localMinute 2 rfl) (1) (by decide) ?_
  refine v_isub cx (tk_dc d_Z_localMinute 3 rfl) ?_
  refine v_eqi (nI (n - 1)) (by rw [hn]; exact nI_sub1 hn1) ?_
  refine v_istore_n (lo' := [_, _, _]) cx (tk_dc d_Z_localMinute 4 rfl) (by decide) rfl ?_
  exact loop (n - 1) (by omega) (by rw [Nat.sub_add_cancel hn1])

set_option maxHeartbeats 4000000 in
set_option maxRecDepth 100000 in
theorem c_Z_localDay {l : Launch} {E : tk_E} {M : tk_M} {z n : Nat} {x : Int32} (hz : z < 4) (hn1 : 1 ≤ n) (hn9 : n ≤ 9) (hn : M.1 (zN z) 3 = nI n) : tk_Mt l y_Z_localDay b_Z_localDay 2 (some .int) 1 E [.ref (E.1 + zN z), .int x] M M (some (.int (i_fd (z_loc M z n x) 1440))) := by
  refine tk_ofV (by decide +kernel) [some (.ref (E.1 + zN z)), some (.int x)] rfl (Nat.le_of_ble_eq_true rfl) ?_
  intro p e s m args below meth c cx hB
  refine v_aload_n cx (tk_dc d_Z_localDay 0 rfl) rfl ?_
  refine v_iload_n cx (tk_dc d_Z_localDay 1 rfl) rfl ?_
  refine v_callV (rest := _) cx (tk_dc d_Z_localDay 2 rfl) m_Z_39 kn_Z_localMinute kv_Z_localMinute k_Z_localMinute (o_Z (by assumption)) (by decide) rfl (c_Z_localMinute hz hn1 hn9 hn) rfl rfl (Nat.le_of_ble_eq_true rfl) (by decide) ?_
  refine v_sipush cx (tk_dc d_Z_localDay 3 rfl) (1440) (by decide) ?_
  refine v_callS (rest := _) cx (tk_dc d_Z_localDay 4 rfl) m_Z_42 ks_Q_floorDiv k_Q_floorDiv (c_Q_floorDiv (by decide)) rfl rfl (Nat.le_of_ble_eq_true rfl) (by decide) ?_
  exact v_iret cx hB (tk_dc d_Z_localDay 5 rfl) (rfl) (rfl)

set_option maxHeartbeats 4000000 in
set_option maxRecDepth 100000 in
theorem c_Z_firstLocal {l : Launch} {E : tk_E} {M : tk_M} {z n i : Nat} {x : Int32} (hz : z < 4) (hn1 : 1 ≤ n) (hn9 : n ≤ 9) (hn : M.1 (zN z) 3 = nI n) (hi : i < n) (h0 : M.1 (zN z + 1) 0 = 0) : tk_Mt l y_Z_firstLocal b_Z_firstLocal 4 (some .int) 1 E [.ref (E.1 + zN z), .int (nI i), .int x] M M (some (.int (z_fl M z i x))) := by
  refine tk_ofV (by decide +kernel) [some (.ref (E.1 + zN z)), some (.int (nI i)), some (.int x), none] rfl (Nat.le_of_ble_eq_true rfl) ?_
  intro p e s m args below meth c cx hB
  refine v_aload_n cx (tk_dc d_Z_firstLocal 0 rfl) rfl ?_
  refine v_getC cx (zN _ + 1) (tk_dc d_Z_firstLocal 1 rfl) f_Z_9 (o_Z (by assumption)) (by decide) (by rfl) ?_
  refine v_iload_n cx (tk_dc d_Z_firstLocal 2 rfl) rfl ?_
  refine w_iald cx (tk_dc d_Z_firstLocal 3 rfl) (o_Z1 hz) i (rfl) (by omega) (by decide) ?_
  refine v_istore_n (lo' := [_, _, _, _]) cx (tk_dc d_Z_firstLocal 4 rfl) (by decide) rfl ?_
  refine v_iload_n cx (tk_dc d_Z_firstLocal 5 rfl) rfl ?_
  refine v_iload_n cx (tk_dc d_Z_firstLocal 6 rfl) rfl ?_
  refine v_icmp_gt cx (tk_dc d_Z_firstLocal 7 rfl) 16 (by decide) (fun h9 => ?_) (fun h9 => ?_)
  · refine v_iload_n cx (tk_dc d_Z_firstLocal 10 rfl) rfl ?_
    refine v_aload_n cx (tk_dc d_Z_firstLocal 11 rfl) rfl ?_
    refine v_getC cx (zN _ + 2) (tk_dc d_Z_firstLocal 12 rfl) f_Z_15 (o_Z (by assumption)) (by decide) (by rfl) ?_
    refine v_iload_n cx (tk_dc d_Z_firstLocal 13 rfl) rfl ?_
    refine w_iald cx (tk_dc d_Z_firstLocal 14 rfl) (o_Z2 hz) i (rfl) (by omega) (by decide) ?_
    refine v_iadd cx (tk_dc d_Z_firstLocal 15 rfl) ?_
    exact v_iret cx hB (tk_dc d_Z_firstLocal 16 rfl) (by simp [z_fl, h9, Int32.not_le.mpr h9]) (rfl)
  · refine v_iload_n cx (tk_dc d_Z_firstLocal 8 rfl) rfl ?_
    refine v_if_ne cx (tk_dc d_Z_firstLocal 9 rfl) 25 (by decide) (fun h13 => ?_) (fun h13 => ?_)
    · have i1 : 1 ≤ i := by rcases Nat.eq_zero_or_pos i with z0 | z0; (exact absurd (z0 ▸ h0) h13); exact z0
      refine v_iload_n cx (tk_dc d_Z_firstLocal 17 rfl) rfl ?_
      refine v_aload_n cx (tk_dc d_Z_firstLocal 18 rfl) rfl ?_
      refine v_getC cx (zN _ + 2) (tk_dc d_Z_firstLocal 19 rfl) f_Z_15 (o_Z (by assumption)) (by decide) (by rfl) ?_
      refine v_iload_n cx (tk_dc d_Z_firstLocal 20 rfl) rfl ?_
      refine v_iconst cx (tk_dc d_Z_firstLocal 21 rfl) (1) (by decide) ?_
      refine v_isub cx (tk_dc d_Z_firstLocal 22 rfl) ?_
      refine w_iald cx (tk_dc d_Z_firstLocal 23 rfl) (o_Z2 hz) (i - 1) (nI_sub1 i1) (by omega) (by decide) ?_
      refine v_aload_n cx (tk_dc d_Z_firstLocal 24 rfl) rfl ?_
      refine v_getC cx (zN _ + 2) (tk_dc d_Z_firstLocal 25 rfl) f_Z_15 (o_Z (by assumption)) (by decide) (by rfl) ?_
      refine v_iload_n cx (tk_dc d_Z_firstLocal 26 rfl) rfl ?_
      refine w_iald cx (tk_dc d_Z_firstLocal 27 rfl) (o_Z2 hz) i (rfl) (by omega) (by decide) ?_
      refine v_callS (rest := _) cx (tk_dc d_Z_firstLocal 28 rfl) m_Z_48 ks_Q_min k_Q_min (c_Q_min) rfl rfl (Nat.le_of_ble_eq_true rfl) (by decide) ?_
      refine v_iadd cx (tk_dc d_Z_firstLocal 29 rfl) ?_
      exact v_iret cx hB (tk_dc d_Z_firstLocal 30 rfl) (by simp [z_fl, h9, Int32.not_lt.mp h9, h13]) (rfl)
    · refine v_iload_n cx (tk_dc d_Z_firstLocal 10 rfl) rfl ?_
      refine v_aload_n cx (tk_dc d_Z_firstLocal 11 rfl) rfl ?_
      refine v_getC cx (zN _ + 2) (tk_dc d_Z_firstLocal 12 rfl) f_Z_15 (o_Z (by assumption)) (by decide) (by rfl) ?_
      refine v_iload_n cx (tk_dc d_Z_firstLocal 13 rfl) rfl ?_
      refine w_iald cx (tk_dc d_Z_firstLocal 14 rfl) (o_Z2 hz) i (rfl) (by omega) (by decide) ?_
      refine v_iadd cx (tk_dc d_Z_firstLocal 15 rfl) ?_
      exact v_iret cx hB (tk_dc d_Z_firstLocal 16 rfl) (by simp [z_fl, h9, Int32.not_lt.mp h9, h13]) (rfl)

set_option maxHeartbeats 4000000 in
set_option maxRecDepth 100000 in
theorem c_Z_hadUpTo {l : Launch} {E : tk_E} {M : tk_M} {z n i : Nat} {x : Int32} (hz : z < 4) (hn1 : 1 ≤ n) (hn9 : n ≤ 9) (hn : M.1 (zN z) 3 = nI n) (hi : i < n) : tk_Mt l y_Z_hadUpTo b_Z_hadUpTo 5 (some .int) 1 E [.ref (E.1 + zN z), .int (nI i), .int x] M M (some (.int (z_had M z n x i 0))) := by
  refine tk_ofV (by decide +kernel) [some (.ref (E.1 + zN z)), some (.int (nI i)), some (.int x), none, none] rfl (Nat.le_of_ble_eq_true rfl) ?_
  intro p e s m args below meth c cx hB
  have loop : ∀ (d k : Nat) (w : Option Value), k + d = i → z_had M z n x d k = z_had M z n x i 0 → tk_V p l e (tk_rm 1 0 0) s m args below meth c (MQ below (tk_Q E 209 (tk_ct E M) (some (.int (z_had M z n x i 0)))) args s 0 0 (tk_A E)) E 5 209 (tk_ct E M) 0 0 2 [some (.ref (E.1 + zN z)), some (.int (nI i)), some (.int x), some (.int (nI k)), w] [] := by
    intro d
    induction d with
    | zero =>
      intro k w hk hf
      obtain rfl : k = i := by omega
      refine v_iload_n cx (tk_dc d_Z_hadUpTo 2 rfl) rfl ?_
      refine v_iload_n cx (tk_dc d_Z_hadUpTo 3 rfl) rfl ?_
      refine v_icmp_ge cx (tk_dc d_Z_hadUpTo 4 rfl) 53 (by decide) (fun _ => ?_) (fun h => absurd (Int32.le_refl _) h)
      refine v_iload_n cx (tk_dc d_Z_hadUpTo 32 rfl) rfl ?_
      refine v_iconst cx (tk_dc d_Z_hadUpTo 33 rfl) (1) (by decide) ?_
      refine v_isub cx (tk_dc d_Z_hadUpTo 34 rfl) ?_
      exact v_iret cx hB (tk_dc d_Z_hadUpTo 35 rfl) (by rw [← hf]; rfl) (rfl)
    | succ d ih =>
      intro k w hk hf
      have hk9 : k < 9 := by omega
      refine v_iload_n cx (tk_dc d_Z_hadUpTo 2 rfl) rfl ?_
      refine v_iload_n cx (tk_dc d_Z_hadUpTo 3 rfl) rfl ?_
      refine v_icmp_ge cx (tk_dc d_Z_hadUpTo 4 rfl) 53 (by decide) (fun h => absurd h (nI_ge (by omega) (by omega))) (fun _ => ?_)
      refine v_aload_n cx (tk_dc d_Z_hadUpTo 5 rfl) rfl ?_
      refine v_iload_n cx (tk_dc d_Z_hadUpTo 6 rfl) rfl ?_
      refine v_callV (rest := _) cx (tk_dc d_Z_hadUpTo 7 rfl) m_Z_51 kn_Z_endOf kv_Z_endOf k_Z_endOf (o_Z (by assumption)) (by decide) rfl (c_Z_endOf hz hn1 hn9 hn (by omega)) rfl rfl (Nat.le_of_ble_eq_true rfl) (by decide) ?_
      refine v_aload_n cx (tk_dc d_Z_hadUpTo 8 rfl) rfl ?_
      refine v_getC cx (zN _ + 2) (tk_dc d_Z_hadUpTo 9 rfl) f_Z_15 (o_Z (by assumption)) (by decide) (by rfl) ?_
      refine v_iload_n cx (tk_dc d_Z_hadUpTo 10 rfl) rfl ?_
      refine w_iald cx (tk_dc d_Z_hadUpTo 11 rfl) (o_Z2 hz) k (rfl) (by omega) (by decide) ?_
      refine v_iadd cx (tk_dc d_Z_hadUpTo 12 rfl) ?_
      refine v_istore (lo' := [_, _, _, _, _]) cx (tk_dc d_Z_hadUpTo 13 rfl) (by decide) rfl ?_
      refine v_aload_n cx (tk_dc d_Z_hadUpTo 14 rfl) rfl ?_
      refine v_getC cx (zN _ + 1) (tk_dc d_Z_hadUpTo 15 rfl) f_Z_9 (o_Z (by assumption)) (by decide) (by rfl) ?_
      refine v_iload_n cx (tk_dc d_Z_hadUpTo 16 rfl) rfl ?_
      refine w_iald cx (tk_dc d_Z_hadUpTo 17 rfl) (o_Z1 hz) k (rfl) (by omega) (by decide) ?_
      refine v_aload_n cx (tk_dc d_Z_hadUpTo 18 rfl) rfl ?_
      refine v_getC cx (zN _ + 2) (tk_dc d_Z_hadUpTo 19 rfl) f_Z_15 (o_Z (by assumption)) (by decide) (by rfl) ?_
      refine v_iload_n cx (tk_dc d_Z_hadUpTo 20 rfl) rfl ?_
      refine w_iald cx (tk_dc d_Z_hadUpTo 21 rfl) (o_Z2 hz) k (rfl) (by omega) (by decide) ?_
      refine v_iadd cx (tk_dc d_Z_hadUpTo 22 rfl) ?_
      refine v_iload_n cx (tk_dc d_Z_hadUpTo 23 rfl) rfl ?_
      refine v_icmp_gt cx (tk_dc d_Z_hadUpTo 24 rfl) 47 (by decide) (fun h35 => ?_) (fun h35 => ?_)
      · refine v_iinc (lo' := [_, _, _, _, _]) cx (tk_dc d_Z_hadUpTo 30 rfl) rfl (nI (k + 1)) ((nI_succ k).symm) (by decide) rfl ?_
        refine v_goto cx (tk_dc d_Z_hadUpTo 31 rfl) 2 (by decide) ?_
        exact ih (k + 1) _ (by omega) (by rw [← hf, z_had, if_neg (by intro z; first | exact absurd z.1 (Int32.not_le.mpr h35) | exact absurd z.2 (Int32.not_le.mpr h41))])
      · refine v_iload_n cx (tk_dc d_Z_hadUpTo 25 rfl) rfl ?_
        refine v_iload cx (tk_dc d_Z_hadUpTo 26 rfl) rfl ?_
        refine v_icmp_gt cx (tk_dc d_Z_hadUpTo 27 rfl) 47 (by decide) (fun h41 => ?_) (fun h41 => ?_)
        · refine v_iinc (lo' := [_, _, _, _, _]) cx (tk_dc d_Z_hadUpTo 30 rfl) rfl (nI (k + 1)) ((nI_succ k).symm) (by decide) rfl ?_
          refine v_goto cx (tk_dc d_Z_hadUpTo 31 rfl) 2 (by decide) ?_
          exact ih (k + 1) _ (by omega) (by rw [← hf, z_had, if_neg (by intro z; first | exact absurd z.1 (Int32.not_le.mpr h35) | exact absurd z.2 (Int32.not_le.mpr h41))])
        · refine v_iload cx (tk_dc d_Z_hadUpTo 28 rfl) rfl ?_
          exact v_iret cx hB (tk_dc d_Z_hadUpTo 29 rfl) (by rw [← hf, z_had, if_pos ⟨Int32.not_lt.mp h35, Int32.not_lt.mp h41⟩]) (rfl)
  refine v_iconst cx (tk_dc d_Z_hadUpTo 0 rfl) (0) (by decide) ?_
  refine v_istore_n (lo' := [_, _, _, _, _]) cx (tk_dc d_Z_hadUpTo 1 rfl) (by decide) rfl ?_
  exact loop i 0 _ (by omega) rfl
