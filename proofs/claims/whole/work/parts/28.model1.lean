/-! the other side: small ones, and its calendar -/
def bt (x : Int32) (i : Nat) : Bool := x.toBitVec.getLsbD i
theorem b_ext {x y : Int32} (h : ∀ i, i < 32 → bt x i = bt y i) : x = y := Int32.toBitVec_inj.mp (BitVec.eq_of_getLsbD_eq (fun i hi => h i hi))
theorem b_and (x y : Int32) (i : Nat) : bt (x &&& y) i = (bt x i && bt y i) := by unfold bt; rw [Int32.toBitVec_and, BitVec.getLsbD_and]
theorem b_sshr (n : Nat) (hn : n < 32) (x : Int32) {i : Nat} (hi : i < 32) : bt (x >>> (nI n &&& 31)) i = if n + i < 32 then bt x (n + i) else bt x 31 := by
  unfold bt
  rw [Int32.toBitVec_shiftRight]
  show (x.toBitVec.sshiftRight ((nI n &&& 31).toBitVec.smod 32).toNat).getLsbD i = _
  rw [s_l n hn, BitVec.getLsbD_sshiftRight, BitVec.msb_eq_getLsbD_last]
  simp [hi]
theorem bt_1 : ∀ i, i < 32 → bt 1 i = decide (i = 0) := by decide +kernel
theorem bt_b01 (b : Bool) : ∀ i, i < 32 → bt (b01 b) i = (decide (i = 0) && b) := by
  cases b <;> decide +kernel
/-- one bit -/
theorem bt_is (x : Int32) {k : Nat} (hk : k < 32) : (x >>> (nI k &&& 31)) &&& 1 = b01 (bt x k) := by
  apply b_ext
  intro i hi
  rw [b_and, bt_1 i hi, bt_b01 _ i hi, b_sshr k hk x hi]
  by_cases h : i = 0
  · subst h
    simp [hk]
  · simp [h]
theorem bt_0 (x : Int32) : x &&& 1 = b01 (bt x 0) := by
  apply b_ext
  intro i hi
  rw [b_and, bt_1 i hi, bt_b01 _ i hi]
  by_cases h : i = 0
  · subst h
    simp
  · simp [h]
theorem b01_1 (b : Bool) : b01 b = 1 ↔ b = true := by cases b <;> simp [b01]
theorem wI_wI (M : tk_M) (i k : Nat) (a b : Int32) : wI (wI M i k a) i k b = wI M i k b := by
  unfold wI
  congr 1
  funext x y
  by_cases h : x = i ∧ y = k
  · simp [h]
  · simp only [if_neg h]
theorem i_mod {a b : Int} (h1 : -1000000000 < a) (h2 : a < 1000000000) (h3 : 0 < b) (h4 : b < 100000) : (iI a - iI a / iI b * iI b + iI b) - (iI a - iI a / iI b * iI b + iI b) / iI b * iI b = iI (a % b) := by
  have hb := tmod_bounds (a := a) h3
  rw [iI_rem (by omega) (by omega) h3 (by omega), iI_add, iI_remN (by omega) (by omega) h3 (by omega)]
  congr 1
  have e1 := Int.tmod_add_mul_tdiv a b
  rw [show a.tmod b + b = a + b * (1 - a.tdiv b) by rw [Int.mul_sub]; omega, Int.add_mul_emod_self_left]
def m_hol (M : tk_M) (z h : Nat) (x : Int32) : Bool := anyN (fun i => decide (M.1 176 (16 * z + i) = x)) h
def m_exc (M : tk_M) (j n : Nat) (x : Int32) : Bool := anyN (fun i => decide (M.1 188 (8 * j + i) = x)) n
def leapN (y : Nat) : Bool := decide (y % 4 = 0) && (!decide (y % 100 = 0) || decide (y % 400 = 0))
def daysN (m y : Nat) : Nat := if m = 2 then (if leapN y = true then 29 else 28) else if m = 4 ∨ m = 6 ∨ m = 9 ∨ m = 11 then 30 else 31
set_option maxHeartbeats 4000000 in
set_option maxRecDepth 100000 in
theorem c_M_modulo {l : Launch} {E : tk_E} {M : tk_M} {a b : Int} (h1 : -1000000000 < a) (h2 : a < 1000000000) (h3 : 0 < b) (h4 : b < 100000) : tk_Mt l y_M_modulo b_M_modulo 2 (some .int) 0 E [.int (iI a), .int (iI b)] M M (some (.int (iI (a % b)))) := by
  refine tk_ofV (by decide +kernel) [some (.int (iI a)), some (.int (iI b))] rfl (Nat.le_of_ble_eq_true rfl) ?_
  intro p e s m args below meth c cx hB
  refine v_iload_n cx (tk_dc d_M_modulo 0 rfl) rfl ?_
  refine v_iload_n cx (tk_dc d_M_modulo 1 rfl) rfl ?_
  refine v_irem cx (tk_dc d_M_modulo 2 rfl) (fun w => absurd ((iI_eq (b := 0) (by omega) (by omega) (by omega) (by omega)).mp w) (by omega)) ?_
  refine v_iload_n cx (tk_dc d_M_modulo 3 rfl) rfl ?_
  refine v_iadd cx (tk_dc d_M_modulo 4 rfl) ?_
  refine v_iload_n cx (tk_dc d_M_modulo 5 rfl) rfl ?_
  refine v_irem cx (tk_dc d_M_modulo 6 rfl) (fun w => absurd ((iI_eq (b := 0) (by omega) (by omega) (by omega) (by omega)).mp w) (by omega)) ?_
  exact v_iret cx hB (tk_dc d_M_modulo 7 rfl) (i_mod h1 h2 h3 h4) (rfl)

set_option maxHeartbeats 4000000 in
set_option maxRecDepth 100000 in
theorem c_M_parts {l : Launch} {E : tk_E} {M : tk_M} {a b : Int} (h1 : -1000000000 < a) (h2 : a < 1000000000) (h3 : 0 < b) (h4 : b < 100000) : tk_Mt l y_M_parts b_M_parts 2 (some .int) 1 E [.int (iI a), .int (iI b)] M M (some (.int (iI (a / b)))) := by
  refine tk_ofV (by decide +kernel) [some (.int (iI a)), some (.int (iI b))] rfl (Nat.le_of_ble_eq_true rfl) ?_
  intro p e s m args below meth c cx hB
  refine v_iload_n cx (tk_dc d_M_parts 0 rfl) rfl ?_
  refine v_iload_n cx (tk_dc d_M_parts 1 rfl) rfl ?_
  refine v_iload_n cx (tk_dc d_M_parts 2 rfl) rfl ?_
  refine v_callS (rest := _) cx (tk_dc d_M_parts 3 rfl) m_M_124 ks_M_modulo k_M_modulo (c_M_modulo h1 h2 h3 h4) rfl rfl (Nat.le_of_ble_eq_true rfl) (by decide) ?_
  refine v_isub cx (tk_dc d_M_parts 4 rfl) ?_
  refine v_iload_n cx (tk_dc d_M_parts 5 rfl) rfl ?_
  refine v_idiv cx (tk_dc d_M_parts 6 rfl) (fun w => absurd ((iI_eq (b := 0) (by omega) (by omega) (by omega) (by omega)).mp w) (by omega)) ?_
  exact v_iret cx hB (tk_dc d_M_parts 7 rfl) (by have e3 := Int.emod_add_mul_ediv a b; have e4 := Int.emod_nonneg a (show b ≠ 0 by omega); have e5 := Int.emod_lt_of_pos a h3; rw [iI_sub, iI_div (by omega) (by omega) h3 (by omega)]; congr 1; rw [show a - a % b = b * (a / b) by omega]; exact Int.mul_tdiv_cancel_left _ (by omega)) (rfl)

set_option maxHeartbeats 4000000 in
set_option maxRecDepth 100000 in
theorem c_M_weekday {l : Launch} {E : tk_E} {M : tk_M} {d : Int} (h1 : -1461 ≤ d) (h2 : d < 1000000) : tk_Mt l y_M_weekday b_M_weekday 1 (some .int) 0 E [.int (iI d)] M M (some (.int (iI ((d + 1461) % 7)))) := by
  refine tk_ofV (by decide +kernel) [some (.int (iI d))] rfl (Nat.le_of_ble_eq_true rfl) ?_
  intro p e s m args below meth c cx hB
  refine v_iload_n cx (tk_dc d_M_weekday 0 rfl) rfl ?_
  refine v_iconst cx (tk_dc d_M_weekday 1 rfl) (5) (by decide) ?_
  refine v_iadd cx (tk_dc d_M_weekday 2 rfl) ?_
  refine v_bipush cx (tk_dc d_M_weekday 3 rfl) (7) (by decide) ?_
  refine v_irem cx (tk_dc d_M_weekday 4 rfl) (by decide) ?_
  refine v_bipush cx (tk_dc d_M_weekday 5 rfl) (7) (by decide) ?_
  refine v_iadd cx (tk_dc d_M_weekday 6 rfl) ?_
  refine v_bipush cx (tk_dc d_M_weekday 7 rfl) (7) (by decide) ?_
  refine v_irem cx (tk_dc d_M_weekday 8 rfl) (by decide) ?_
  exact v_iret cx hB (tk_dc d_M_weekday 9 rfl) (by rw [show (5 : Int32) = iI 5 from rfl, show (7 : Int32) = iI 7 from rfl, iI_add, i_mod (by omega) (by omega) (by omega) (by omega)]; congr 1; omega) (rfl)

theorem o_Mx {i c N : Nat} (h : i < 36) (hk : i ≠ 5) (ht : tk_ml.getD i (10, 0) = (c, N)) : tk_O (173 + i) c N tk_k0 := by
  refine ⟨?_, by omega⟩
  unfold tk_sh
  rw [if_neg (by omega), if_neg (by omega), if_neg (by omega), if_neg (by omega), if_neg (by omega), if_neg (by omega), show 173 + i - 173 = i by omega, ht, if_neg (by omega)]
theorem a_173 : tk_O 173 10 32 tk_k0 := o_Mx (i := 0) (by decide) (by decide) rfl
theorem a_174 : tk_O 174 10 32 tk_k0 := o_Mx (i := 1) (by decide) (by decide) rfl
theorem a_175 : tk_O 175 10 4 tk_k0 := o_Mx (i := 2) (by decide) (by decide) rfl
theorem a_176 : tk_O 176 10 64 tk_k0 := o_Mx (i := 3) (by decide) (by decide) rfl
theorem a_177 : tk_O 177 10 4 tk_k0 := o_Mx (i := 4) (by decide) (by decide) rfl
theorem a_178 : tk_O 178 12 8 (fun _ => .inl 1) := ⟨rfl, by decide⟩
theorem a_179 : tk_O 179 10 8 tk_k0 := o_Mx (i := 6) (by decide) (by decide) rfl
theorem a_180 : tk_O 180 10 8 tk_k0 := o_Mx (i := 7) (by decide) (by decide) rfl
theorem a_181 : tk_O 181 10 8 tk_k0 := o_Mx (i := 8) (by decide) (by decide) rfl
theorem a_182 : tk_O 182 10 8 tk_k0 := o_Mx (i := 9) (by decide) (by decide) rfl
theorem a_183 : tk_O 183 10 8 tk_k0 := o_Mx (i := 10) (by decide) (by decide) rfl
theorem a_184 : tk_O 184 10 8 tk_k0 := o_Mx (i := 11) (by decide) (by decide) rfl
theorem a_185 : tk_O 185 10 8 tk_k0 := o_Mx (i := 12) (by decide) (by decide) rfl
theorem a_186 : tk_O 186 10 8 tk_k0 := o_Mx (i := 13) (by decide) (by decide) rfl
theorem a_187 : tk_O 187 10 8 tk_k0 := o_Mx (i := 14) (by decide) (by decide) rfl
theorem a_188 : tk_O 188 10 64 tk_k0 := o_Mx (i := 15) (by decide) (by decide) rfl
theorem a_189 : tk_O 189 10 8 tk_k0 := o_Mx (i := 16) (by decide) (by decide) rfl
theorem a_190 : tk_O 190 10 8 tk_k0 := o_Mx (i := 17) (by decide) (by decide) rfl
theorem a_191 : tk_O 191 11 8 tk_k0 := o_Mx (i := 18) (by decide) (by decide) rfl
theorem a_192 : tk_O 192 11 8 tk_k0 := o_Mx (i := 19) (by decide) (by decide) rfl
theorem a_193 : tk_O 193 11 3 tk_k0 := o_Mx (i := 20) (by decide) (by decide) rfl
theorem a_194 : tk_O 194 11 2 tk_k0 := o_Mx (i := 21) (by decide) (by decide) rfl
theorem a_195 : tk_O 195 10 24 tk_k0 := o_Mx (i := 22) (by decide) (by decide) rfl
theorem a_196 : tk_O 196 10 24 tk_k0 := o_Mx (i := 23) (by decide) (by decide) rfl
theorem a_197 : tk_O 197 10 24 tk_k0 := o_Mx (i := 24) (by decide) (by decide) rfl
theorem a_198 : tk_O 198 10 24 tk_k0 := o_Mx (i := 25) (by decide) (by decide) rfl
theorem a_199 : tk_O 199 10 24 tk_k0 := o_Mx (i := 26) (by decide) (by decide) rfl
theorem a_200 : tk_O 200 10 24 tk_k0 := o_Mx (i := 27) (by decide) (by decide) rfl
theorem a_201 : tk_O 201 10 24 tk_k0 := o_Mx (i := 28) (by decide) (by decide) rfl
theorem a_202 : tk_O 202 10 24 tk_k0 := o_Mx (i := 29) (by decide) (by decide) rfl
theorem a_203 : tk_O 203 10 24 tk_k0 := o_Mx (i := 30) (by decide) (by decide) rfl
theorem a_204 : tk_O 204 10 8 tk_k0 := o_Mx (i := 31) (by decide) (by decide) rfl
theorem a_205 : tk_O 205 10 8 tk_k0 := o_Mx (i := 32) (by decide) (by decide) rfl
theorem a_206 : tk_O 206 10 320 tk_k0 := o_Mx (i := 33) (by decide) (by decide) rfl
theorem a_207 : tk_O 207 10 320 tk_k0 := o_Mx (i := 34) (by decide) (by decide) rfl
theorem a_208 : tk_O 208 10 480 tk_k0 := o_Mx (i := 35) (by decide) (by decide) rfl
set_option maxHeartbeats 4000000 in
set_option maxRecDepth 100000 in
theorem c_M_isException {l : Launch} {E : tk_E} {M : tk_M} {j n : Nat} {x : Int32} (hj : j < 8) (hh : n ≤ 8) (hc : M.1 189 j = nI n) : tk_Mt l y_M_isException b_M_isException 5 (some .boolean) 0 E [.ref (E.1 + 172), .int (nI j), .int x] M M (some (.int (b01 (m_exc M j n x)))) := by
  refine tk_ofV (by decide +kernel) [some (.ref (E.1 + 172)), some (.int (nI j)), some (.int x), none, none] rfl (Nat.le_of_ble_eq_true rfl) ?_
  intro p e s m args below meth c cx hB
  have loop : ∀ (d k : Nat), k + d = n → tk_V p l e (tk_rm 0 0 0) s m args below meth c (MQ below (tk_Q E 209 (tk_ct E M) (some (.int (b01 (m_exc M j n x))))) args s 0 0 (tk_A E)) E 5 209 (tk_ct E M) 0 0 5 [some (.ref (E.1 + 172)), some (.int (nI j)), some (.int x), some (.int (b01 (m_exc M j k x))), some (.int (nI k))] [] := by
    intro d
    induction d with
    | zero =>
      intro k hk
      obtain rfl : k = n := by omega
      refine v_iload cx (tk_dc d_M_isException 4 rfl) rfl ?_
      refine v_aload_n cx (tk_dc d_M_isException 5 rfl) rfl ?_
      refine v_getC cx 189 (tk_dc d_M_isException 6 rfl) f_M_59 o_M (by decide) (by rfl) ?_
      refine v_iload_n cx (tk_dc d_M_isException 7 rfl) rfl ?_
      refine w_iald cx (tk_dc d_M_isException 8 rfl) a_189 j (rfl) (by omega) (by decide) ?_
      refine v_icmp_ge cx (tk_dc d_M_isException 9 rfl) 48 (by decide) (fun _ => ?_) (fun h => absurd (by rw [hc]; exact Int32.le_refl _) h)
      refine v_iload_n cx (tk_dc d_M_isException 28 rfl) rfl ?_
      exact v_zret cx hB (tk_dc d_M_isException 29 rfl) (b01_01 _) (rfl) (rfl)
    | succ d ih =>
      intro k hk
      have hs : m_exc M j (k + 1) x = (m_exc M j k x || decide (M.1 188 (8 * j + k) = x)) := rfl
      have ih2 := ih (k + 1) (by omega)
      rw [hs] at ih2
      refine v_iload cx (tk_dc d_M_isException 4 rfl) rfl ?_
      refine v_aload_n cx (tk_dc d_M_isException 5 rfl) rfl ?_
      refine v_getC cx 189 (tk_dc d_M_isException 6 rfl) f_M_59 o_M (by decide) (by rfl) ?_
      refine v_iload_n cx (tk_dc d_M_isException 7 rfl) rfl ?_
      refine w_iald cx (tk_dc d_M_isException 8 rfl) a_189 j (rfl) (by omega) (by decide) ?_
      refine v_icmp_ge cx (tk_dc d_M_isException 9 rfl) 48 (by decide) (fun h => absurd h (by rw [hc]; exact nI_ge (by omega) (by omega))) (fun _ => ?_)
      refine v_iload_n cx (tk_dc d_M_isException 10 rfl) rfl ?_
      refine v_if_ne cx (tk_dc d_M_isException 11 rfl) 36 (by decide) (fun h17 => ?_) (fun h17 => ?_)
      · have hb := b01_nz h17
        rw [hb] at ih2
        refine v_iconst cx (tk_dc d_M_isException 22 rfl) (1) (by decide) ?_
        refine v_goto cx (tk_dc d_M_isException 23 rfl) 41 (by decide) ?_
        refine v_istore_n (lo' := [_, _, _, _, _]) cx (tk_dc d_M_isException 25 rfl) (by decide) rfl ?_
        refine v_iinc (lo' := [_, _, _, _, _]) cx (tk_dc d_M_isException 26 rfl) rfl (nI (k + 1)) ((nI_succ k).symm) (by decide) rfl ?_
        refine v_goto cx (tk_dc d_M_isException 27 rfl) 5 (by decide) ?_
        exact ih2
      · have hb := b01_z h17
        rw [hb] at ih2
        refine v_aload_n cx (tk_dc d_M_isException 12 rfl) rfl ?_
        refine v_getC cx 188 (tk_dc d_M_isException 13 rfl) f_M_56 o_M (by decide) (by rfl) ?_
        refine v_bipush cx (tk_dc d_M_isException 14 rfl) (8) (by decide) ?_
        refine v_iload_n cx (tk_dc d_M_isException 15 rfl) rfl ?_
        refine v_imul cx (tk_dc d_M_isException 16 rfl) ?_
        refine v_iload cx (tk_dc d_M_isException 17 rfl) rfl ?_
        refine v_iadd cx (tk_dc d_M_isException 18 rfl) ?_
        refine w_iald cx (tk_dc d_M_isException 19 rfl) a_188 (8 * j + k) (by rw [show (8 : Int32) = nI 8 from rfl, pk_mul, nI_add]) (by omega) (by decide) ?_
        refine v_iload_n cx (tk_dc d_M_isException 20 rfl) rfl ?_
        refine v_icmp_ne cx (tk_dc d_M_isException 21 rfl) 40 (by decide) (fun h33 => ?_) (fun h33 => ?_)
        · rw [decide_eq_false h33] at ih2
          refine v_iconst cx (tk_dc d_M_isException 24 rfl) (0) (by decide) ?_
          refine v_istore_n (lo' := [_, _, _, _, _]) cx (tk_dc d_M_isException 25 rfl) (by decide) rfl ?_
          refine v_iinc (lo' := [_, _, _, _, _]) cx (tk_dc d_M_isException 26 rfl) rfl (nI (k + 1)) ((nI_succ k).symm) (by decide) rfl ?_
          refine v_goto cx (tk_dc d_M_isException 27 rfl) 5 (by decide) ?_
          exact ih2
        · rw [decide_eq_true h33] at ih2
          refine v_iconst cx (tk_dc d_M_isException 22 rfl) (1) (by decide) ?_
          refine v_goto cx (tk_dc d_M_isException 23 rfl) 41 (by decide) ?_
          refine v_istore_n (lo' := [_, _, _, _, _]) cx (tk_dc d_M_isException 25 rfl) (by decide) rfl ?_
          refine v_iinc (lo' := [_, _, _, _, _]) cx (tk_dc d_M_isException 26 rfl) rfl (nI (k + 1)) ((nI_succ k).symm) (by decide) rfl ?_
          refine v_goto cx (tk_dc d_M_isException 27 rfl) 5 (by decide) ?_
          exact ih2
  refine v_iconst cx (tk_dc d_M_isException 0 rfl) (0) (by decide) ?_
  refine v_istore_n (lo' := [_, _, _, _, _]) cx (tk_dc d_M_isException 1 rfl) (by decide) rfl ?_
  refine v_iconst cx (tk_dc d_M_isException 2 rfl) (0) (by decide) ?_
  refine v_istore (lo' := [_, _, _, _, _]) cx (tk_dc d_M_isException 3 rfl) (by decide) rfl ?_
  exact loop n 0 (by omega)

set_option maxHeartbeats 4000000 in
set_option maxRecDepth 100000 in
theorem c_M_isHoliday {l : Launch} {E : tk_E} {M : tk_M} {j n : Nat} {x : Int32} (hj : j < 4) (hh : n ≤ 16) (hc : M.1 177 j = nI n) : tk_Mt l y_M_isHoliday b_M_isHoliday 5 (some .boolean) 0 E [.ref (E.1 + 172), .int (nI j), .int x] M M (some (.int (b01 (m_hol M j n x)))) := by
  refine tk_ofV (by decide +kernel) [some (.ref (E.1 + 172)), some (.int (nI j)), some (.int x), none, none] rfl (Nat.le_of_ble_eq_true rfl) ?_
  intro p e s m args below meth c cx hB
  have loop : ∀ (d k : Nat), k + d = n → tk_V p l e (tk_rm 0 0 0) s m args below meth c (MQ below (tk_Q E 209 (tk_ct E M) (some (.int (b01 (m_hol M j n x))))) args s 0 0 (tk_A E)) E 5 209 (tk_ct E M) 0 0 5 [some (.ref (E.1 + 172)), some (.int (nI j)), some (.int x), some (.int (b01 (m_hol M j k x))), some (.int (nI k))] [] := by
    intro d
    induction d with
    | zero =>
      intro k hk
      obtain rfl : k = n := by omega
      refine v_iload cx (tk_dc d_M_isHoliday 4 rfl) rfl ?_
      refine v_aload_n cx (tk_dc d_M_isHoliday 5 rfl) rfl ?_
      refine v_getC cx 177 (tk_dc d_M_isHoliday 6 rfl) f_M_22 o_M (by decide) (by rfl) ?_
      refine v_iload_n cx (tk_dc d_M_isHoliday 7 rfl) rfl ?_
      refine w_iald cx (tk_dc d_M_isHoliday 8 rfl) a_177 j (rfl) (by omega) (by decide) ?_
      refine v_icmp_ge cx (tk_dc d_M_isHoliday 9 rfl) 48 (by decide) (fun _ => ?_) (fun h => absurd (by rw [hc]; exact Int32.le_refl _) h)
      refine v_iload_n cx (tk_dc d_M_isHoliday 28 rfl) rfl ?_
      exact v_zret cx hB (tk_dc d_M_isHoliday 29 rfl) (b01_01 _) (rfl) (rfl)
    | succ d ih =>
      intro k hk
      have hs : m_hol M j (k + 1) x = (m_hol M j k x || decide (M.1 176 (16 * j + k) = x)) := rfl
      have ih2 := ih (k + 1) (by omega)
      rw [hs] at ih2
      refine v_iload cx (tk_dc d_M_isHoliday 4 rfl) rfl ?_
      refine v_aload_n cx (tk_dc d_M_isHoliday 5 rfl) rfl ?_
      refine v_getC cx 177 (tk_dc d_M_isHoliday 6 rfl) f_M_22 o_M (by decide) (by rfl) ?_
      refine v_iload_n cx (tk_dc d_M_isHoliday 7 rfl) rfl ?_
      refine w_iald cx (tk_dc d_M_isHoliday 8 rfl) a_177 j (rfl) (by omega) (by decide) ?_
      refine v_icmp_ge cx (tk_dc d_M_isHoliday 9 rfl) 48 (by decide) (fun h => absurd h (by rw [hc]; exact nI_ge (by omega) (by omega))) (fun _ => ?_)
      refine v_iload_n cx (tk_dc d_M_isHoliday 10 rfl) rfl ?_
      refine v_if_ne cx (tk_dc d_M_isHoliday 11 rfl) 36 (by decide) (fun h17 => ?_) (fun h17 => ?_)
      · have hb := b01_nz h17
        rw [hb] at ih2
        refine v_iconst cx (tk_dc d_M_isHoliday 22 rfl) (1) (by decide) ?_
        refine v_goto cx (tk_dc d_M_isHoliday 23 rfl) 41 (by decide) ?_
        refine v_istore_n (lo' := [_, _, _, _, _]) cx (tk_dc d_M_isHoliday 25 rfl) (by decide) rfl ?_
        refine v_iinc (lo' := [_, _, _, _, _]) cx (tk_dc d_M_isHoliday 26 rfl) rfl (nI (k + 1)) ((nI_succ k).symm) (by decide) rfl ?_
        refine v_goto cx (tk_dc d_M_isHoliday 27 rfl) 5 (by decide) ?_
        exact ih2
      · have hb := b01_z h17
        rw [hb] at ih2
        refine v_aload_n cx (tk_dc d_M_isHoliday 12 rfl) rfl ?_
        refine v_getC cx 176 (tk_dc d_M_isHoliday 13 rfl) f_M_19 o_M (by decide) (by rfl) ?_
        refine v_bipush cx (tk_dc d_M_isHoliday 14 rfl) (16) (by decide) ?_
        refine v_iload_n cx (tk_dc d_M_isHoliday 15 rfl) rfl ?_
        refine v_imul cx (tk_dc d_M_isHoliday 16 rfl) ?_
        refine v_iload cx (tk_dc d_M_isHoliday 17 rfl) rfl ?_
        refine v_iadd cx (tk_dc d_M_isHoliday 18 rfl) ?_
        refine w_iald cx (tk_dc d_M_isHoliday 19 rfl) a_176 (16 * j + k) (by rw [show (16 : Int32) = nI 16 from rfl, pk_mul, nI_add]) (by omega) (by decide) ?_
        refine v_iload_n cx (tk_dc d_M_isHoliday 20 rfl) rfl ?_
        refine v_icmp_ne cx (tk_dc d_M_isHoliday 21 rfl) 40 (by decide) (fun h33 => ?_) (fun h33 => ?_)
        · rw [decide_eq_false h33] at ih2
          refine v_iconst cx (tk_dc d_M_isHoliday 24 rfl) (0) (by decide) ?_
          refine v_istore_n (lo' := [_, _, _, _, _]) cx (tk_dc d_M_isHoliday 25 rfl) (by decide) rfl ?_
          refine v_iinc (lo' := [_, _, _, _, _]) cx (tk_dc d_M_isHoliday 26 rfl) rfl (nI (k + 1)) ((nI_succ k).symm) (by decide) rfl ?_
          refine v_goto cx (tk_dc d_M_isHoliday 27 rfl) 5 (by decide) ?_
          exact ih2
        · rw [decide_eq_true h33] at ih2
          refine v_iconst cx (tk_dc d_M_isHoliday 22 rfl) (1) (by decide) ?_
          refine v_goto cx (tk_dc d_M_isHoliday 23 rfl) 41 (by decide) ?_
          refine v_istore_n (lo' := [_, _, _, _, _]) cx (tk_dc d_M_isHoliday 25 rfl) (by decide) rfl ?_
          refine v_iinc (lo' := [_, _, _, _, _]) cx (tk_dc d_M_isHoliday 26 rfl) rfl (nI (k + 1)) ((nI_succ k).symm) (by decide) rfl ?_
          refine v_goto cx (tk_dc d_M_isHoliday 27 rfl) 5 (by decide) ?_
          exact ih2
  refine v_iconst cx (tk_dc d_M_isHoliday 0 rfl) (0) (by decide) ?_
  refine v_istore_n (lo' := [_, _, _, _, _]) cx (tk_dc d_M_isHoliday 1 rfl) (by decide) rfl ?_
  refine v_iconst cx (tk_dc d_M_isHoliday 2 rfl) (0) (by decide) ?_
  refine v_istore (lo' := [_, _, _, _, _]) cx (tk_dc d_M_isHoliday 3 rfl) (by decide) rfl ?_
  exact loop n 0 (by omega)

set_option maxHeartbeats 4000000 in
set_option maxRecDepth 100000 in
theorem c_M_isLeap {l : Launch} {E : tk_E} {M : tk_M} {y : Nat} (hy : y < 100000) : tk_Mt l y_M_isLeap b_M_isLeap 1 (some .boolean) 0 E [.int (nI y)] M M (some (.int (b01 (leapN y)))) := by
  refine tk_ofV (by decide +kernel) [some (.int (nI y))] rfl (Nat.le_of_ble_eq_true rfl) ?_
  intro p e s m args below meth c cx hB
  refine v_iload_n cx (tk_dc d_M_isLeap 0 rfl) rfl ?_
  refine v_iconst cx (tk_dc d_M_isLeap 1 rfl) (4) (by decide) ?_
  refine v_irem cx (tk_dc d_M_isLeap 2 rfl) (by decide) ?_
  refine v_eqi (nI (y % 4)) (by rw [show (4 : Int32) = nI 4 from rfl, pk_rem (by omega) (by decide) (by decide)]) ?_
  refine v_if_ne cx (tk_dc d_M_isLeap 3 rfl) 25 (by decide) (fun h3 => ?_) (fun h3 => ?_)
  · have g3 : ¬ y % 4 = 0 := fun w => h3 (by rw [w]; rfl)
    refine v_iconst cx (tk_dc d_M_isLeap 14 rfl) (0) (by decide) ?_
    exact v_zret cx hB (tk_dc d_M_isLeap 15 rfl) (by first | exact Or.inl rfl | exact Or.inr rfl | exact b01_01 _ | assumption) (by unfold leapN; simp [g3, b01]) (rfl)
  · have g3 :  y % 4 = 0 := nI_inj (b := 0) (by omega) (by decide) h3
    refine v_iload_n cx (tk_dc d_M_isLeap 4 rfl) rfl ?_
    refine v_bipush cx (tk_dc d_M_isLeap 5 rfl) (100) (by decide) ?_
    refine v_irem cx (tk_dc d_M_isLeap 6 rfl) (by decide) ?_
    refine v_eqi (nI (y % 100)) (by rw [show (100 : Int32) = nI 100 from rfl, pk_rem (by omega) (by decide) (by decide)]) ?_
    refine v_if_ne cx (tk_dc d_M_isLeap 7 rfl) 21 (by decide) (fun h10 => ?_) (fun h10 => ?_)
    · have g10 : ¬ y % 100 = 0 := fun w => h10 (by rw [w]; rfl)
      refine v_iconst cx (tk_dc d_M_isLeap 12 rfl) (1) (by decide) ?_
      refine v_goto cx (tk_dc d_M_isLeap 13 rfl) 26 (by decide) ?_
      exact v_zret cx hB (tk_dc d_M_isLeap 15 rfl) (by first | exact Or.inl rfl | exact Or.inr rfl | exact b01_01 _ | assumption) (by unfold leapN; simp [g3, g10, b01]) (rfl)
    · have g10 :  y % 100 = 0 := nI_inj (b := 0) (by omega) (by decide) h10
      refine v_iload_n cx (tk_dc d_M_isLeap 8 rfl) rfl ?_
      refine v_sipush cx (tk_dc d_M_isLeap 9 rfl) (400) (by decide) ?_
      refine v_irem cx (tk_dc d_M_isLeap 10 rfl) (by decide) ?_
      refine v_eqi (nI (y % 400)) (by rw [show (400 : Int32) = nI 400 from rfl, pk_rem (by omega) (by decide) (by decide)]) ?_
      refine v_if_ne cx (tk_dc d_M_isLeap 11 rfl) 25 (by decide) (fun h18 => ?_) (fun h18 => ?_)
      · have g18 : ¬ y % 400 = 0 := fun w => h18 (by rw [w]; rfl)
        refine v_iconst cx (tk_dc d_M_isLeap 14 rfl) (0) (by decide) ?_
        exact v_zret cx hB (tk_dc d_M_isLeap 15 rfl) (by first | exact Or.inl rfl | exact Or.inr rfl | exact b01_01 _ | assumption) (by unfold leapN; simp [g3, g10, g18, b01]) (rfl)
      · have g18 :  y % 400 = 0 := nI_inj (b := 0) (by omega) (by decide) h18
        refine v_iconst cx (tk_dc d_M_isLeap 12 rfl) (1) (by decide) ?_
        refine v_goto cx (tk_dc d_M_isLeap 13 rfl) 26 (by decide) ?_
        exact v_zret cx hB (tk_dc d_M_isLeap 15 rfl) (by first | exact Or.inl rfl | exact Or.inr rfl | exact b01_01 _ | assumption) (by unfold leapN; simp [g3, g10, g18, b01]) (rfl)

set_option maxHeartbeats 4000000 in
set_option maxRecDepth 100000 in
theorem c_M_daysOf {l : Launch} {E : tk_E} {M : tk_M} {mm y : Nat} (hm : mm < 100) (hy : y < 100000) : tk_Mt l y_M_daysOf b_M_daysOf 2 (some .int) 1 E [.int (nI mm), .int (nI y)] M M (some (.int (nI (daysN mm y)))) := by
  refine tk_ofV (by decide +kernel) [some (.int (nI mm)), some (.int (nI y))] rfl (Nat.le_of_ble_eq_true rfl) ?_
  intro p e s m args below meth c cx hB
  refine v_iload_n cx (tk_dc d_M_daysOf 0 rfl) rfl ?_
  refine v_iconst cx (tk_dc d_M_daysOf 1 rfl) (2) (by decide) ?_
  refine v_icmp_ne cx (tk_dc d_M_daysOf 2 rfl) 22 (by decide) (fun h2 => ?_) (fun h2 => ?_)
  · have g2 : ¬ mm = 2 := fun w => h2 (by rw [w]; rfl)
    refine v_iload_n cx (tk_dc d_M_daysOf 10 rfl) rfl ?_
    refine v_iconst cx (tk_dc d_M_daysOf 11 rfl) (4) (by decide) ?_
    refine v_icmp_eq cx (tk_dc d_M_daysOf 12 rfl) 45 (by decide) (fun h24 => ?_) (fun h24 => ?_)
    · have g24 : mm = 4 := nI_inj (by omega) (by decide) (show nI mm = nI 4 from h24)
      refine v_bipush cx (tk_dc d_M_daysOf 22 rfl) (30) (by decide) ?_
      refine v_goto cx (tk_dc d_M_daysOf 23 rfl) 52 (by decide) ?_
      exact v_iret cx hB (tk_dc d_M_daysOf 25 rfl) (by unfold daysN; simp [g2, g24]; rfl) (rfl)
    · have g24 : ¬ mm = 4 := fun w => h24 (by rw [w]; rfl)
      refine v_iload_n cx (tk_dc d_M_daysOf 13 rfl) rfl ?_
      refine v_bipush cx (tk_dc d_M_daysOf 14 rfl) (6) (by decide) ?_
      refine v_icmp_eq cx (tk_dc d_M_daysOf 15 rfl) 45 (by decide) (fun h30 => ?_) (fun h30 => ?_)
      · have g30 : mm = 6 := nI_inj (by omega) (by decide) (show nI mm = nI 6 from h30)
        refine v_bipush cx (tk_dc d_M_daysOf 22 rfl) (30) (by decide) ?_
        refine v_goto cx (tk_dc d_M_daysOf 23 rfl) 52 (by decide) ?_
        exact v_iret cx hB (tk_dc d_M_daysOf 25 rfl) (by unfold daysN; simp [g2, g24, g30]; rfl) (rfl)
      · have g30 : ¬ mm = 6 := fun w => h30 (by rw [w]; rfl)
        refine v_iload_n cx (tk_dc d_M_daysOf 16 rfl) rfl ?_
        refine v_bipush cx (tk_dc d_M_daysOf 17 rfl) (9) (by decide) ?_
        refine v_icmp_eq cx (tk_dc d_M_daysOf 18 rfl) 45 (by decide) (fun h36 => ?_) (fun h36 => ?_)
        · have g36 : mm = 9 := nI_inj (by omega) (by decide) (show nI mm = nI 9 from h36)
          refine v_bipush cx (tk_dc d_M_daysOf 22 rfl) (30) (by decide) ?_
          refine v_goto cx (tk_dc d_M_daysOf 23 rfl) 52 (by decide) ?_
          exact v_iret cx hB (tk_dc d_M_daysOf 25 rfl) (by unfold daysN; simp [g2, g24, g30, g36]; rfl) (rfl)
        · have g36 : ¬ mm = 9 := fun w => h36 (by rw [w]; rfl)
          refine v_iload_n cx (tk_dc d_M_daysOf 19 rfl) rfl ?_
          refine v_bipush cx (tk_dc d_M_daysOf 20 rfl) (11) (by decide) ?_
          refine v_icmp_ne cx (tk_dc d_M_daysOf 21 rfl) 50 (by decide) (fun h42 => ?_) (fun h42 => ?_)
          · have g42 : ¬ mm = 11 := fun w => h42 (by rw [w]; rfl)
            refine v_bipush cx (tk_dc d_M_daysOf 24 rfl) (31) (by decide) ?_
            exact v_iret cx hB (tk_dc d_M_daysOf 25 rfl) (by unfold daysN; simp [g2, g24, g30, g36, g42]; rfl) (rfl)
          · have g42 : mm = 11 := nI_inj (by omega) (by decide) (show nI mm = nI 11 from h42)
            refine v_bipush cx (tk_dc d_M_daysOf 22 rfl) (30) (by decide) ?_
            refine v_goto cx (tk_dc d_M_daysOf 23 rfl) 52 (by decide) ?_
            exact v_iret cx hB (tk_dc d_M_daysOf 25 rfl) (by unfold daysN; simp [g2, g24, g30, g36, g42]; rfl) (rfl)
  · have g2 : mm = 2 := nI_inj (by omega) (by decide) (show nI mm = nI 2 from h2)
    refine v_iload_n cx (tk_dc d_M_daysOf 3 rfl) rfl ?_
    refine v_callS (rest := _) cx (tk_dc d_M_daysOf 4 rfl) m_M_152 ks_M_isLeap k_M_isLeap (c_M_isLeap hy) rfl rfl (Nat.le_of_ble_eq_true rfl) (by decide) ?_
    refine v_if_eq cx (tk_dc d_M_daysOf 5 rfl) 17 (by decide) (fun h9 => ?_) (fun h9 => ?_)
    · have g9 := b01_z h9
      refine v_bipush cx (tk_dc d_M_daysOf 8 rfl) (28) (by decide) ?_
      refine v_goto cx (tk_dc d_M_daysOf 9 rfl) 52 (by decide) ?_
      exact v_iret cx hB (tk_dc d_M_daysOf 25 rfl) (by unfold daysN; simp [g2, g9]; rfl) (rfl)
    · have g9 := b01_nz h9
      refine v_bipush cx (tk_dc d_M_daysOf 6 rfl) (29) (by decide) ?_
      refine v_goto cx (tk_dc d_M_daysOf 7 rfl) 52 (by decide) ?_
      exact v_iret cx hB (tk_dc d_M_daysOf 25 rfl) (by unfold daysN; simp [g2, g9]; rfl) (rfl)
