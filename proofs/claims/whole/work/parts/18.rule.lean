/-! rules: as they are computed -/
theorem lgc0 (x y : Int64) : lg_cmp x y = 0 ↔ x = y := by
  unfold lg_cmp
  by_cases h1 : x > y
  · rw [if_pos h1]
    constructor
    · intro h; exact absurd h (by decide)
    · intro h; subst h; exact absurd h1 Int64.lt_irrefl
  · rw [if_neg h1]
    by_cases h2 : x = y
    · simp [h2]
    · rw [if_neg h2]
      constructor
      · intro h; exact absurd h (by decide)
      · intro h; exact absurd h h2
def u_msk (M : tk_M) (i : Nat) (x a b : Int32) : tk_M := if x < 0 then M else if nI 5 ≤ x then M else match x.toNatClampNeg with
  | 0 => wL M i 0 (((a &&& 1073741823).toInt64 <<< ((30 : Int32).toInt64 &&& 63)) ||| (b &&& 1073741823).toInt64)
  | 1 => wI M i 1 (b &&& 16777215)
  | 2 => wL M i 2 (b.toInt64 &&& 4294967295)
  | 3 => wI M i 3 (b &&& 8190)
  | _ => wI M i 4 (b &&& 127)
def u_nw (p n : Int32) : Int64 := 127 <<< ((if p = 6 then n - 6 else 7 * p - 6).toInt64 &&& 63)
def u_f1 (d : Int64) (n : Int32) : Int64 := d &&& ((1 <<< ((n + 1).toInt64 &&& 63)) - 2)
def u_f2 (d : Int64) (n : Int32) : Int64 := if d &&& 1 = 0 then u_f1 d n else u_f1 d n ||| (1 <<< (n.toInt64 &&& 63))
def u_f3 (d : Int64) (p n : Int32) : Int64 := if p = 0 then u_f2 d n else u_f2 d n &&& u_nw p n
def u_wk (w p q : Int32) : Int32 := if p = 0 then w else w &&& (1 <<< (q &&& 31))
def u_rot (w f : Int32) : Int32 := ((w >>> (f &&& 31)) ||| (w <<< ((7 - f) &&& 31))) &&& 127
def u_fit (M : tk_M) (i n : Nat) : Int64 := if (M.1 i 3 >>> (nI (n % 12 + 1) &&& 31)) &&& 1 = 0 then 0 else u_f3 (M.2.1 i 2) (M.1 i 6) (nI (mlen n)) &&& (((u_rot (u_wk (M.1 i 4) (M.1 i 6) (M.1 i 5)) (iI ((fday n + 1461) % 7))).toInt64 * 270549121) <<< ((1 : Int32).toInt64 &&& 63))
def u_low (x : Int64) : Int32 := bitc ((x &&& -x) - 1)
def u_rest (M : tk_M) (i q : Nat) : Int64 := ((M.2.1 i 0).toUInt64 >>> ((nI (q % 60)).toInt64.toUInt64 &&& Int64.toUInt64 63)).toInt64
def u_later (M : tk_M) (i q : Nat) : Int32 := M.1 i 1 >>> (nI (q / 60 + 1) &&& 31)
def u_min (M : tk_M) (i q : Nat) : Int32 := if ¬ ((M.1 i 1 >>> (nI (q / 60) &&& 31)) &&& 1 = 0) ∧ ¬ u_rest M i q = 0 then nI q + u_low (u_rest M i q) else if u_later M i q = 0 then 1440 else (nI (q / 60 + 1) + u_low (u_later M i q).toInt64) * 60 + u_low (M.2.1 i 0)
set_option maxHeartbeats 4000000 in
set_option maxRecDepth 100000 in
theorem c_U_changeMask {l : Launch} {E : tk_E} {M : tk_M} {j : Nat} {x a b : Int32} (hj : j < 8) : tk_Mt l y_U_changeMask b_U_changeMask 4 (some .boolean) 0 E [.ref (E.1 + (jN j + 1)), .int x, .int a, .int b] M (u_msk M (jN j + 1) x a b) (some (.int (if x < 0 then 0 else if nI 5 ≤ x then 0 else 1))) := by
  refine tk_ofV (by decide +kernel) [some (.ref (E.1 + (jN j + 1))), some (.int x), some (.int a), some (.int b)] rfl (Nat.le_of_ble_eq_true rfl) ?_
  intro p e s m args below meth c cx hB
  refine v_iload_n cx (tk_dc d_U_changeMask 0 rfl) rfl ?_
  rcases pk_ix x (n := 5) (by decide) with hsw | hsw | ⟨jsw, hj, hsw⟩
  · refine v_tout cx (tk_dc d_U_changeMask 1 rfl) 99 (Or.inl (tk_neg hsw)) (by decide) ?_
    refine v_iconst cx (tk_dc d_U_changeMask 46 rfl) (0) (by decide) ?_
    exact v_zret cx hB (tk_dc d_U_changeMask 47 rfl) (by first | exact Or.inl rfl | exact Or.inr rfl | exact b01_01 _ | assumption) (by first | rfl | (simp [hsw]) | (split <;> rfl)) (by first | rfl | (simp [u_msk, hsw]) | (unfold u_msk; split <;> rfl))
  · refine v_tout cx (tk_dc d_U_changeMask 1 rfl) 99 (Or.inr (tk_big hsw (by decide))) (by decide) ?_
    refine v_iconst cx (tk_dc d_U_changeMask 46 rfl) (0) (by decide) ?_
    exact v_zret cx hB (tk_dc d_U_changeMask 47 rfl) (by first | exact Or.inl rfl | exact Or.inr rfl | exact b01_01 _ | assumption) (by first | rfl | (simp [hsw]) | (split <;> rfl)) (by first | rfl | (simp [u_msk, hsw]) | (unfold u_msk; split <;> rfl))
  · rcases (show jsw = 0 ∨ jsw = 1 ∨ jsw = 2 ∨ jsw = 3 ∨ jsw = 4 by omega) with rfl | rfl | rfl | rfl | rfl <;> subst hsw
    · refine v_tin cx (tk_dc d_U_changeMask 1 rfl) 36 (by decide) (by decide) rfl (by decide) ?_
      refine v_aload_n cx (tk_dc d_U_changeMask 2 rfl) rfl ?_
      refine v_iload_n cx (tk_dc d_U_changeMask 3 rfl) rfl ?_
      refine v_ldc cx (tk_dc d_U_changeMask 4 rfl) c_U_36 ?_
      refine v_iand cx (tk_dc d_U_changeMask 5 rfl) ?_
      refine v_i2l cx (tk_dc d_U_changeMask 6 rfl) ?_
      refine v_bipush cx (tk_dc d_U_changeMask 7 rfl) (30) (by decide) ?_
      refine v_lshl cx (tk_dc d_U_changeMask 8 rfl) ?_
      refine v_iload_n cx (tk_dc d_U_changeMask 9 rfl) rfl ?_
      refine v_ldc cx (tk_dc d_U_changeMask 10 rfl) c_U_36 ?_
      refine v_iand cx (tk_dc d_U_changeMask 11 rfl) ?_
      refine v_i2l cx (tk_dc d_U_changeMask 12 rfl) ?_
      refine v_lor cx (tk_dc d_U_changeMask 13 rfl) ?_
      refine v_putL cx (tk_dc d_U_changeMask 14 rfl) f_U_9 (o_J1 (by assumption)) (by decide) (by rfl) ⟨rfl, rfl⟩ ?_
      refine v_iconst cx (tk_dc d_U_changeMask 15 rfl) (1) (by decide) ?_
      exact v_zret cx hB (tk_dc d_U_changeMask 16 rfl) (by first | exact Or.inl rfl | exact Or.inr rfl | exact b01_01 _ | assumption) (by first | rfl | (simp []) | (split <;> rfl)) (by first | rfl | (simp [u_msk, ]) | (unfold u_msk; split <;> rfl))
    · refine v_tin cx (tk_dc d_U_changeMask 1 rfl) 56 (by decide) (by decide) rfl (by decide) ?_
      refine v_aload_n cx (tk_dc d_U_changeMask 17 rfl) rfl ?_
      refine v_iload_n cx (tk_dc d_U_changeMask 18 rfl) rfl ?_
      refine v_ldc cx (tk_dc d_U_changeMask 19 rfl) c_U_37 ?_
      refine v_iand cx (tk_dc d_U_changeMask 20 rfl) ?_
      refine v_putI cx (tk_dc d_U_changeMask 21 rfl) f_U_15 (o_J1 (by assumption)) (by decide) (by rfl) ⟨rfl, rfl⟩ ?_
      refine v_iconst cx (tk_dc d_U_changeMask 22 rfl) (1) (by decide) ?_
      exact v_zret cx hB (tk_dc d_U_changeMask 23 rfl) (by first | exact Or.inl rfl | exact Or.inr rfl | exact b01_01 _ | assumption) (by first | rfl | (simp []) | (split <;> rfl)) (by first | rfl | (simp [u_msk, ]) | (unfold u_msk; split <;> rfl))
    · refine v_tin cx (tk_dc d_U_changeMask 1 rfl) 66 (by decide) (by decide) rfl (by decide) ?_
      refine v_aload_n cx (tk_dc d_U_changeMask 24 rfl) rfl ?_
      refine v_iload_n cx (tk_dc d_U_changeMask 25 rfl) rfl ?_
      refine v_i2l cx (tk_dc d_U_changeMask 26 rfl) ?_
      refine v_ldc2 cx (tk_dc d_U_changeMask 27 rfl) c_U_19 ?_
      refine v_land cx (tk_dc d_U_changeMask 28 rfl) ?_
      refine v_putL cx (tk_dc d_U_changeMask 29 rfl) f_U_21 (o_J1 (by assumption)) (by decide) (by rfl) ⟨rfl, rfl⟩ ?_
      refine v_iconst cx (tk_dc d_U_changeMask 30 rfl) (1) (by decide) ?_
      exact v_zret cx hB (tk_dc d_U_changeMask 31 rfl) (by first | exact Or.inl rfl | exact Or.inr rfl | exact b01_01 _ | assumption) (by first | rfl | (simp []) | (split <;> rfl)) (by first | rfl | (simp [u_msk, ]) | (unfold u_msk; split <;> rfl))
    · refine v_tin cx (tk_dc d_U_changeMask 1 rfl) 78 (by decide) (by decide) rfl (by decide) ?_
      refine v_aload_n cx (tk_dc d_U_changeMask 32 rfl) rfl ?_
      refine v_iload_n cx (tk_dc d_U_changeMask 33 rfl) rfl ?_
      refine v_sipush cx (tk_dc d_U_changeMask 34 rfl) (8190) (by decide) ?_
      refine v_iand cx (tk_dc d_U_changeMask 35 rfl) ?_
      refine v_putI cx (tk_dc d_U_changeMask 36 rfl) f_U_24 (o_J1 (by assumption)) (by decide) (by rfl) ⟨rfl, rfl⟩ ?_
      refine v_iconst cx (tk_dc d_U_changeMask 37 rfl) (1) (by decide) ?_
      exact v_zret cx hB (tk_dc d_U_changeMask 38 rfl) (by first | exact Or.inl rfl | exact Or.inr rfl | exact b01_01 _ | assumption) (by first | rfl | (simp []) | (split <;> rfl)) (by first | rfl | (simp [u_msk, ]) | (unfold u_msk; split <;> rfl))
    · refine v_tin cx (tk_dc d_U_changeMask 1 rfl) 89 (by decide) (by decide) rfl (by decide) ?_
      refine v_aload_n cx (tk_dc d_U_changeMask 39 rfl) rfl ?_
      refine v_iload_n cx (tk_dc d_U_changeMask 40 rfl) rfl ?_
      refine v_bipush cx (tk_dc d_U_changeMask 41 rfl) (127) (by decide) ?_
      refine v_iand cx (tk_dc d_U_changeMask 42 rfl) ?_
      refine v_putI cx (tk_dc d_U_changeMask 43 rfl) f_U_27 (o_J1 (by assumption)) (by decide) (by rfl) ⟨rfl, rfl⟩ ?_
      refine v_iconst cx (tk_dc d_U_changeMask 44 rfl) (1) (by decide) ?_
      exact v_zret cx hB (tk_dc d_U_changeMask 45 rfl) (by first | exact Or.inl rfl | exact Or.inr rfl | exact b01_01 _ | assumption) (by first | rfl | (simp []) | (split <;> rfl)) (by first | rfl | (simp [u_msk, ]) | (unfold u_msk; split <;> rfl))

set_option maxHeartbeats 4000000 in
set_option maxRecDepth 100000 in
theorem c_U_nthWeek {l : Launch} {E : tk_E} {M : tk_M} {j : Nat} {n : Int32} (hj : j < 8) : tk_Mt l y_U_nthWeek b_U_nthWeek 3 (some .long) 0 E [.ref (E.1 + (jN j + 1)), .int n] M M (some (.long (u_nw (M.1 (jN j + 1) 6) n))) := by
  refine tk_ofV (by decide +kernel) [some (.ref (E.1 + (jN j + 1))), some (.int n), none] rfl (Nat.le_of_ble_eq_true rfl) ?_
  intro p e s m args below meth c cx hB
  refine v_aload_n cx (tk_dc d_U_nthWeek 0 rfl) rfl ?_
  refine v_getI cx (tk_dc d_U_nthWeek 1 rfl) f_U_33 (o_J1 (by assumption)) (by decide) (by rfl) ?_
  refine v_bipush cx (tk_dc d_U_nthWeek 2 rfl) (6) (by decide) ?_
  refine v_icmp_ne cx (tk_dc d_U_nthWeek 3 rfl) 16 (by decide) (fun h6 => ?_) (fun h6 => ?_)
  · refine v_bipush cx (tk_dc d_U_nthWeek 8 rfl) (7) (by decide) ?_
    refine v_aload_n cx (tk_dc d_U_nthWeek 9 rfl) rfl ?_
    refine v_getI cx (tk_dc d_U_nthWeek 10 rfl) f_U_33 (o_J1 (by assumption)) (by decide) (by rfl) ?_
    refine v_imul cx (tk_dc d_U_nthWeek 11 rfl) ?_
    refine v_bipush cx (tk_dc d_U_nthWeek 12 rfl) (6) (by decide) ?_
    refine v_isub cx (tk_dc d_U_nthWeek 13 rfl) ?_
    refine v_istore_n (lo' := [_, _, _]) cx (tk_dc d_U_nthWeek 14 rfl) (by decide) rfl ?_
    refine v_ldc2 cx (tk_dc d_U_nthWeek 15 rfl) c_U_58 ?_
    refine v_iload_n cx (tk_dc d_U_nthWeek 16 rfl) rfl ?_
    refine v_lshl cx (tk_dc d_U_nthWeek 17 rfl) ?_
    exact v_lret cx hB (tk_dc d_U_nthWeek 18 rfl) (by simp [u_nw, h6]) (rfl)
  · refine v_iload_n cx (tk_dc d_U_nthWeek 4 rfl) rfl ?_
    refine v_bipush cx (tk_dc d_U_nthWeek 5 rfl) (6) (by decide) ?_
    refine v_isub cx (tk_dc d_U_nthWeek 6 rfl) ?_
    refine v_goto cx (tk_dc d_U_nthWeek 7 rfl) 26 (by decide) ?_
    refine v_istore_n (lo' := [_, _, _]) cx (tk_dc d_U_nthWeek 14 rfl) (by decide) rfl ?_
    refine v_ldc2 cx (tk_dc d_U_nthWeek 15 rfl) c_U_58 ?_
    refine v_iload_n cx (tk_dc d_U_nthWeek 16 rfl) rfl ?_
    refine v_lshl cx (tk_dc d_U_nthWeek 17 rfl) ?_
    exact v_lret cx hB (tk_dc d_U_nthWeek 18 rfl) (by simp [u_nw, h6]) (rfl)

set_option maxHeartbeats 4000000 in
set_option maxRecDepth 100000 in
theorem c_U_hasNoMinute {l : Launch} {E : tk_E} {M : tk_M} {j : Nat} (hj : j < 8) : tk_Mt l y_U_hasNoMinute b_U_hasNoMinute 1 (some .boolean) 0 E [.ref (E.1 + (jN j + 1))] M M (some (.int (b01 (decide (M.2.1 (jN j + 1) 0 = 0 ∨ M.1 (jN j + 1) 1 = 0))))) := by
  refine tk_ofV (by decide +kernel) [some (.ref (E.1 + (jN j + 1)))] rfl (Nat.le_of_ble_eq_true rfl) ?_
  intro p e s m args below meth c cx hB
  refine v_aload_n cx (tk_dc d_U_hasNoMinute 0 rfl) rfl ?_
  refine v_getL cx (tk_dc d_U_hasNoMinute 1 rfl) f_U_9 (o_J1 (by assumption)) (by decide) (by rfl) ?_
  refine v_lconst cx (tk_dc d_U_hasNoMinute 2 rfl) (0) (by decide) ?_
  refine v_lcmp cx (tk_dc d_U_hasNoMinute 3 rfl) ?_
  refine v_if_eq cx (tk_dc d_U_hasNoMinute 4 rfl) 16 (by decide) (fun h6 => ?_) (fun h6 => ?_)
  · refine v_iconst cx (tk_dc d_U_hasNoMinute 8 rfl) (1) (by decide) ?_
    refine v_goto cx (tk_dc d_U_hasNoMinute 9 rfl) 21 (by decide) ?_
    exact v_zret cx hB (tk_dc d_U_hasNoMinute 11 rfl) (by first | exact Or.inl rfl | exact Or.inr rfl | exact b01_01 _ | assumption) (by (try simp only [lgc0] at h6); simp [b01, h6]) (rfl)
  · refine v_aload_n cx (tk_dc d_U_hasNoMinute 5 rfl) rfl ?_
    refine v_getI cx (tk_dc d_U_hasNoMinute 6 rfl) f_U_15 (o_J1 (by assumption)) (by decide) (by rfl) ?_
    refine v_if_ne cx (tk_dc d_U_hasNoMinute 7 rfl) 20 (by decide) (fun h13 => ?_) (fun h13 => ?_)
    · refine v_iconst cx (tk_dc d_U_hasNoMinute 10 rfl) (0) (by decide) ?_
      exact v_zret cx hB (tk_dc d_U_hasNoMinute 11 rfl) (by first | exact Or.inl rfl | exact Or.inr rfl | exact b01_01 _ | assumption) (by (try simp only [lgc0] at h6 h13); simp [b01, h6, h13]) (rfl)
    · refine v_iconst cx (tk_dc d_U_hasNoMinute 8 rfl) (1) (by decide) ?_
      refine v_goto cx (tk_dc d_U_hasNoMinute 9 rfl) 21 (by decide) ?_
      exact v_zret cx hB (tk_dc d_U_hasNoMinute 11 rfl) (by first | exact Or.inl rfl | exact Or.inr rfl | exact b01_01 _ | assumption) (by (try simp only [lgc0] at h6 h13); simp [b01, h6, h13]) (rfl)

set_option maxHeartbeats 4000000 in
set_option maxRecDepth 100000 in
theorem c_U_lowestBit {l : Launch} {E : tk_E} {M : tk_M} {x : Int64}  : tk_Mt l y_U_lowestBit b_U_lowestBit 2 (some .int) 1 E [.long x] M M (some (.int (u_low x))) := by
  refine tk_ofV (by decide +kernel) [some (.long x), none] rfl (Nat.le_of_ble_eq_true rfl) ?_
  intro p e s m args below meth c cx hB
  refine v_lload_n cx (tk_dc d_U_lowestBit 0 rfl) rfl ?_
  refine v_lload_n cx (tk_dc d_U_lowestBit 1 rfl) rfl ?_
  refine v_lneg cx (tk_dc d_U_lowestBit 2 rfl) ?_
  refine v_land cx (tk_dc d_U_lowestBit 3 rfl) ?_
  refine v_lconst cx (tk_dc d_U_lowestBit 4 rfl) (1) (by decide) ?_
  refine v_lsub cx (tk_dc d_U_lowestBit 5 rfl) ?_
  refine v_callS (rest := _) cx (tk_dc d_U_lowestBit 6 rfl) m_U_64 ks_G_bitCount k_G_bitCount (c_G_bitCount) rfl rfl (Nat.le_of_ble_eq_true rfl) (by decide) ?_
  exact v_iret cx hB (tk_dc d_U_lowestBit 7 rfl) (rfl) (rfl)

set_option maxHeartbeats 4000000 in
set_option maxRecDepth 100000 in
theorem c_U_minuteOfDayFrom {l : Launch} {E : tk_E} {M : tk_M} {j : Nat} {q : Nat} (hj : j < 8) (hq : q < 1440) : tk_Mt l y_U_minuteOfDayFrom b_U_minuteOfDayFrom 6 (some .int) 2 E [.ref (E.1 + (jN j + 1)), .int (nI q)] M M (some (.int (u_min M (jN j + 1) q))) := by
  refine tk_ofV (by decide +kernel) [some (.ref (E.1 + (jN j + 1))), some (.int (nI q)), none, none, none, none] rfl (Nat.le_of_ble_eq_true rfl) ?_
  intro p e s m args below meth c cx hB
  refine v_iload_n cx (tk_dc d_U_minuteOfDayFrom 0 rfl) rfl ?_
  refine v_bipush cx (tk_dc d_U_minuteOfDayFrom 1 rfl) (60) (by decide) ?_
  refine v_idiv cx (tk_dc d_U_minuteOfDayFrom 2 rfl) (by decide) ?_
  refine v_eqi (nI (q / 60)) (by rw [show (60 : Int32) = nI 60 from rfl, pk_div (by omega) (by decide) (by decide)]) ?_
  refine v_istore_n (lo' := [_, _, _, _, _, _]) cx (tk_dc d_U_minuteOfDayFrom 3 rfl) (by decide) rfl ?_
  refine v_aload_n cx (tk_dc d_U_minuteOfDayFrom 4 rfl) rfl ?_
  refine v_getL cx (tk_dc d_U_minuteOfDayFrom 5 rfl) f_U_9 (o_J1 (by assumption)) (by decide) (by rfl) ?_
  refine v_iload_n cx (tk_dc d_U_minuteOfDayFrom 6 rfl) rfl ?_
  refine v_bipush cx (tk_dc d_U_minuteOfDayFrom 7 rfl) (60) (by decide) ?_
  refine v_irem cx (tk_dc d_U_minuteOfDayFrom 8 rfl) (by decide) ?_
  refine v_eqi (nI (q % 60)) (by rw [show (60 : Int32) = nI 60 from rfl, pk_rem (by omega) (by decide) (by decide)]) ?_
  refine v_lushr cx (tk_dc d_U_minuteOfDayFrom 9 rfl) ?_
  refine v_lstore_n (lo' := [_, _, _, _, _, _]) cx (tk_dc d_U_minuteOfDayFrom 10 rfl) (by decide) rfl ?_
  refine v_aload_n cx (tk_dc d_U_minuteOfDayFrom 11 rfl) rfl ?_
  refine v_getI cx (tk_dc d_U_minuteOfDayFrom 12 rfl) f_U_15 (o_J1 (by assumption)) (by decide) (by rfl) ?_
  refine v_iload_n cx (tk_dc d_U_minuteOfDayFrom 13 rfl) rfl ?_
  refine v_ishr cx (tk_dc d_U_minuteOfDayFrom 14 rfl) ?_
  refine v_iconst cx (tk_dc d_U_minuteOfDayFrom 15 rfl) (1) (by decide) ?_
  refine v_iand cx (tk_dc d_U_minuteOfDayFrom 16 rfl) ?_
  refine v_if_eq cx (tk_dc d_U_minuteOfDayFrom 17 rfl) 39 (by decide) (fun h23 => ?_) (fun h23 => ?_)
  · refine v_aload_n cx (tk_dc d_U_minuteOfDayFrom 27 rfl) rfl ?_
    refine v_getI cx (tk_dc d_U_minuteOfDayFrom 28 rfl) f_U_15 (o_J1 (by assumption)) (by decide) (by rfl) ?_
    refine v_iload_n cx (tk_dc d_U_minuteOfDayFrom 29 rfl) rfl ?_
    refine v_iconst cx (tk_dc d_U_minuteOfDayFrom 30 rfl) (1) (by decide) ?_
    refine v_iadd cx (tk_dc d_U_minuteOfDayFrom 31 rfl) ?_
    refine v_eqi (nI (q / 60 + 1)) (nI_succ _).symm ?_
    refine v_ishr cx (tk_dc d_U_minuteOfDayFrom 32 rfl) ?_
    refine v_istore (lo' := [_, _, _, _, _, _]) cx (tk_dc d_U_minuteOfDayFrom 33 rfl) (by decide) rfl ?_
    refine v_iload cx (tk_dc d_U_minuteOfDayFrom 34 rfl) rfl ?_
    refine v_if_ne cx (tk_dc d_U_minuteOfDayFrom 35 rfl) 58 (by decide) (fun h51 => ?_) (fun h51 => ?_)
    · refine v_iload_n cx (tk_dc d_U_minuteOfDayFrom 38 rfl) rfl ?_
      refine v_iconst cx (tk_dc d_U_minuteOfDayFrom 39 rfl) (1) (by decide) ?_
      refine v_iadd cx (tk_dc d_U_minuteOfDayFrom 40 rfl) ?_
      refine v_eqi (nI (q / 60 + 1)) (nI_succ _).symm ?_
      refine v_iload cx (tk_dc d_U_minuteOfDayFrom 41 rfl) rfl ?_
      refine v_i2l cx (tk_dc d_U_minuteOfDayFrom 42 rfl) ?_
      refine v_callS (rest := _) cx (tk_dc d_U_minuteOfDayFrom 43 rfl) m_U_60 ks_U_lowestBit k_U_lowestBit (c_U_lowestBit) rfl rfl (Nat.le_of_ble_eq_true rfl) (by decide) ?_
      refine v_iadd cx (tk_dc d_U_minuteOfDayFrom 44 rfl) ?_
      refine v_bipush cx (tk_dc d_U_minuteOfDayFrom 45 rfl) (60) (by decide) ?_
      refine v_imul cx (tk_dc d_U_minuteOfDayFrom 46 rfl) ?_
      refine v_aload_n cx (tk_dc d_U_minuteOfDayFrom 47 rfl) rfl ?_
      refine v_getL cx (tk_dc d_U_minuteOfDayFrom 48 rfl) f_U_9 (o_J1 (by assumption)) (by decide) (by rfl) ?_
      refine v_callS (rest := _) cx (tk_dc d_U_minuteOfDayFrom 49 rfl) m_U_60 ks_U_lowestBit k_U_lowestBit (c_U_lowestBit) rfl rfl (Nat.le_of_ble_eq_true rfl) (by decide) ?_
      refine v_iadd cx (tk_dc d_U_minuteOfDayFrom 50 rfl) ?_
      exact v_iret cx hB (tk_dc d_U_minuteOfDayFrom 51 rfl) (by (try simp only [lgc0] at h23 h51); simp [u_min, u_rest, u_later, h23, h51]) (rfl)
    · refine v_sipush cx (tk_dc d_U_minuteOfDayFrom 36 rfl) (1440) (by decide) ?_
      exact v_iret cx hB (tk_dc d_U_minuteOfDayFrom 37 rfl) (by (try simp only [lgc0] at h23 h51); simp [u_min, u_rest, u_later, h23, h51]) (rfl)
  · refine v_lload_n cx (tk_dc d_U_minuteOfDayFrom 18 rfl) rfl ?_
    refine v_lconst cx (tk_dc d_U_minuteOfDayFrom 19 rfl) (0) (by decide) ?_
    refine v_lcmp cx (tk_dc d_U_minuteOfDayFrom 20 rfl) ?_
    refine v_if_eq cx (tk_dc d_U_minuteOfDayFrom 21 rfl) 39 (by decide) (fun h29 => ?_) (fun h29 => ?_)
    · refine v_aload_n cx (tk_dc d_U_minuteOfDayFrom 27 rfl) rfl ?_
      refine v_getI cx (tk_dc d_U_minuteOfDayFrom 28 rfl) f_U_15 (o_J1 (by assumption)) (by decide) (by rfl) ?_
      refine v_iload_n cx (tk_dc d_U_minuteOfDayFrom 29 rfl) rfl ?_
      refine v_iconst cx (tk_dc d_U_minuteOfDayFrom 30 rfl) (1) (by decide) ?_
      refine v_iadd cx (tk_dc d_U_minuteOfDayFrom 31 rfl) ?_
      refine v_eqi (nI (q / 60 + 1)) (nI_succ _).symm ?_
      refine v_ishr cx (tk_dc d_U_minuteOfDayFrom 32 rfl) ?_
      refine v_istore (lo' := [_, _, _, _, _, _]) cx (tk_dc d_U_minuteOfDayFrom 33 rfl) (by decide) rfl ?_
      refine v_iload cx (tk_dc d_U_minuteOfDayFrom 34 rfl) rfl ?_
      refine v_if_ne cx (tk_dc d_U_minuteOfDayFrom 35 rfl) 58 (by decide) (fun h51 => ?_) (fun h51 => ?_)
      · refine v_iload_n cx (tk_dc d_U_minuteOfDayFrom 38 rfl) rfl ?_
        refine v_iconst cx (tk_dc d_U_minuteOfDayFrom 39 rfl) (1) (by decide) ?_
        refine v_iadd cx (tk_dc d_U_minuteOfDayFrom 40 rfl) ?_
        refine v_eqi (nI (q / 60 + 1)) (nI_succ _).symm ?_
        refine v_iload cx (tk_dc d_U_minuteOfDayFrom 41 rfl) rfl ?_
        refine v_i2l cx (tk_dc d_U_minuteOfDayFrom 42 rfl) ?_
        refine v_callS (rest := _) cx (tk_dc d_U_minuteOfDayFrom 43 rfl) m_U_60 ks_U_lowestBit k_U_lowestBit (c_U_lowestBit) rfl rfl (Nat.le_of_ble_eq_true rfl) (by decide) ?_
        refine v_iadd cx (tk_dc d_U_minuteOfDayFrom 44 rfl) ?_
        refine v_bipush cx (tk_dc d_U_minuteOfDayFrom 45 rfl) (60) (by decide) ?_
        refine v_imul cx (tk_dc d_U_minuteOfDayFrom 46 rfl) ?_
        refine v_aload_n cx (tk_dc d_U_minuteOfDayFrom 47 rfl) rfl ?_
        refine v_getL cx (tk_dc d_U_minuteOfDayFrom 48 rfl) f_U_9 (o_J1 (by assumption)) (by decide) (by rfl) ?_
        refine v_callS (rest := _) cx (tk_dc d_U_minuteOfDayFrom 49 rfl) m_U_60 ks_U_lowestBit k_U_lowestBit (c_U_lowestBit) rfl rfl (Nat.le_of_ble_eq_true rfl) (by decide) ?_
        refine v_iadd cx (tk_dc d_U_minuteOfDayFrom 50 rfl) ?_
        exact v_iret cx hB (tk_dc d_U_minuteOfDayFrom 51 rfl) (by (try simp only [lgc0] at h23 h29 h51); simp [u_min, u_rest, u_later, h23, h29, h51]) (rfl)
      · refine v_sipush cx (tk_dc d_U_minuteOfDayFrom 36 rfl) (1440) (by decide) ?_
        exact v_iret cx hB (tk_dc d_U_minuteOfDayFrom 37 rfl) (by (try simp only [lgc0] at h23 h29 h51); simp [u_min, u_rest, u_later, h23, h29, h51]) (rfl)
    · refine v_iload_n cx (tk_dc d_U_minuteOfDayFrom 22 rfl) rfl ?_
      refine v_lload_n cx (tk_dc d_U_minuteOfDayFrom 23 rfl) rfl ?_
      refine v_callS (rest := _) cx (tk_dc d_U_minuteOfDayFrom 24 rfl) m_U_60 ks_U_lowestBit k_U_lowestBit (c_U_lowestBit) rfl rfl (Nat.le_of_ble_eq_true rfl) (by decide) ?_
      refine v_iadd cx (tk_dc d_U_minuteOfDayFrom 25 rfl) ?_
      exact v_iret cx hB (tk_dc d_U_minuteOfDayFrom 26 rfl) (by (try simp only [lgc0] at h23 h29); simp [u_min, u_rest, u_later, h23, h29]) (rfl)

set_option maxHeartbeats 4000000 in
set_option maxRecDepth 100000 in
theorem c_U_fittingDays {l : Launch} {E : tk_E} {M : tk_M} {j : Nat} {n : Nat} (hj : j < 8) (hn : n < 10000) : tk_Mt l y_U_fittingDays b_U_fittingDays 8 (some .long) 1 E [.ref (E.1 + (jN j + 1)), .int (nI n)] M M (some (.long (u_fit M (jN j + 1) n))) := by
  refine tk_ofV (by decide +kernel) [some (.ref (E.1 + (jN j + 1))), some (.int (nI n)), none, none, none, none, none, none] rfl (Nat.le_of_ble_eq_true rfl) ?_
  intro p e s m args below meth c cx hB
  have hl0 : -1461 ≤ fday n ∧ fday n < 1000000 := by
    unfold fday
    have h99 := tk_sN_le (n % 48) (by omega)
    omega
  refine v_aload_n cx (tk_dc d_U_fittingDays 0 rfl) rfl ?_
  refine v_getI cx (tk_dc d_U_fittingDays 1 rfl) f_U_24 (o_J1 (by assumption)) (by decide) (by rfl) ?_
  refine v_iload_n cx (tk_dc d_U_fittingDays 2 rfl) rfl ?_
  refine v_bipush cx (tk_dc d_U_fittingDays 3 rfl) (12) (by decide) ?_
  refine v_irem cx (tk_dc d_U_fittingDays 4 rfl) (by decide) ?_
  refine v_eqi (nI (n % 12)) (by rw [show (12 : Int32) = nI 12 from rfl, pk_rem (by omega) (by decide) (by decide)]) ?_
  refine v_iconst cx (tk_dc d_U_fittingDays 5 rfl) (1) (by decide) ?_
  refine v_iadd cx (tk_dc d_U_fittingDays 6 rfl) ?_
  refine v_eqi (nI (n % 12 + 1)) (nI_succ _).symm ?_
  refine v_ishr cx (tk_dc d_U_fittingDays 7 rfl) ?_
  refine v_iconst cx (tk_dc d_U_fittingDays 8 rfl) (1) (by decide) ?_
  refine v_iand cx (tk_dc d_U_fittingDays 9 rfl) ?_
  refine v_if_ne cx (tk_dc d_U_fittingDays 10 rfl) 18 (by decide) (fun h13 => ?_) (fun h13 => ?_)
  · refine v_iload_n cx (tk_dc d_U_fittingDays 13 rfl) rfl ?_
    refine v_callS (rest := _) cx (tk_dc d_U_fittingDays 14 rfl) m_U_38 ks_O_lengthOf k_O_lengthOf (c_O_lengthOf (by omega)) rfl rfl (Nat.le_of_ble_eq_true rfl) (by decide) ?_
    refine v_istore_n (lo' := [_, _, _, _, _, _, _, _]) cx (tk_dc d_U_fittingDays 15 rfl) (by decide) rfl ?_
    refine v_aload_n cx (tk_dc d_U_fittingDays 16 rfl) rfl ?_
    refine v_getL cx (tk_dc d_U_fittingDays 17 rfl) f_U_21 (o_J1 (by assumption)) (by decide) (by rfl) ?_
    refine v_lconst cx (tk_dc d_U_fittingDays 18 rfl) (1) (by decide) ?_
    refine v_iload_n cx (tk_dc d_U_fittingDays 19 rfl) rfl ?_
    refine v_iconst cx (tk_dc d_U_fittingDays 20 rfl) (1) (by decide) ?_
    refine v_iadd cx (tk_dc d_U_fittingDays 21 rfl) ?_
    refine v_lshl cx (tk_dc d_U_fittingDays 22 rfl) ?_
    refine v_ldc2 cx (tk_dc d_U_fittingDays 23 rfl) c_U_44 ?_
    refine v_lsub cx (tk_dc d_U_fittingDays 24 rfl) ?_
    refine v_land cx (tk_dc d_U_fittingDays 25 rfl) ?_
    refine v_lstore_n (lo' := [_, _, _, _, _, _, _, _]) cx (tk_dc d_U_fittingDays 26 rfl) (by decide) rfl ?_
    refine v_aload_n cx (tk_dc d_U_fittingDays 27 rfl) rfl ?_
    refine v_getL cx (tk_dc d_U_fittingDays 28 rfl) f_U_21 (o_J1 (by assumption)) (by decide) (by rfl) ?_
    refine v_lconst cx (tk_dc d_U_fittingDays 29 rfl) (1) (by decide) ?_
    refine v_land cx (tk_dc d_U_fittingDays 30 rfl) ?_
    refine v_lconst cx (tk_dc d_U_fittingDays 31 rfl) (0) (by decide) ?_
    refine v_lcmp cx (tk_dc d_U_fittingDays 32 rfl) ?_
    refine v_if_eq cx (tk_dc d_U_fittingDays 33 rfl) 55 (by decide) (fun h46 => ?_) (fun h46 => ?_)
    · refine v_aload_n cx (tk_dc d_U_fittingDays 40 rfl) rfl ?_
      refine v_getI cx (tk_dc d_U_fittingDays 41 rfl) f_U_27 (o_J1 (by assumption)) (by decide) (by rfl) ?_
      refine v_istore (lo' := [_, _, _, _, _, _, _, _]) cx (tk_dc d_U_fittingDays 42 rfl) (by decide) rfl ?_
      refine v_aload_n cx (tk_dc d_U_fittingDays 43 rfl) rfl ?_
      refine v_getI cx (tk_dc d_U_fittingDays 44 rfl) f_U_33 (o_J1 (by assumption)) (by decide) (by rfl) ?_
      refine v_if_eq cx (tk_dc d_U_fittingDays 45 rfl) 87 (by decide) (fun h65 => ?_) (fun h65 => ?_)
      · refine v_iload_n cx (tk_dc d_U_fittingDays 59 rfl) rfl ?_
        refine v_callS (rest := _) cx (tk_dc d_U_fittingDays 60 rfl) m_U_50 ks_O_firstDayOf k_O_firstDayOf (c_O_firstDayOf (by omega)) rfl rfl (Nat.le_of_ble_eq_true rfl) (by decide) ?_
        refine v_callS (rest := _) cx (tk_dc d_U_fittingDays 61 rfl) m_U_53 ks_O_weekdayOf k_O_weekdayOf (c_O_weekdayOf hl0.1 hl0.2) rfl rfl (Nat.le_of_ble_eq_true rfl) (by decide) ?_
        refine v_istore (lo' := [_, _, _, _, _, _, _, _]) cx (tk_dc d_U_fittingDays 62 rfl) (by decide) rfl ?_
        refine v_iload cx (tk_dc d_U_fittingDays 63 rfl) rfl ?_
        refine v_iload cx (tk_dc d_U_fittingDays 64 rfl) rfl ?_
        refine v_ishr cx (tk_dc d_U_fittingDays 65 rfl) ?_
        refine v_iload cx (tk_dc d_U_fittingDays 66 rfl) rfl ?_
        refine v_bipush cx (tk_dc d_U_fittingDays 67 rfl) (7) (by decide) ?_
        refine v_iload cx (tk_dc d_U_fittingDays 68 rfl) rfl ?_
        refine v_isub cx (tk_dc d_U_fittingDays 69 rfl) ?_
        refine v_ishl cx (tk_dc d_U_fittingDays 70 rfl) ?_
        refine v_ior cx (tk_dc d_U_fittingDays 71 rfl) ?_
        refine v_bipush cx (tk_dc d_U_fittingDays 72 rfl) (127) (by decide) ?_
        refine v_iand cx (tk_dc d_U_fittingDays 73 rfl) ?_
        refine v_istore (lo' := [_, _, _, _, _, _, _, _]) cx (tk_dc d_U_fittingDays 74 rfl) (by decide) rfl ?_
        refine v_lload_n cx (tk_dc d_U_fittingDays 75 rfl) rfl ?_
        refine v_iload cx (tk_dc d_U_fittingDays 76 rfl) rfl ?_
        refine v_i2l cx (tk_dc d_U_fittingDays 77 rfl) ?_
        refine v_ldc2 cx (tk_dc d_U_fittingDays 78 rfl) c_U_56 ?_
        refine v_lmul cx (tk_dc d_U_fittingDays 79 rfl) ?_
        refine v_iconst cx (tk_dc d_U_fittingDays 80 rfl) (1) (by decide) ?_
        refine v_lshl cx (tk_dc d_U_fittingDays 81 rfl) ?_
        refine v_land cx (tk_dc d_U_fittingDays 82 rfl) ?_
        exact v_lret cx hB (tk_dc d_U_fittingDays 83 rfl) (by (try simp only [lgc0] at h13 h46 h65); simp [u_fit, u_f1, u_f2, u_f3, u_wk, u_rot, h13, h46, h65]) (rfl)
      · refine v_iload cx (tk_dc d_U_fittingDays 46 rfl) rfl ?_
        refine v_iconst cx (tk_dc d_U_fittingDays 47 rfl) (1) (by decide) ?_
        refine v_aload_n cx (tk_dc d_U_fittingDays 48 rfl) rfl ?_
        refine v_getI cx (tk_dc d_U_fittingDays 49 rfl) f_U_30 (o_J1 (by assumption)) (by decide) (by rfl) ?_
        refine v_ishl cx (tk_dc d_U_fittingDays 50 rfl) ?_
        refine v_iand cx (tk_dc d_U_fittingDays 51 rfl) ?_
        refine v_istore (lo' := [_, _, _, _, _, _, _, _]) cx (tk_dc d_U_fittingDays 52 rfl) (by decide) rfl ?_
        refine v_lload_n cx (tk_dc d_U_fittingDays 53 rfl) rfl ?_
        refine v_aload_n cx (tk_dc d_U_fittingDays 54 rfl) rfl ?_
        refine v_iload_n cx (tk_dc d_U_fittingDays 55 rfl) rfl ?_
        refine v_callV (rest := _) cx (tk_dc d_U_fittingDays 56 rfl) m_U_46 kn_U_nthWeek kv_U_nthWeek k_U_nthWeek (o_J1 hj) (by decide) rfl (c_U_nthWeek hj) rfl rfl (Nat.le_of_ble_eq_true rfl) (by decide) ?_
        refine v_land cx (tk_dc d_U_fittingDays 57 rfl) ?_
        refine v_lstore_n (lo' := [_, _, _, _, _, _, _, _]) cx (tk_dc d_U_fittingDays 58 rfl) (by decide) rfl ?_
        refine v_iload_n cx (tk_dc d_U_fittingDays 59 rfl) rfl ?_
        refine v_callS (rest := _) cx (tk_dc d_U_fittingDays 60 rfl) m_U_50 ks_O_firstDayOf k_O_firstDayOf (c_O_firstDayOf (by omega)) rfl rfl (Nat.le_of_ble_eq_true rfl) (by decide) ?_
        refine v_callS (rest := _) cx (tk_dc d_U_fittingDays 61 rfl) m_U_53 ks_O_weekdayOf k_O_weekdayOf (c_O_weekdayOf hl0.1 hl0.2) rfl rfl (Nat.le_of_ble_eq_true rfl) (by decide) ?_
        refine v_istore (lo' := [_, _, _, _, _, _, _, _]) cx (tk_dc d_U_fittingDays 62 rfl) (by decide) rfl ?_
        refine v_iload cx (tk_dc d_U_fittingDays 63 rfl) rfl ?_
        refine v_iload cx (tk_dc d_U_fittingDays 64 rfl) rfl ?_
        refine v_ishr cx (tk_dc d_U_fittingDays 65 rfl) ?_
        refine v_iload cx (tk_dc d_U_fittingDays 66 rfl) rfl ?_
        refine v_bipush cx (tk_dc d_U_fittingDays 67 rfl) (7) (by decide) ?_
        refine v_iload cx (tk_dc d_U_fittingDays 68 rfl) rfl ?_
        refine v_isub cx (tk_dc d_U_fittingDays 69 rfl) ?_
        refine v_ishl cx (tk_dc d_U_fittingDays 70 rfl) ?_
        refine v_ior cx (tk_dc d_U_fittingDays 71 rfl) ?_
        refine v_bipush cx (tk_dc d_U_fittingDays 72 rfl) (127) (by decide) ?_
        refine v_iand cx (tk_dc d_U_fittingDays 73 rfl) ?_
        refine v_istore (lo' := [_, _, _, _, _, _, _, _]) cx (tk_dc d_U_fittingDays 74 rfl) (by decide) rfl ?_
        refine v_lload_n cx (tk_dc d_U_fittingDays 75 rfl) rfl ?_
        refine v_iload cx (tk_dc d_U_fittingDays 76 rfl) rfl ?_
        refine v_i2l cx (tk_dc d_U_fittingDays 77 rfl) ?_
        refine v_ldc2 cx (tk_dc d_U_fittingDays 78 rfl) c_U_56 ?_
        refine v_lmul cx (tk_dc d_U_fittingDays 79 rfl) ?_
        refine v_iconst cx (tk_dc d_U_fittingDays 80 rfl) (1) (by decide) ?_
        refine v_lshl cx (tk_dc d_U_fittingDays 81 rfl) ?_
        refine v_land cx (tk_dc d_U_fittingDays 82 rfl) ?_
        exact v_lret cx hB (tk_dc d_U_fittingDays 83 rfl) (by (try simp only [lgc0] at h13 h46 h65); simp [u_fit, u_f1, u_f2, u_f3, u_wk, u_rot, h13, h46, h65]) (rfl)
    · refine v_lload_n cx (tk_dc d_U_fittingDays 34 rfl) rfl ?_
      refine v_lconst cx (tk_dc d_U_fittingDays 35 rfl) (1) (by decide) ?_
      refine v_iload_n cx (tk_dc d_U_fittingDays 36 rfl) rfl ?_
      refine v_lshl cx (tk_dc d_U_fittingDays 37 rfl) ?_
      refine v_lor cx (tk_dc d_U_fittingDays 38 rfl) ?_
      refine v_lstore_n (lo' := [_, _, _, _, _, _, _, _]) cx (tk_dc d_U_fittingDays 39 rfl) (by decide) rfl ?_
      refine v_aload_n cx (tk_dc d_U_fittingDays 40 rfl) rfl ?_
      refine v_getI cx (tk_dc d_U_fittingDays 41 rfl) f_U_27 (o_J1 (by assumption)) (by decide) (by rfl) ?_
      refine v_istore (lo' := [_, _, _, _, _, _, _, _]) cx (tk_dc d_U_fittingDays 42 rfl) (by decide) rfl ?_
      refine v_aload_n cx (tk_dc d_U_fittingDays 43 rfl) rfl ?_
      refine v_getI cx (tk_dc d_U_fittingDays 44 rfl) f_U_33 (o_J1 (by assumption)) (by decide) (by rfl) ?_
      refine v_if_eq cx (tk_dc d_U_fittingDays 45 rfl) 87 (by decide) (fun h65 => ?_) (fun h65 => ?_)
      · refine v_iload_n cx (tk_dc d_U_fittingDays 59 rfl) rfl ?_
        refine v_callS (rest := _) cx (tk_dc d_U_fittingDays 60 rfl) m_U_50 ks_O_firstDayOf k_O_firstDayOf (c_O_firstDayOf (by omega)) rfl rfl (Nat.le_of_ble_eq_true rfl) (by decide) ?_
        refine v_callS (rest := _) cx (tk_dc d_U_fittingDays 61 rfl) m_U_53 ks_O_weekdayOf k_O_weekdayOf (c_O_weekdayOf hl0.1 hl0.2) rfl rfl (Nat.le_of_ble_eq_true rfl) (by decide) ?_
        refine v_istore (lo' := [_, _, _, _, _, _, _, _]) cx (tk_dc d_U_fittingDays 62 rfl) (by decide) rfl ?_
        refine v_iload cx (tk_dc d_U_fittingDays 63 rfl) rfl ?_
        refine v_iload cx (tk_dc d_U_fittingDays 64 rfl) rfl ?_
        refine v_ishr cx (tk_dc d_U_fittingDays 65 rfl) ?_
        refine v_iload cx (tk_dc d_U_fittingDays 66 rfl) rfl ?_
        refine v_bipush cx (tk_dc d_U_fittingDays 67 rfl) (7) (by decide) ?_
        refine v_iload cx (tk_dc d_U_fittingDays 68 rfl) rfl ?_
        refine v_isub cx (tk_dc d_U_fittingDays 69 rfl) ?_
        refine v_ishl cx (tk_dc d_U_fittingDays 70 rfl) ?_
        refine v_ior cx (tk_dc d_U_fittingDays 71 rfl) ?_
        refine v_bipush cx (tk_dc d_U_fittingDays 72 rfl) (127) (by decide) ?_
        refine v_iand cx (tk_dc d_U_fittingDays 73 rfl) ?_
        refine v_istore (lo' := [_, _, _, _, _, _, _, _]) cx (tk_dc d_U_fittingDays 74 rfl) (by decide) rfl ?_
        refine v_lload_n cx (tk_dc d_U_fittingDays 75 rfl) rfl ?_
        refine v_iload cx (tk_dc d_U_fittingDays 76 rfl) rfl ?_
        refine v_i2l cx (tk_dc d_U_fittingDays 77 rfl) ?_
        refine v_ldc2 cx (tk_dc d_U_fittingDays 78 rfl) c_U_56 ?_
        refine v_lmul cx (tk_dc d_U_fittingDays 79 rfl) ?_
        refine v_iconst cx (tk_dc d_U_fittingDays 80 rfl) (1) (by decide) ?_
        refine v_lshl cx (tk_dc d_U_fittingDays 81 rfl) ?_
        refine v_land cx (tk_dc d_U_fittingDays 82 rfl) ?_
        exact v_lret cx hB (tk_dc d_U_fittingDays 83 rfl) (by (try simp only [lgc0] at h13 h46 h65); simp [u_fit, u_f1, u_f2, u_f3, u_wk, u_rot, h13, h46, h65]) (rfl)
      · refine v_iload cx (tk_dc d_U_fittingDays 46 rfl) rfl ?_
        refine v_iconst cx (tk_dc d_U_fittingDays 47 rfl) (1) (by decide) ?_
        refine v_aload_n cx (tk_dc d_U_fittingDays 48 rfl) rfl ?_
        refine v_getI cx (tk_dc d_U_fittingDays 49 rfl) f_U_30 (o_J1 (by assumption)) (by decide) (by rfl) ?_
        refine v_ishl cx (tk_dc d_U_fittingDays 50 rfl) ?_
        refine v_iand cx (tk_dc d_U_fittingDays 51 rfl) ?_
        refine v_istore (lo' := [_, _, _, _, _, _, _, _]) cx (tk_dc d_U_fittingDays 52 rfl) (by decide) rfl ?_
        refine v_lload_n cx (tk_dc d_U_fittingDays 53 rfl) rfl ?_
        refine v_aload_n cx (tk_dc d_U_fittingDays 54 rfl) rfl ?_
        refine v_iload_n cx (tk_dc d_U_fittingDays 55 rfl) rfl ?_
        refine v_callV (rest := _) cx (tk_dc d_U_fittingDays 56 rfl) m_U_46 kn_U_nthWeek kv_U_nthWeek k_U_nthWeek (o_J1 hj) (by decide) rfl (c_U_nthWeek hj) rfl rfl (Nat.le_of_ble_eq_true rfl) (by decide) ?_
        refine v_land cx (tk_dc d_U_fittingDays 57 rfl) ?_
        refine v_lstore_n (lo' := [_, _, _, _, _, _, _, _]) cx (tk_dc d_U_fittingDays 58 rfl) (by decide) rfl ?_
        refine v_iload_n cx (tk_dc d_U_fittingDays 59 rfl) rfl ?_
        refine v_callS (rest := _) cx (tk_dc d_U_fittingDays 60 rfl) m_U_50 ks_O_firstDayOf k_O_firstDayOf (c_O_firstDayOf (by omega)) rfl rfl (Nat.le_of_ble_eq_true rfl) (by decide) ?_
        refine v_callS (rest := _) cx (tk_dc d_U_fittingDays 61 rfl) m_U_53 ks_O_weekdayOf k_O_weekdayOf (c_O_weekdayOf hl0.1 hl0.2) rfl rfl (Nat.le_of_ble_eq_true rfl) (by decide) ?_
        refine v_istore (lo' := [_, _, _, _, _, _, _, _]) cx (tk_dc d_U_fittingDays 62 rfl) (by decide) rfl ?_
        refine v_iload cx (tk_dc d_U_fittingDays 63 rfl) rfl ?_
        refine v_iload cx (tk_dc d_U_fittingDays 64 rfl) rfl ?_
        refine v_ishr cx (tk_dc d_U_fittingDays 65 rfl) ?_
        refine v_iload cx (tk_dc d_U_fittingDays 66 rfl) rfl ?_
        refine v_bipush cx (tk_dc d_U_fittingDays 67 rfl) (7) (by decide) ?_
        refine v_iload cx (tk_dc d_U_fittingDays 68 rfl) rfl ?_
        refine v_isub cx (tk_dc d_U_fittingDays 69 rfl) ?_
        refine v_ishl cx (tk_dc d_U_fittingDays 70 rfl) ?_
        refine v_ior cx (tk_dc d_U_fittingDays 71 rfl) ?_
        refine v_bipush cx (tk_dc d_U_fittingDays 72 rfl) (127) (by decide) ?_
        refine v_iand cx (tk_dc d_U_fittingDays 73 rfl) ?_
        refine v_istore (lo' := [_, _, _, _, _, _, _, _]) cx (tk_dc d_U_fittingDays 74 rfl) (by decide) rfl ?_
        refine v_lload_n cx (tk_dc d_U_fittingDays 75 rfl) rfl ?_
        refine v_iload cx (tk_dc d_U_fittingDays 76 rfl) rfl ?_
        refine v_i2l cx (tk_dc d_U_fittingDays 77 rfl) ?_
        refine v_ldc2 cx (tk_dc d_U_fittingDays 78 rfl) c_U_56 ?_
        refine v_lmul cx (tk_dc d_U_fittingDays 79 rfl) ?_
        refine v_iconst cx (tk_dc d_U_fittingDays 80 rfl) (1) (by decide) ?_
        refine v_lshl cx (tk_dc d_U_fittingDays 81 rfl) ?_
        refine v_land cx (tk_dc d_U_fittingDays 82 rfl) ?_
        exact v_lret cx hB (tk_dc d_U_fittingDays 83 rfl) (by (try simp only [lgc0] at h13 h46 h65); simp [u_fit, u_f1, u_f2, u_f3, u_wk, u_rot, h13, h46, h65]) (rfl)
  · refine v_lconst cx (tk_dc d_U_fittingDays 11 rfl) (0) (by decide) ?_
    exact v_lret cx hB (tk_dc d_U_fittingDays 12 rfl) (by (try simp only [lgc0] at h13); simp [u_fit, u_f1, u_f2, u_f3, u_wk, u_rot, h13]) (rfl)
