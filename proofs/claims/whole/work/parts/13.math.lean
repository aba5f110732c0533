/-! the JDK's own, and the small questions -/
def bitc1 (x : Int64) : Int64 := x - ((x.toUInt64 >>> ((1 : Int32).toInt64.toUInt64 &&& Int64.toUInt64 63)).toInt64 &&& 6148914691236517205)
def bitc2 (x : Int64) : Int64 := (x &&& 3689348814741910323) + ((x.toUInt64 >>> ((2 : Int32).toInt64.toUInt64 &&& Int64.toUInt64 63)).toInt64 &&& 3689348814741910323)
def bitc3 (x : Int64) : Int64 := (x + (x.toUInt64 >>> ((4 : Int32).toInt64.toUInt64 &&& Int64.toUInt64 63)).toInt64) &&& 1085102592571150095
def bitc4 (k : Int32) (x : Int64) : Int64 := x + (x.toUInt64 >>> (k.toInt64.toUInt64 &&& Int64.toUInt64 63)).toInt64
def bitc (x : Int64) : Int32 := (bitc4 32 (bitc4 16 (bitc4 8 (bitc3 (bitc2 (bitc1 x)))))).toInt32 &&& 127
set_option maxHeartbeats 4000000 in
set_option maxRecDepth 100000 in
theorem c_Q_max {l : Launch} {E : tk_E} {M : tk_M} {x y : Int32}  : tk_Mt l y_Q_max b_Q_max 2 (some .int) 0 E [.int x, .int y] M M (some (.int (if x < y then y else x))) := by
  refine tk_ofV (by decide +kernel) [some (.int x), some (.int y)] rfl (Nat.le_of_ble_eq_true rfl) ?_
  intro p e s m args below meth c cx hB
  refine v_iload_n cx (tk_dc d_Q_max 0 rfl) rfl ?_
  refine v_iload_n cx (tk_dc d_Q_max 1 rfl) rfl ?_
  refine v_icmp_lt cx (tk_dc d_Q_max 2 rfl) 9 (by decide) (fun h2 => ?_) (fun h2 => ?_)
  · refine v_iload_n cx (tk_dc d_Q_max 5 rfl) rfl ?_
    exact v_iret cx hB (tk_dc d_Q_max 6 rfl) (by simp [h2]) (rfl)
  · refine v_iload_n cx (tk_dc d_Q_max 3 rfl) rfl ?_
    refine v_goto cx (tk_dc d_Q_max 4 rfl) 10 (by decide) ?_
    exact v_iret cx hB (tk_dc d_Q_max 6 rfl) (by simp [h2]) (rfl)

set_option maxHeartbeats 4000000 in
set_option maxRecDepth 100000 in
theorem c_Q_min {l : Launch} {E : tk_E} {M : tk_M} {x y : Int32}  : tk_Mt l y_Q_min b_Q_min 2 (some .int) 0 E [.int x, .int y] M M (some (.int (if y < x then y else x))) := by
  refine tk_ofV (by decide +kernel) [some (.int x), some (.int y)] rfl (Nat.le_of_ble_eq_true rfl) ?_
  intro p e s m args below meth c cx hB
  refine v_iload_n cx (tk_dc d_Q_min 0 rfl) rfl ?_
  refine v_iload_n cx (tk_dc d_Q_min 1 rfl) rfl ?_
  refine v_icmp_gt cx (tk_dc d_Q_min 2 rfl) 9 (by decide) (fun h2 => ?_) (fun h2 => ?_)
  · refine v_iload_n cx (tk_dc d_Q_min 5 rfl) rfl ?_
    exact v_iret cx hB (tk_dc d_Q_min 6 rfl) (by simp [h2]) (rfl)
  · refine v_iload_n cx (tk_dc d_Q_min 3 rfl) rfl ?_
    refine v_goto cx (tk_dc d_Q_min 4 rfl) 10 (by decide) ?_
    exact v_iret cx hB (tk_dc d_Q_min 6 rfl) (by simp [h2]) (rfl)

set_option maxHeartbeats 4000000 in
set_option maxRecDepth 100000 in
theorem c_Q_floorDiv {l : Launch} {E : tk_E} {M : tk_M} {x y : Int32} (hy : ¬ y = 0) : tk_Mt l y_Q_floorDiv b_Q_floorDiv 3 (some .int) 0 E [.int x, .int y] M M (some (.int (if 0 ≤ x ^^^ y then x / y else if x / y * y = x then x / y else x / y - 1))) := by
  refine tk_ofV (by decide +kernel) [some (.int x), some (.int y), none] rfl (Nat.le_of_ble_eq_true rfl) ?_
  intro p e s m args below meth c cx hB
  refine v_iload_n cx (tk_dc d_Q_floorDiv 0 rfl) rfl ?_
  refine v_iload_n cx (tk_dc d_Q_floorDiv 1 rfl) rfl ?_
  refine v_idiv cx (tk_dc d_Q_floorDiv 2 rfl) (hy) ?_
  refine v_istore_n (lo' := [_, _, _]) cx (tk_dc d_Q_floorDiv 3 rfl) (by decide) rfl ?_
  refine v_iload_n cx (tk_dc d_Q_floorDiv 4 rfl) rfl ?_
  refine v_iload_n cx (tk_dc d_Q_floorDiv 5 rfl) rfl ?_
  refine v_ixor cx (tk_dc d_Q_floorDiv 6 rfl) ?_
  refine v_if_ge cx (tk_dc d_Q_floorDiv 7 rfl) 21 (by decide) (fun h7 => ?_) (fun h7 => ?_)
  · refine v_iload_n cx (tk_dc d_Q_floorDiv 17 rfl) rfl ?_
    exact v_iret cx hB (tk_dc d_Q_floorDiv 18 rfl) (by simp [h7]) (rfl)
  · refine v_iload_n cx (tk_dc d_Q_floorDiv 8 rfl) rfl ?_
    refine v_iload_n cx (tk_dc d_Q_floorDiv 9 rfl) rfl ?_
    refine v_imul cx (tk_dc d_Q_floorDiv 10 rfl) ?_
    refine v_iload_n cx (tk_dc d_Q_floorDiv 11 rfl) rfl ?_
    refine v_icmp_eq cx (tk_dc d_Q_floorDiv 12 rfl) 21 (by decide) (fun h14 => ?_) (fun h14 => ?_)
    · refine v_iload_n cx (tk_dc d_Q_floorDiv 17 rfl) rfl ?_
      exact v_iret cx hB (tk_dc d_Q_floorDiv 18 rfl) (by simp [h7, h14]) (rfl)
    · refine v_iload_n cx (tk_dc d_Q_floorDiv 13 rfl) rfl ?_
      refine v_iconst cx (tk_dc d_Q_floorDiv 14 rfl) (1) (by decide) ?_
      refine v_isub cx (tk_dc d_Q_floorDiv 15 rfl) ?_
      exact v_iret cx hB (tk_dc d_Q_floorDiv 16 rfl) (by simp [h7, h14]) (rfl)

set_option maxHeartbeats 4000000 in
set_option maxRecDepth 100000 in
theorem c_G_bitCount {l : Launch} {E : tk_E} {M : tk_M} {x : Int64}  : tk_Mt l y_G_bitCount b_G_bitCount 2 (some .int) 0 E [.long x] M M (some (.int (bitc x))) := by
  refine tk_ofV (by decide +kernel) [some (.long x), none] rfl (Nat.le_of_ble_eq_true rfl) ?_
  intro p e s m args below meth c cx hB
  refine v_lload_n cx (tk_dc d_G_bitCount 0 rfl) rfl ?_
  refine v_lload_n cx (tk_dc d_G_bitCount 1 rfl) rfl ?_
  refine v_iconst cx (tk_dc d_G_bitCount 2 rfl) (1) (by decide) ?_
  refine v_lushr cx (tk_dc d_G_bitCount 3 rfl) ?_
  refine v_ldc2 cx (tk_dc d_G_bitCount 4 rfl) c_G_314 ?_
  refine v_land cx (tk_dc d_G_bitCount 5 rfl) ?_
  refine v_lsub cx (tk_dc d_G_bitCount 6 rfl) ?_
  refine v_lstore_n (lo' := [_, _]) cx (tk_dc d_G_bitCount 7 rfl) (by decide) rfl ?_
  refine v_lload_n cx (tk_dc d_G_bitCount 8 rfl) rfl ?_
  refine v_ldc2 cx (tk_dc d_G_bitCount 9 rfl) c_G_316 ?_
  refine v_land cx (tk_dc d_G_bitCount 10 rfl) ?_
  refine v_lload_n cx (tk_dc d_G_bitCount 11 rfl) rfl ?_
  refine v_iconst cx (tk_dc d_G_bitCount 12 rfl) (2) (by decide) ?_
  refine v_lushr cx (tk_dc d_G_bitCount 13 rfl) ?_
  refine v_ldc2 cx (tk_dc d_G_bitCount 14 rfl) c_G_316 ?_
  refine v_land cx (tk_dc d_G_bitCount 15 rfl) ?_
  refine v_ladd cx (tk_dc d_G_bitCount 16 rfl) ?_
  refine v_lstore_n (lo' := [_, _]) cx (tk_dc d_G_bitCount 17 rfl) (by decide) rfl ?_
  refine v_lload_n cx (tk_dc d_G_bitCount 18 rfl) rfl ?_
  refine v_lload_n cx (tk_dc d_G_bitCount 19 rfl) rfl ?_
  refine v_iconst cx (tk_dc d_G_bitCount 20 rfl) (4) (by decide) ?_
  refine v_lushr cx (tk_dc d_G_bitCount 21 rfl) ?_
  refine v_ladd cx (tk_dc d_G_bitCount 22 rfl) ?_
  refine v_ldc2 cx (tk_dc d_G_bitCount 23 rfl) c_G_318 ?_
  refine v_land cx (tk_dc d_G_bitCount 24 rfl) ?_
  refine v_lstore_n (lo' := [_, _]) cx (tk_dc d_G_bitCount 25 rfl) (by decide) rfl ?_
  refine v_lload_n cx (tk_dc d_G_bitCount 26 rfl) rfl ?_
  refine v_lload_n cx (tk_dc d_G_bitCount 27 rfl) rfl ?_
  refine v_bipush cx (tk_dc d_G_bitCount 28 rfl) (8) (by decide) ?_
  refine v_lushr cx (tk_dc d_G_bitCount 29 rfl) ?_
  refine v_ladd cx (tk_dc d_G_bitCount 30 rfl) ?_
  refine v_lstore_n (lo' := [_, _]) cx (tk_dc d_G_bitCount 31 rfl) (by decide) rfl ?_
  refine v_lload_n cx (tk_dc d_G_bitCount 32 rfl) rfl ?_
  refine v_lload_n cx (tk_dc d_G_bitCount 33 rfl) rfl ?_
  refine v_bipush cx (tk_dc d_G_bitCount 34 rfl) (16) (by decide) ?_
  refine v_lushr cx (tk_dc d_G_bitCount 35 rfl) ?_
  refine v_ladd cx (tk_dc d_G_bitCount 36 rfl) ?_
  refine v_lstore_n (lo' := [_, _]) cx (tk_dc d_G_bitCount 37 rfl) (by decide) rfl ?_
  refine v_lload_n cx (tk_dc d_G_bitCount 38 rfl) rfl ?_
  refine v_lload_n cx (tk_dc d_G_bitCount 39 rfl) rfl ?_
  refine v_bipush cx (tk_dc d_G_bitCount 40 rfl) (32) (by decide) ?_
  refine v_lushr cx (tk_dc d_G_bitCount 41 rfl) ?_
  refine v_ladd cx (tk_dc d_G_bitCount 42 rfl) ?_
  refine v_lstore_n (lo' := [_, _]) cx (tk_dc d_G_bitCount 43 rfl) (by decide) rfl ?_
  refine v_lload_n cx (tk_dc d_G_bitCount 44 rfl) rfl ?_
  refine v_l2i cx (tk_dc d_G_bitCount 45 rfl) ?_
  refine v_bipush cx (tk_dc d_G_bitCount 46 rfl) (127) (by decide) ?_
  refine v_iand cx (tk_dc d_G_bitCount 47 rfl) ?_
  exact v_iret cx hB (tk_dc d_G_bitCount 48 rfl) (rfl) (rfl)

set_option maxHeartbeats 4000000 in
set_option maxRecDepth 100000 in
theorem c_K_isMinute {l : Launch} {E : tk_E} {M : tk_M} {x : Int32}  : tk_Mt l y_K_isMinute b_K_isMinute 1 (some .boolean) 0 E [.int x] M M (some (.int (b01 (decide (¬ x < 0 ∧ x ≤ 52595999))))) := by
  refine tk_ofV (by decide +kernel) [some (.int x)] rfl (Nat.le_of_ble_eq_true rfl) ?_
  intro p e s m args below meth c cx hB
  refine v_iload_n cx (tk_dc d_K_isMinute 0 rfl) rfl ?_
  refine v_if_lt cx (tk_dc d_K_isMinute 1 rfl) 14 (by decide) (fun h1 => ?_) (fun h1 => ?_)
  · refine v_iconst cx (tk_dc d_K_isMinute 7 rfl) (0) (by decide) ?_
    exact v_zret cx hB (tk_dc d_K_isMinute 8 rfl) (by first | exact Or.inl rfl | exact Or.inr rfl | exact b01_01 _ | assumption) (by simp [b01, h1]) (rfl)
  · refine v_iload_n cx (tk_dc d_K_isMinute 2 rfl) rfl ?_
    refine v_ldc cx (tk_dc d_K_isMinute 3 rfl) c_K_54 ?_
    refine v_icmp_gt cx (tk_dc d_K_isMinute 4 rfl) 14 (by decide) (fun h7 => ?_) (fun h7 => ?_)
    · refine v_iconst cx (tk_dc d_K_isMinute 7 rfl) (0) (by decide) ?_
      exact v_zret cx hB (tk_dc d_K_isMinute 8 rfl) (by first | exact Or.inl rfl | exact Or.inr rfl | exact b01_01 _ | assumption) (by simp [b01, h1, h7]) (rfl)
    · refine v_iconst cx (tk_dc d_K_isMinute 5 rfl) (1) (by decide) ?_
      refine v_goto cx (tk_dc d_K_isMinute 6 rfl) 15 (by decide) ?_
      exact v_zret cx hB (tk_dc d_K_isMinute 8 rfl) (by first | exact Or.inl rfl | exact Or.inr rfl | exact b01_01 _ | assumption) (by simp [b01, h1, h7]) (rfl)

set_option maxHeartbeats 4000000 in
set_option maxRecDepth 100000 in
theorem c_K_isZone {l : Launch} {E : tk_E} {M : tk_M} {x : Int32}  : tk_Mt l y_K_isZone b_K_isZone 1 (some .boolean) 0 E [.int x] M M (some (.int (b01 (decide (¬ x < 0 ∧ x < 4))))) := by
  refine tk_ofV (by decide +kernel) [some (.int x)] rfl (Nat.le_of_ble_eq_true rfl) ?_
  intro p e s m args below meth c cx hB
  refine v_iload_n cx (tk_dc d_K_isZone 0 rfl) rfl ?_
  refine v_if_lt cx (tk_dc d_K_isZone 1 rfl) 13 (by decide) (fun h1 => ?_) (fun h1 => ?_)
  · refine v_iconst cx (tk_dc d_K_isZone 7 rfl) (0) (by decide) ?_
    exact v_zret cx hB (tk_dc d_K_isZone 8 rfl) (by first | exact Or.inl rfl | exact Or.inr rfl | exact b01_01 _ | assumption) (by simp [b01, h1]) (rfl)
  · refine v_iload_n cx (tk_dc d_K_isZone 2 rfl) rfl ?_
    refine v_iconst cx (tk_dc d_K_isZone 3 rfl) (4) (by decide) ?_
    refine v_icmp_ge cx (tk_dc d_K_isZone 4 rfl) 13 (by decide) (fun h6 => ?_) (fun h6 => ?_)
    · refine v_iconst cx (tk_dc d_K_isZone 7 rfl) (0) (by decide) ?_
      exact v_zret cx hB (tk_dc d_K_isZone 8 rfl) (by first | exact Or.inl rfl | exact Or.inr rfl | exact b01_01 _ | assumption) (by simp [b01, h1, h6]) (rfl)
    · refine v_iconst cx (tk_dc d_K_isZone 5 rfl) (1) (by decide) ?_
      refine v_goto cx (tk_dc d_K_isZone 6 rfl) 14 (by decide) ?_
      exact v_zret cx hB (tk_dc d_K_isZone 8 rfl) (by first | exact Or.inl rfl | exact Or.inr rfl | exact b01_01 _ | assumption) (by simp [b01, h1, h6]) (rfl)

set_option maxHeartbeats 4000000 in
set_option maxRecDepth 100000 in
theorem c_K_isJob {l : Launch} {E : tk_E} {M : tk_M} {x : Int32}  : tk_Mt l y_K_isJob b_K_isJob 1 (some .boolean) 0 E [.int x] M M (some (.int (b01 (decide (¬ x < 0 ∧ x < 8))))) := by
  refine tk_ofV (by decide +kernel) [some (.int x)] rfl (Nat.le_of_ble_eq_true rfl) ?_
  intro p e s m args below meth c cx hB
  refine v_iload_n cx (tk_dc d_K_isJob 0 rfl) rfl ?_
  refine v_if_lt cx (tk_dc d_K_isJob 1 rfl) 14 (by decide) (fun h1 => ?_) (fun h1 => ?_)
  · refine v_iconst cx (tk_dc d_K_isJob 7 rfl) (0) (by decide) ?_
    exact v_zret cx hB (tk_dc d_K_isJob 8 rfl) (by first | exact Or.inl rfl | exact Or.inr rfl | exact b01_01 _ | assumption) (by simp [b01, h1]) (rfl)
  · refine v_iload_n cx (tk_dc d_K_isJob 2 rfl) rfl ?_
    refine v_bipush cx (tk_dc d_K_isJob 3 rfl) (8) (by decide) ?_
    refine v_icmp_ge cx (tk_dc d_K_isJob 4 rfl) 14 (by decide) (fun h7 => ?_) (fun h7 => ?_)
    · refine v_iconst cx (tk_dc d_K_isJob 7 rfl) (0) (by decide) ?_
      exact v_zret cx hB (tk_dc d_K_isJob 8 rfl) (by first | exact Or.inl rfl | exact Or.inr rfl | exact b01_01 _ | assumption) (by simp [b01, h1, h7]) (rfl)
    · refine v_iconst cx (tk_dc d_K_isJob 5 rfl) (1) (by decide) ?_
      refine v_goto cx (tk_dc d_K_isJob 6 rfl) 15 (by decide) ?_
      exact v_zret cx hB (tk_dc d_K_isJob 8 rfl) (by first | exact Or.inl rfl | exact Or.inr rfl | exact b01_01 _ | assumption) (by simp [b01, h1, h7]) (rfl)

set_option maxHeartbeats 4000000 in
set_option maxRecDepth 100000 in
theorem c_K_isScheduler {l : Launch} {E : tk_E} {M : tk_M} {x : Int32}  : tk_Mt l y_K_isScheduler b_K_isScheduler 1 (some .boolean) 0 E [.int x] M M (some (.int (b01 (decide (¬ x < 0 ∧ x < 3))))) := by
  refine tk_ofV (by decide +kernel) [some (.int x)] rfl (Nat.le_of_ble_eq_true rfl) ?_
  intro p e s m args below meth c cx hB
  refine v_iload_n cx (tk_dc d_K_isScheduler 0 rfl) rfl ?_
  refine v_if_lt cx (tk_dc d_K_isScheduler 1 rfl) 13 (by decide) (fun h1 => ?_) (fun h1 => ?_)
  · refine v_iconst cx (tk_dc d_K_isScheduler 7 rfl) (0) (by decide) ?_
    exact v_zret cx hB (tk_dc d_K_isScheduler 8 rfl) (by first | exact Or.inl rfl | exact Or.inr rfl | exact b01_01 _ | assumption) (by simp [b01, h1]) (rfl)
  · refine v_iload_n cx (tk_dc d_K_isScheduler 2 rfl) rfl ?_
    refine v_iconst cx (tk_dc d_K_isScheduler 3 rfl) (3) (by decide) ?_
    refine v_icmp_ge cx (tk_dc d_K_isScheduler 4 rfl) 13 (by decide) (fun h6 => ?_) (fun h6 => ?_)
    · refine v_iconst cx (tk_dc d_K_isScheduler 7 rfl) (0) (by decide) ?_
      exact v_zret cx hB (tk_dc d_K_isScheduler 8 rfl) (by first | exact Or.inl rfl | exact Or.inr rfl | exact b01_01 _ | assumption) (by simp [b01, h1, h6]) (rfl)
    · refine v_iconst cx (tk_dc d_K_isScheduler 5 rfl) (1) (by decide) ?_
      refine v_goto cx (tk_dc d_K_isScheduler 6 rfl) 14 (by decide) ?_
      exact v_zret cx hB (tk_dc d_K_isScheduler 8 rfl) (by first | exact Or.inl rfl | exact Or.inr rfl | exact b01_01 _ | assumption) (by simp [b01, h1, h6]) (rfl)

set_option maxHeartbeats 4000000 in
set_option maxRecDepth 100000 in
theorem c_M_isMinute {l : Launch} {E : tk_E} {M : tk_M} {x : Int32}  : tk_Mt l y_M_isMinute b_M_isMinute 1 (some .boolean) 0 E [.int x] M M (some (.int (b01 (decide (¬ x < 0 ∧ x ≤ 52595999))))) := by
  refine tk_ofV (by decide +kernel) [some (.int x)] rfl (Nat.le_of_ble_eq_true rfl) ?_
  intro p e s m args below meth c cx hB
  refine v_iload_n cx (tk_dc d_M_isMinute 0 rfl) rfl ?_
  refine v_if_lt cx (tk_dc d_M_isMinute 1 rfl) 14 (by decide) (fun h1 => ?_) (fun h1 => ?_)
  · refine v_iconst cx (tk_dc d_M_isMinute 7 rfl) (0) (by decide) ?_
    exact v_zret cx hB (tk_dc d_M_isMinute 8 rfl) (by first | exact Or.inl rfl | exact Or.inr rfl | exact b01_01 _ | assumption) (by simp [b01, h1]) (rfl)
  · refine v_iload_n cx (tk_dc d_M_isMinute 2 rfl) rfl ?_
    refine v_ldc cx (tk_dc d_M_isMinute 3 rfl) c_M_128 ?_
    refine v_icmp_gt cx (tk_dc d_M_isMinute 4 rfl) 14 (by decide) (fun h7 => ?_) (fun h7 => ?_)
    · refine v_iconst cx (tk_dc d_M_isMinute 7 rfl) (0) (by decide) ?_
      exact v_zret cx hB (tk_dc d_M_isMinute 8 rfl) (by first | exact Or.inl rfl | exact Or.inr rfl | exact b01_01 _ | assumption) (by simp [b01, h1, h7]) (rfl)
    · refine v_iconst cx (tk_dc d_M_isMinute 5 rfl) (1) (by decide) ?_
      refine v_goto cx (tk_dc d_M_isMinute 6 rfl) 15 (by decide) ?_
      exact v_zret cx hB (tk_dc d_M_isMinute 8 rfl) (by first | exact Or.inl rfl | exact Or.inr rfl | exact b01_01 _ | assumption) (by simp [b01, h1, h7]) (rfl)

set_option maxHeartbeats 4000000 in
set_option maxRecDepth 100000 in
theorem c_M_isZone {l : Launch} {E : tk_E} {M : tk_M} {x : Int32}  : tk_Mt l y_M_isZone b_M_isZone 1 (some .boolean) 0 E [.int x] M M (some (.int (b01 (decide (¬ x < 0 ∧ x < 4))))) := by
  refine tk_ofV (by decide +kernel) [some (.int x)] rfl (Nat.le_of_ble_eq_true rfl) ?_
  intro p e s m args below meth c cx hB
  refine v_iload_n cx (tk_dc d_M_isZone 0 rfl) rfl ?_
  refine v_if_lt cx (tk_dc d_M_isZone 1 rfl) 13 (by decide) (fun h1 => ?_) (fun h1 => ?_)
  · refine v_iconst cx (tk_dc d_M_isZone 7 rfl) (0) (by decide) ?_
    exact v_zret cx hB (tk_dc d_M_isZone 8 rfl) (by first | exact Or.inl rfl | exact Or.inr rfl | exact b01_01 _ | assumption) (by simp [b01, h1]) (rfl)
  · refine v_iload_n cx (tk_dc d_M_isZone 2 rfl) rfl ?_
    refine v_iconst cx (tk_dc d_M_isZone 3 rfl) (4) (by decide) ?_
    refine v_icmp_ge cx (tk_dc d_M_isZone 4 rfl) 13 (by decide) (fun h6 => ?_) (fun h6 => ?_)
    · refine v_iconst cx (tk_dc d_M_isZone 7 rfl) (0) (by decide) ?_
      exact v_zret cx hB (tk_dc d_M_isZone 8 rfl) (by first | exact Or.inl rfl | exact Or.inr rfl | exact b01_01 _ | assumption) (by simp [b01, h1, h6]) (rfl)
    · refine v_iconst cx (tk_dc d_M_isZone 5 rfl) (1) (by decide) ?_
      refine v_goto cx (tk_dc d_M_isZone 6 rfl) 14 (by decide) ?_
      exact v_zret cx hB (tk_dc d_M_isZone 8 rfl) (by first | exact Or.inl rfl | exact Or.inr rfl | exact b01_01 _ | assumption) (by simp [b01, h1, h6]) (rfl)

set_option maxHeartbeats 4000000 in
set_option maxRecDepth 100000 in
theorem c_M_isJob {l : Launch} {E : tk_E} {M : tk_M} {x : Int32}  : tk_Mt l y_M_isJob b_M_isJob 1 (some .boolean) 0 E [.int x] M M (some (.int (b01 (decide (¬ x < 0 ∧ x < 8))))) := by
  refine tk_ofV (by decide +kernel) [some (.int x)] rfl (Nat.le_of_ble_eq_true rfl) ?_
  intro p e s m args below meth c cx hB
  refine v_iload_n cx (tk_dc d_M_isJob 0 rfl) rfl ?_
  refine v_if_lt cx (tk_dc d_M_isJob 1 rfl) 14 (by decide) (fun h1 => ?_) (fun h1 => ?_)
  · refine v_iconst cx (tk_dc d_M_isJob 7 rfl) (0) (by decide) ?_
    exact v_zret cx hB (tk_dc d_M_isJob 8 rfl) (by first | exact Or.inl rfl | exact Or.inr rfl | exact b01_01 _ | assumption) (by simp [b01, h1]) (rfl)
  · refine v_iload_n cx (tk_dc d_M_isJob 2 rfl) rfl ?_
    refine v_bipush cx (tk_dc d_M_isJob 3 rfl) (8) (by decide) ?_
    refine v_icmp_ge cx (tk_dc d_M_isJob 4 rfl) 14 (by decide) (fun h7 => ?_) (fun h7 => ?_)
    · refine v_iconst cx (tk_dc d_M_isJob 7 rfl) (0) (by decide) ?_
      exact v_zret cx hB (tk_dc d_M_isJob 8 rfl) (by first | exact Or.inl rfl | exact Or.inr rfl | exact b01_01 _ | assumption) (by simp [b01, h1, h7]) (rfl)
    · refine v_iconst cx (tk_dc d_M_isJob 5 rfl) (1) (by decide) ?_
      refine v_goto cx (tk_dc d_M_isJob 6 rfl) 15 (by decide) ?_
      exact v_zret cx hB (tk_dc d_M_isJob 8 rfl) (by first | exact Or.inl rfl | exact Or.inr rfl | exact b01_01 _ | assumption) (by simp [b01, h1, h7]) (rfl)
