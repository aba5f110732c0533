/-- a method's words: its own code, and all the tables -/
def tk_W (y : MethodName) (b : ByteArray) (nL : Nat) (ret : Option FieldType) : List Cond := Cond.code y b nL ret :: tk_tbl
/-- what a call asks of the tables of its callee -/
def tk_Cs (y : MethodName) (b : ByteArray) (nL : Nat) (ret : Option FieldType) (n : Nat) : Prop := Cond.code y b nL ret ∈ lw_tbl ∧ Cond.initialized y.cls ∈ lw_tbl ∧ y.cls ≠ "java/lang/invoke/MethodHandle" ∧ y.cls ≠ "java/lang/invoke/VarHandle" ∧ (parseMethodDescriptor y.desc).map (fun d => d.parameters.length) = some n ∧ nL ≤ 20
theorem tk_WG {y : MethodName} {b : ByteArray} {nL : Nat} {ret : Option FieldType} (h : Cond.code y b nL ret ∈ lw_tbl) : GoodIn tk_tbl (tk_W y b nL ret) := by
  intro w hw
  rcases List.mem_cons.mp hw with rfl | h1
  · exact ⟨tk_g h rfl, good_of_word rfl⟩
  · exact ⟨h1, good_of_word (List.mem_filter.mp h1).2⟩
def y_K_init : MethodName := ⟨"TickKeeper", "<init>", "()V"⟩
abbrev b_K_init : ByteArray := prog_1_method_1_code
set_option maxRecDepth 100000 in
theorem k_K_init : tk_Cs y_K_init b_K_init 2 none 0 := ⟨tk_tb 18 (by decide +kernel), tk_tb 1 (by decide +kernel), by decide +kernel, by decide +kernel, by decide +kernel, by decide⟩
theorem kn_K_init : Cond.instanceMethod y_K_init ∈ lw_tbl := tk_tb 17 (by decide +kernel)
def y_P_init : MethodName := ⟨"TickKeeper$Post", "<init>", "()V"⟩
abbrev b_P_init : ByteArray := prog_6_method_1_code
set_option maxRecDepth 100000 in
theorem k_P_init : tk_Cs y_P_init b_P_init 2 none 0 := ⟨tk_tb 34 (by decide +kernel), tk_tb 2 (by decide +kernel), by decide +kernel, by decide +kernel, by decide +kernel, by decide⟩
theorem kn_P_init : Cond.instanceMethod y_P_init ∈ lw_tbl := tk_tb 33 (by decide +kernel)
def y_L_init : MethodName := ⟨"TickKeeper$Letter", "<init>", "()V"⟩
abbrev b_L_init : ByteArray := prog_4_method_1_code
set_option maxRecDepth 100000 in
theorem k_L_init : tk_Cs y_L_init b_L_init 1 none 0 := ⟨tk_tb 41 (by decide +kernel), tk_tb 3 (by decide +kernel), by decide +kernel, by decide +kernel, by decide +kernel, by decide⟩
theorem kn_L_init : Cond.instanceMethod y_L_init ∈ lw_tbl := tk_tb 40 (by decide +kernel)
def y_Z_init : MethodName := ⟨"TickKeeper$Zone", "<init>", "()V"⟩
abbrev b_Z_init : ByteArray := prog_10_method_1_code
set_option maxRecDepth 100000 in
theorem k_Z_init : tk_Cs y_Z_init b_Z_init 1 none 0 := ⟨tk_tb 103 (by decide +kernel), tk_tb 4 (by decide +kernel), by decide +kernel, by decide +kernel, by decide +kernel, by decide⟩
theorem kn_Z_init : Cond.instanceMethod y_Z_init ∈ lw_tbl := tk_tb 102 (by decide +kernel)
def y_J_init : MethodName := ⟨"TickKeeper$Job", "<init>", "(LTickKeeper$Zone;)V"⟩
abbrev b_J_init : ByteArray := prog_2_method_1_code
set_option maxRecDepth 100000 in
theorem k_J_init : tk_Cs y_J_init b_J_init 2 none 1 := ⟨tk_tb 128 (by decide +kernel), tk_tb 5 (by decide +kernel), by decide +kernel, by decide +kernel, by decide +kernel, by decide⟩
theorem kn_J_init : Cond.instanceMethod y_J_init ∈ lw_tbl := tk_tb 127 (by decide +kernel)
def y_U_init : MethodName := ⟨"TickKeeper$Rule", "<init>", "()V"⟩
abbrev b_U_init : ByteArray := prog_7_method_1_code
set_option maxRecDepth 100000 in
theorem k_U_init : tk_Cs y_U_init b_U_init 1 none 0 := ⟨tk_tb 134 (by decide +kernel), tk_tb 6 (by decide +kernel), by decide +kernel, by decide +kernel, by decide +kernel, by decide⟩
theorem kn_U_init : Cond.instanceMethod y_U_init ∈ lw_tbl := tk_tb 133 (by decide +kernel)
def y_N_init : MethodName := ⟨"TickKeeper$Journal", "<init>", "()V"⟩
abbrev b_N_init : ByteArray := prog_3_method_1_code
set_option maxRecDepth 100000 in
theorem k_N_init : tk_Cs y_N_init b_N_init 1 none 0 := ⟨tk_tb 197 (by decide +kernel), tk_tb 7 (by decide +kernel), by decide +kernel, by decide +kernel, by decide +kernel, by decide⟩
theorem kn_N_init : Cond.instanceMethod y_N_init ∈ lw_tbl := tk_tb 196 (by decide +kernel)
def y_S_init : MethodName := ⟨"TickKeeper$Scheduler", "<init>", "()V"⟩
abbrev b_S_init : ByteArray := prog_8_method_1_code
set_option maxRecDepth 100000 in
theorem k_S_init : tk_Cs y_S_init b_S_init 2 none 0 := ⟨tk_tb 218 (by decide +kernel), tk_tb 8 (by decide +kernel), by decide +kernel, by decide +kernel, by decide +kernel, by decide⟩
theorem kn_S_init : Cond.instanceMethod y_S_init ∈ lw_tbl := tk_tb 217 (by decide +kernel)
def y_E_init : MethodName := ⟨"TickKeeper$Seat", "<init>", "()V"⟩
abbrev b_E_init : ByteArray := prog_9_method_1_code
set_option maxRecDepth 100000 in
theorem k_E_init : tk_Cs y_E_init b_E_init 1 none 0 := ⟨tk_tb 225 (by decide +kernel), tk_tb 9 (by decide +kernel), by decide +kernel, by decide +kernel, by decide +kernel, by decide⟩
theorem kn_E_init : Cond.instanceMethod y_E_init ∈ lw_tbl := tk_tb 224 (by decide +kernel)
def y_K_time : MethodName := ⟨"TickKeeper", "time", "(I)Z"⟩
abbrev b_K_time : ByteArray := prog_1_method_2_code
set_option maxRecDepth 100000 in
theorem k_K_time : tk_Cs y_K_time b_K_time 2 (some .boolean) 1 := ⟨tk_tb 299 (by decide +kernel), tk_tb 1 (by decide +kernel), by decide +kernel, by decide +kernel, by decide +kernel, by decide⟩
theorem kn_K_time : Cond.instanceMethod y_K_time ∈ lw_tbl := tk_tb 297 (by decide +kernel)
theorem kv_K_time : Cond.selects y_K_time.cls y_K_time y_K_time ∈ lw_tbl := tk_tb 298 (by decide +kernel)
def y_K_shift : MethodName := ⟨"TickKeeper", "shift", "(III)Z"⟩
abbrev b_K_shift : ByteArray := prog_1_method_3_code
set_option maxRecDepth 100000 in
theorem k_K_shift : tk_Cs y_K_shift b_K_shift 4 (some .boolean) 3 := ⟨tk_tb 304 (by decide +kernel), tk_tb 1 (by decide +kernel), by decide +kernel, by decide +kernel, by decide +kernel, by decide⟩
theorem kn_K_shift : Cond.instanceMethod y_K_shift ∈ lw_tbl := tk_tb 302 (by decide +kernel)
theorem kv_K_shift : Cond.selects y_K_shift.cls y_K_shift y_K_shift ∈ lw_tbl := tk_tb 303 (by decide +kernel)
def y_K_isZone : MethodName := ⟨"TickKeeper", "isZone", "(I)Z"⟩
abbrev b_K_isZone : ByteArray := prog_1_method_25_code
set_option maxRecDepth 100000 in
theorem k_K_isZone : tk_Cs y_K_isZone b_K_isZone 1 (some .boolean) 1 := ⟨tk_tb 307 (by decide +kernel), tk_tb 1 (by decide +kernel), by decide +kernel, by decide +kernel, by decide +kernel, by decide⟩
theorem ks_K_isZone : Cond.static y_K_isZone ∈ lw_tbl := tk_tb 306 (by decide +kernel)
def y_K_isMinute : MethodName := ⟨"TickKeeper", "isMinute", "(I)Z"⟩
abbrev b_K_isMinute : ByteArray := prog_1_method_24_code
set_option maxRecDepth 100000 in
theorem k_K_isMinute : tk_Cs y_K_isMinute b_K_isMinute 1 (some .boolean) 1 := ⟨tk_tb 310 (by decide +kernel), tk_tb 1 (by decide +kernel), by decide +kernel, by decide +kernel, by decide +kernel, by decide⟩
theorem ks_K_isMinute : Cond.static y_K_isMinute ∈ lw_tbl := tk_tb 309 (by decide +kernel)
def y_Z_addShift : MethodName := ⟨"TickKeeper$Zone", "addShift", "(II)Z"⟩
abbrev b_Z_addShift : ByteArray := prog_10_method_2_code
set_option maxRecDepth 100000 in
theorem k_Z_addShift : tk_Cs y_Z_addShift b_Z_addShift 3 (some .boolean) 2 := ⟨tk_tb 314 (by decide +kernel), tk_tb 4 (by decide +kernel), by decide +kernel, by decide +kernel, by decide +kernel, by decide⟩
theorem kn_Z_addShift : Cond.instanceMethod y_Z_addShift ∈ lw_tbl := tk_tb 312 (by decide +kernel)
theorem kv_Z_addShift : Cond.selects y_Z_addShift.cls y_Z_addShift y_Z_addShift ∈ lw_tbl := tk_tb 313 (by decide +kernel)
def y_K_holiday : MethodName := ⟨"TickKeeper", "holiday", "(II)Z"⟩
abbrev b_K_holiday : ByteArray := prog_1_method_4_code
set_option maxRecDepth 100000 in
theorem k_K_holiday : tk_Cs y_K_holiday b_K_holiday 3 (some .boolean) 2 := ⟨tk_tb 318 (by decide +kernel), tk_tb 1 (by decide +kernel), by decide +kernel, by decide +kernel, by decide +kernel, by decide⟩
theorem kn_K_holiday : Cond.instanceMethod y_K_holiday ∈ lw_tbl := tk_tb 316 (by decide +kernel)
theorem kv_K_holiday : Cond.selects y_K_holiday.cls y_K_holiday y_K_holiday ∈ lw_tbl := tk_tb 317 (by decide +kernel)
def y_Z_addHoliday : MethodName := ⟨"TickKeeper$Zone", "addHoliday", "(I)Z"⟩
abbrev b_Z_addHoliday : ByteArray := prog_10_method_3_code
set_option maxRecDepth 100000 in
theorem k_Z_addHoliday : tk_Cs y_Z_addHoliday b_Z_addHoliday 2 (some .boolean) 1 := ⟨tk_tb 323 (by decide +kernel), tk_tb 4 (by decide +kernel), by decide +kernel, by decide +kernel, by decide +kernel, by decide⟩
theorem kn_Z_addHoliday : Cond.instanceMethod y_Z_addHoliday ∈ lw_tbl := tk_tb 321 (by decide +kernel)
theorem kv_Z_addHoliday : Cond.selects y_Z_addHoliday.cls y_Z_addHoliday y_Z_addHoliday ∈ lw_tbl := tk_tb 322 (by decide +kernel)
def y_Z_isHoliday : MethodName := ⟨"TickKeeper$Zone", "isHoliday", "(I)Z"⟩
abbrev b_Z_isHoliday : ByteArray := prog_10_method_4_code
set_option maxRecDepth 100000 in
theorem k_Z_isHoliday : tk_Cs y_Z_isHoliday b_Z_isHoliday 3 (some .boolean) 1 := ⟨tk_tb 327 (by decide +kernel), tk_tb 4 (by decide +kernel), by decide +kernel, by decide +kernel, by decide +kernel, by decide⟩
theorem kn_Z_isHoliday : Cond.instanceMethod y_Z_isHoliday ∈ lw_tbl := tk_tb 325 (by decide +kernel)
theorem kv_Z_isHoliday : Cond.selects y_Z_isHoliday.cls y_Z_isHoliday y_Z_isHoliday ∈ lw_tbl := tk_tb 326 (by decide +kernel)
def y_K_local : MethodName := ⟨"TickKeeper", "local", "(II)I"⟩
abbrev b_K_local : ByteArray := prog_1_method_5_code
set_option maxRecDepth 100000 in
theorem k_K_local : tk_Cs y_K_local b_K_local 3 (some .int) 2 := ⟨tk_tb 331 (by decide +kernel), tk_tb 1 (by decide +kernel), by decide +kernel, by decide +kernel, by decide +kernel, by decide⟩
theorem kn_K_local : Cond.instanceMethod y_K_local ∈ lw_tbl := tk_tb 329 (by decide +kernel)
theorem kv_K_local : Cond.selects y_K_local.cls y_K_local y_K_local ∈ lw_tbl := tk_tb 330 (by decide +kernel)
def y_Z_localMinute : MethodName := ⟨"TickKeeper$Zone", "localMinute", "(I)I"⟩
abbrev b_Z_localMinute : ByteArray := prog_10_method_7_code
set_option maxRecDepth 100000 in
theorem k_Z_localMinute : tk_Cs y_Z_localMinute b_Z_localMinute 3 (some .int) 1 := ⟨tk_tb 335 (by decide +kernel), tk_tb 4 (by decide +kernel), by decide +kernel, by decide +kernel, by decide +kernel, by decide⟩
theorem kn_Z_localMinute : Cond.instanceMethod y_Z_localMinute ∈ lw_tbl := tk_tb 333 (by decide +kernel)
theorem kv_Z_localMinute : Cond.selects y_Z_localMinute.cls y_Z_localMinute y_Z_localMinute ∈ lw_tbl := tk_tb 334 (by decide +kernel)
def y_K_mask : MethodName := ⟨"TickKeeper", "mask", "(IIII)Z"⟩
abbrev b_K_mask : ByteArray := prog_1_method_6_code
set_option maxRecDepth 100000 in
theorem k_K_mask : tk_Cs y_K_mask b_K_mask 5 (some .boolean) 4 := ⟨tk_tb 339 (by decide +kernel), tk_tb 1 (by decide +kernel), by decide +kernel, by decide +kernel, by decide +kernel, by decide⟩
theorem kn_K_mask : Cond.instanceMethod y_K_mask ∈ lw_tbl := tk_tb 337 (by decide +kernel)
theorem kv_K_mask : Cond.selects y_K_mask.cls y_K_mask y_K_mask ∈ lw_tbl := tk_tb 338 (by decide +kernel)
def y_K_isJob : MethodName := ⟨"TickKeeper", "isJob", "(I)Z"⟩
abbrev b_K_isJob : ByteArray := prog_1_method_26_code
set_option maxRecDepth 100000 in
theorem k_K_isJob : tk_Cs y_K_isJob b_K_isJob 1 (some .boolean) 1 := ⟨tk_tb 342 (by decide +kernel), tk_tb 1 (by decide +kernel), by decide +kernel, by decide +kernel, by decide +kernel, by decide⟩
theorem ks_K_isJob : Cond.static y_K_isJob ∈ lw_tbl := tk_tb 341 (by decide +kernel)
def y_U_changeMask : MethodName := ⟨"TickKeeper$Rule", "changeMask", "(III)Z"⟩
abbrev b_U_changeMask : ByteArray := prog_7_method_2_code
set_option maxRecDepth 100000 in
theorem k_U_changeMask : tk_Cs y_U_changeMask b_U_changeMask 4 (some .boolean) 3 := ⟨tk_tb 346 (by decide +kernel), tk_tb 6 (by decide +kernel), by decide +kernel, by decide +kernel, by decide +kernel, by decide⟩
theorem kn_U_changeMask : Cond.instanceMethod y_U_changeMask ∈ lw_tbl := tk_tb 344 (by decide +kernel)
theorem kv_U_changeMask : Cond.selects y_U_changeMask.cls y_U_changeMask y_U_changeMask ∈ lw_tbl := tk_tb 345 (by decide +kernel)
def y_K_nth : MethodName := ⟨"TickKeeper", "nth", "(III)Z"⟩
abbrev b_K_nth : ByteArray := prog_1_method_7_code
set_option maxRecDepth 100000 in
theorem k_K_nth : tk_Cs y_K_nth b_K_nth 4 (some .boolean) 3 := ⟨tk_tb 352 (by decide +kernel), tk_tb 1 (by decide +kernel), by decide +kernel, by decide +kernel, by decide +kernel, by decide⟩
theorem kn_K_nth : Cond.instanceMethod y_K_nth ∈ lw_tbl := tk_tb 350 (by decide +kernel)
theorem kv_K_nth : Cond.selects y_K_nth.cls y_K_nth y_K_nth ∈ lw_tbl := tk_tb 351 (by decide +kernel)
def y_K_set : MethodName := ⟨"TickKeeper", "set", "(III)Z"⟩
abbrev b_K_set : ByteArray := prog_1_method_8_code
set_option maxRecDepth 100000 in
theorem k_K_set : tk_Cs y_K_set b_K_set 4 (some .boolean) 3 := ⟨tk_tb 356 (by decide +kernel), tk_tb 1 (by decide +kernel), by decide +kernel, by decide +kernel, by decide +kernel, by decide⟩
theorem kn_K_set : Cond.instanceMethod y_K_set ∈ lw_tbl := tk_tb 354 (by decide +kernel)
theorem kv_K_set : Cond.selects y_K_set.cls y_K_set y_K_set ∈ lw_tbl := tk_tb 355 (by decide +kernel)
def y_J_changeMode : MethodName := ⟨"TickKeeper$Job", "changeMode", "(I)Z"⟩
abbrev b_J_changeMode : ByteArray := prog_2_method_2_code
set_option maxRecDepth 100000 in
theorem k_J_changeMode : tk_Cs y_J_changeMode b_J_changeMode 2 (some .boolean) 1 := ⟨tk_tb 360 (by decide +kernel), tk_tb 5 (by decide +kernel), by decide +kernel, by decide +kernel, by decide +kernel, by decide⟩
theorem kn_J_changeMode : Cond.instanceMethod y_J_changeMode ∈ lw_tbl := tk_tb 358 (by decide +kernel)
theorem kv_J_changeMode : Cond.selects y_J_changeMode.cls y_J_changeMode y_J_changeMode ∈ lw_tbl := tk_tb 359 (by decide +kernel)
def y_J_changeLateness : MethodName := ⟨"TickKeeper$Job", "changeLateness", "(I)Z"⟩
abbrev b_J_changeLateness : ByteArray := prog_2_method_3_code
set_option maxRecDepth 100000 in
theorem k_J_changeLateness : tk_Cs y_J_changeLateness b_J_changeLateness 2 (some .boolean) 1 := ⟨tk_tb 364 (by decide +kernel), tk_tb 5 (by decide +kernel), by decide +kernel, by decide +kernel, by decide +kernel, by decide⟩
theorem kn_J_changeLateness : Cond.instanceMethod y_J_changeLateness ∈ lw_tbl := tk_tb 362 (by decide +kernel)
theorem kv_J_changeLateness : Cond.selects y_J_changeLateness.cls y_J_changeLateness y_J_changeLateness ∈ lw_tbl := tk_tb 363 (by decide +kernel)
def y_K_except : MethodName := ⟨"TickKeeper", "except", "(II)Z"⟩
abbrev b_K_except : ByteArray := prog_1_method_9_code
set_option maxRecDepth 100000 in
theorem k_K_except : tk_Cs y_K_except b_K_except 3 (some .boolean) 2 := ⟨tk_tb 369 (by decide +kernel), tk_tb 1 (by decide +kernel), by decide +kernel, by decide +kernel, by decide +kernel, by decide⟩
theorem kn_K_except : Cond.instanceMethod y_K_except ∈ lw_tbl := tk_tb 367 (by decide +kernel)
theorem kv_K_except : Cond.selects y_K_except.cls y_K_except y_K_except ∈ lw_tbl := tk_tb 368 (by decide +kernel)
def y_J_addException : MethodName := ⟨"TickKeeper$Job", "addException", "(I)Z"⟩
abbrev b_J_addException : ByteArray := prog_2_method_4_code
set_option maxRecDepth 100000 in
theorem k_J_addException : tk_Cs y_J_addException b_J_addException 2 (some .boolean) 1 := ⟨tk_tb 373 (by decide +kernel), tk_tb 5 (by decide +kernel), by decide +kernel, by decide +kernel, by decide +kernel, by decide⟩
theorem kn_J_addException : Cond.instanceMethod y_J_addException ∈ lw_tbl := tk_tb 371 (by decide +kernel)
theorem kv_J_addException : Cond.selects y_J_addException.cls y_J_addException y_J_addException ∈ lw_tbl := tk_tb 372 (by decide +kernel)
def y_J_isException : MethodName := ⟨"TickKeeper$Job", "isException", "(I)Z"⟩
abbrev b_J_isException : ByteArray := prog_2_method_5_code
set_option maxRecDepth 100000 in
theorem k_J_isException : tk_Cs y_J_isException b_J_isException 3 (some .boolean) 1 := ⟨tk_tb 377 (by decide +kernel), tk_tb 5 (by decide +kernel), by decide +kernel, by decide +kernel, by decide +kernel, by decide⟩
theorem kn_J_isException : Cond.instanceMethod y_J_isException ∈ lw_tbl := tk_tb 376 (by decide +kernel)
theorem kv_J_isException : Cond.selects y_J_isException.cls y_J_isException y_J_isException ∈ lw_tbl := tk_pv 0 (by decide +kernel)
def y_K_after : MethodName := ⟨"TickKeeper", "after", "(IIZ)Z"⟩
abbrev b_K_after : ByteArray := prog_1_method_10_code
set_option maxRecDepth 100000 in
theorem k_K_after : tk_Cs y_K_after b_K_after 4 (some .boolean) 3 := ⟨tk_tb 381 (by decide +kernel), tk_tb 1 (by decide +kernel), by decide +kernel, by decide +kernel, by decide +kernel, by decide⟩
theorem kn_K_after : Cond.instanceMethod y_K_after ∈ lw_tbl := tk_tb 379 (by decide +kernel)
theorem kv_K_after : Cond.selects y_K_after.cls y_K_after y_K_after ∈ lw_tbl := tk_tb 380 (by decide +kernel)
def y_K_isDue : MethodName := ⟨"TickKeeper", "isDue", "(II)Z"⟩
abbrev b_K_isDue : ByteArray := prog_1_method_11_code
set_option maxRecDepth 100000 in
theorem k_K_isDue : tk_Cs y_K_isDue b_K_isDue 3 (some .boolean) 2 := ⟨tk_tb 385 (by decide +kernel), tk_tb 1 (by decide +kernel), by decide +kernel, by decide +kernel, by decide +kernel, by decide⟩
theorem kn_K_isDue : Cond.instanceMethod y_K_isDue ∈ lw_tbl := tk_tb 383 (by decide +kernel)
theorem kv_K_isDue : Cond.selects y_K_isDue.cls y_K_isDue y_K_isDue ∈ lw_tbl := tk_tb 384 (by decide +kernel)
def y_J_firstDue : MethodName := ⟨"TickKeeper$Job", "firstDue", "(II)I"⟩
abbrev b_J_firstDue : ByteArray := prog_2_method_8_code
set_option maxRecDepth 100000 in
theorem k_J_firstDue : tk_Cs y_J_firstDue b_J_firstDue 11 (some .int) 2 := ⟨tk_tb 389 (by decide +kernel), tk_tb 5 (by decide +kernel), by decide +kernel, by decide +kernel, by decide +kernel, by decide⟩
theorem kn_J_firstDue : Cond.instanceMethod y_J_firstDue ∈ lw_tbl := tk_tb 387 (by decide +kernel)
theorem kv_J_firstDue : Cond.selects y_J_firstDue.cls y_J_firstDue y_J_firstDue ∈ lw_tbl := tk_tb 388 (by decide +kernel)
def y_Q_max : MethodName := ⟨"java/lang/Math", "max", "(II)I"⟩
abbrev b_Q_max : ByteArray := prog_14_method_65_code
set_option maxRecDepth 100000 in
theorem k_Q_max : tk_Cs y_Q_max b_Q_max 2 (some .int) 2 := ⟨tk_tb 392 (by decide +kernel), tk_tb 11 (by decide +kernel), by decide +kernel, by decide +kernel, by decide +kernel, by decide⟩
theorem ks_Q_max : Cond.static y_Q_max ∈ lw_tbl := tk_tb 391 (by decide +kernel)
def y_Z_endOf : MethodName := ⟨"TickKeeper$Zone", "endOf", "(I)I"⟩
abbrev b_Z_endOf : ByteArray := prog_10_method_6_code
set_option maxRecDepth 100000 in
theorem k_Z_endOf : tk_Cs y_Z_endOf b_Z_endOf 2 (some .int) 1 := ⟨tk_tb 396 (by decide +kernel), tk_tb 4 (by decide +kernel), by decide +kernel, by decide +kernel, by decide +kernel, by decide⟩
theorem kn_Z_endOf : Cond.instanceMethod y_Z_endOf ∈ lw_tbl := tk_tb 394 (by decide +kernel)
theorem kv_Z_endOf : Cond.selects y_Z_endOf.cls y_Z_endOf y_Z_endOf ∈ lw_tbl := tk_tb 395 (by decide +kernel)
def y_Q_min : MethodName := ⟨"java/lang/Math", "min", "(II)I"⟩
abbrev b_Q_min : ByteArray := prog_14_method_69_code
set_option maxRecDepth 100000 in
theorem k_Q_min : tk_Cs y_Q_min b_Q_min 2 (some .int) 2 := ⟨tk_tb 400 (by decide +kernel), tk_tb 11 (by decide +kernel), by decide +kernel, by decide +kernel, by decide +kernel, by decide⟩
theorem ks_Q_min : Cond.static y_Q_min ∈ lw_tbl := tk_tb 399 (by decide +kernel)
def y_Z_firstLocal : MethodName := ⟨"TickKeeper$Zone", "firstLocal", "(II)I"⟩
abbrev b_Z_firstLocal : ByteArray := prog_10_method_9_code
set_option maxRecDepth 100000 in
theorem k_Z_firstLocal : tk_Cs y_Z_firstLocal b_Z_firstLocal 4 (some .int) 2 := ⟨tk_tb 404 (by decide +kernel), tk_tb 4 (by decide +kernel), by decide +kernel, by decide +kernel, by decide +kernel, by decide⟩
theorem kn_Z_firstLocal : Cond.instanceMethod y_Z_firstLocal ∈ lw_tbl := tk_tb 402 (by decide +kernel)
theorem kv_Z_firstLocal : Cond.selects y_Z_firstLocal.cls y_Z_firstLocal y_Z_firstLocal ∈ lw_tbl := tk_tb 403 (by decide +kernel)
def y_J_firstJobMinute : MethodName := ⟨"TickKeeper$Job", "firstJobMinute", "(II)I"⟩
abbrev b_J_firstJobMinute : ByteArray := prog_2_method_7_code
set_option maxRecDepth 100000 in
theorem k_J_firstJobMinute : tk_Cs y_J_firstJobMinute b_J_firstJobMinute 7 (some .int) 2 := ⟨tk_tb 409 (by decide +kernel), tk_tb 5 (by decide +kernel), by decide +kernel, by decide +kernel, by decide +kernel, by decide⟩
theorem kn_J_firstJobMinute : Cond.instanceMethod y_J_firstJobMinute ∈ lw_tbl := tk_tb 408 (by decide +kernel)
theorem kv_J_firstJobMinute : Cond.selects y_J_firstJobMinute.cls y_J_firstJobMinute y_J_firstJobMinute ∈ lw_tbl := tk_pv 1 (by decide +kernel)
def y_U_hasNoMinute : MethodName := ⟨"TickKeeper$Rule", "hasNoMinute", "()Z"⟩
abbrev b_U_hasNoMinute : ByteArray := prog_7_method_5_code
set_option maxRecDepth 100000 in
theorem k_U_hasNoMinute : tk_Cs y_U_hasNoMinute b_U_hasNoMinute 1 (some .boolean) 0 := ⟨tk_tb 413 (by decide +kernel), tk_tb 6 (by decide +kernel), by decide +kernel, by decide +kernel, by decide +kernel, by decide⟩
theorem kn_U_hasNoMinute : Cond.instanceMethod y_U_hasNoMinute ∈ lw_tbl := tk_tb 411 (by decide +kernel)
theorem kv_U_hasNoMinute : Cond.selects y_U_hasNoMinute.cls y_U_hasNoMinute y_U_hasNoMinute ∈ lw_tbl := tk_tb 412 (by decide +kernel)
def y_Q_floorDiv : MethodName := ⟨"java/lang/Math", "floorDiv", "(II)I"⟩
abbrev b_Q_floorDiv : ByteArray := prog_14_method_47_code
set_option maxRecDepth 100000 in
theorem k_Q_floorDiv : tk_Cs y_Q_floorDiv b_Q_floorDiv 3 (some .int) 2 := ⟨tk_tb 416 (by decide +kernel), tk_tb 11 (by decide +kernel), by decide +kernel, by decide +kernel, by decide +kernel, by decide⟩
theorem ks_Q_floorDiv : Cond.static y_Q_floorDiv ∈ lw_tbl := tk_tb 415 (by decide +kernel)
def y_J_firstJobDay : MethodName := ⟨"TickKeeper$Job", "firstJobDay", "(II)I"⟩
abbrev b_J_firstJobDay : ByteArray := prog_2_method_6_code
set_option maxRecDepth 100000 in
theorem k_J_firstJobDay : tk_Cs y_J_firstJobDay b_J_firstJobDay 12 (some .int) 2 := ⟨tk_tb 420 (by decide +kernel), tk_tb 5 (by decide +kernel), by decide +kernel, by decide +kernel, by decide +kernel, by decide⟩
theorem kn_J_firstJobDay : Cond.instanceMethod y_J_firstJobDay ∈ lw_tbl := tk_tb 419 (by decide +kernel)
theorem kv_J_firstJobDay : Cond.selects y_J_firstJobDay.cls y_J_firstJobDay y_J_firstJobDay ∈ lw_tbl := tk_pv 2 (by decide +kernel)
def y_O_monthOf : MethodName := ⟨"TickKeeper$Months", "monthOf", "(I)I"⟩
abbrev b_O_monthOf : ByteArray := prog_5_method_3_code
set_option maxRecDepth 100000 in
theorem k_O_monthOf : tk_Cs y_O_monthOf b_O_monthOf 4 (some .int) 1 := ⟨tk_tb 423 (by decide +kernel), tk_tb 12 (by decide +kernel), by decide +kernel, by decide +kernel, by decide +kernel, by decide⟩
theorem ks_O_monthOf : Cond.static y_O_monthOf ∈ lw_tbl := tk_tb 422 (by decide +kernel)
def y_U_fittingDays : MethodName := ⟨"TickKeeper$Rule", "fittingDays", "(I)J"⟩
abbrev b_U_fittingDays : ByteArray := prog_7_method_3_code
set_option maxRecDepth 100000 in
theorem k_U_fittingDays : tk_Cs y_U_fittingDays b_U_fittingDays 8 (some .long) 1 := ⟨tk_tb 429 (by decide +kernel), tk_tb 6 (by decide +kernel), by decide +kernel, by decide +kernel, by decide +kernel, by decide⟩
theorem kn_U_fittingDays : Cond.instanceMethod y_U_fittingDays ∈ lw_tbl := tk_tb 427 (by decide +kernel)
theorem kv_U_fittingDays : Cond.selects y_U_fittingDays.cls y_U_fittingDays y_U_fittingDays ∈ lw_tbl := tk_tb 428 (by decide +kernel)
def y_O_lengthOf : MethodName := ⟨"TickKeeper$Months", "lengthOf", "(I)I"⟩
abbrev b_O_lengthOf : ByteArray := prog_5_method_5_code
set_option maxRecDepth 100000 in
theorem k_O_lengthOf : tk_Cs y_O_lengthOf b_O_lengthOf 2 (some .int) 1 := ⟨tk_tb 432 (by decide +kernel), tk_tb 12 (by decide +kernel), by decide +kernel, by decide +kernel, by decide +kernel, by decide⟩
theorem ks_O_lengthOf : Cond.static y_O_lengthOf ∈ lw_tbl := tk_tb 431 (by decide +kernel)
def y_U_nthWeek : MethodName := ⟨"TickKeeper$Rule", "nthWeek", "(I)J"⟩
abbrev b_U_nthWeek : ByteArray := prog_7_method_4_code
set_option maxRecDepth 100000 in
theorem k_U_nthWeek : tk_Cs y_U_nthWeek b_U_nthWeek 3 (some .long) 1 := ⟨tk_tb 437 (by decide +kernel), tk_tb 6 (by decide +kernel), by decide +kernel, by decide +kernel, by decide +kernel, by decide⟩
theorem kn_U_nthWeek : Cond.instanceMethod y_U_nthWeek ∈ lw_tbl := tk_tb 436 (by decide +kernel)
theorem kv_U_nthWeek : Cond.selects y_U_nthWeek.cls y_U_nthWeek y_U_nthWeek ∈ lw_tbl := tk_pv 3 (by decide +kernel)
def y_O_firstDayOf : MethodName := ⟨"TickKeeper$Months", "firstDayOf", "(I)I"⟩
abbrev b_O_firstDayOf : ByteArray := prog_5_method_4_code
set_option maxRecDepth 100000 in
theorem k_O_firstDayOf : tk_Cs y_O_firstDayOf b_O_firstDayOf 1 (some .int) 1 := ⟨tk_tb 441 (by decide +kernel), tk_tb 12 (by decide +kernel), by decide +kernel, by decide +kernel, by decide +kernel, by decide⟩
theorem ks_O_firstDayOf : Cond.static y_O_firstDayOf ∈ lw_tbl := tk_tb 440 (by decide +kernel)
def y_O_weekdayOf : MethodName := ⟨"TickKeeper$Months", "weekdayOf", "(I)I"⟩
abbrev b_O_weekdayOf : ByteArray := prog_5_method_2_code
set_option maxRecDepth 100000 in
theorem k_O_weekdayOf : tk_Cs y_O_weekdayOf b_O_weekdayOf 1 (some .int) 1 := ⟨tk_tb 444 (by decide +kernel), tk_tb 12 (by decide +kernel), by decide +kernel, by decide +kernel, by decide +kernel, by decide⟩
theorem ks_O_weekdayOf : Cond.static y_O_weekdayOf ∈ lw_tbl := tk_tb 443 (by decide +kernel)
def y_Z_workdayFrom : MethodName := ⟨"TickKeeper$Zone", "workdayFrom", "(II)I"⟩
abbrev b_Z_workdayFrom : ByteArray := prog_10_method_5_code
set_option maxRecDepth 100000 in
theorem k_Z_workdayFrom : tk_Cs y_Z_workdayFrom b_Z_workdayFrom 4 (some .int) 2 := ⟨tk_tb 450 (by decide +kernel), tk_tb 4 (by decide +kernel), by decide +kernel, by decide +kernel, by decide +kernel, by decide⟩
theorem kn_Z_workdayFrom : Cond.instanceMethod y_Z_workdayFrom ∈ lw_tbl := tk_tb 448 (by decide +kernel)
theorem kv_Z_workdayFrom : Cond.selects y_Z_workdayFrom.cls y_Z_workdayFrom y_Z_workdayFrom ∈ lw_tbl := tk_tb 449 (by decide +kernel)
def y_U_minuteOfDayFrom : MethodName := ⟨"TickKeeper$Rule", "minuteOfDayFrom", "(I)I"⟩
abbrev b_U_minuteOfDayFrom : ByteArray := prog_7_method_6_code
set_option maxRecDepth 100000 in
theorem k_U_minuteOfDayFrom : tk_Cs y_U_minuteOfDayFrom b_U_minuteOfDayFrom 6 (some .int) 1 := ⟨tk_tb 455 (by decide +kernel), tk_tb 6 (by decide +kernel), by decide +kernel, by decide +kernel, by decide +kernel, by decide⟩
theorem kn_U_minuteOfDayFrom : Cond.instanceMethod y_U_minuteOfDayFrom ∈ lw_tbl := tk_tb 453 (by decide +kernel)
theorem kv_U_minuteOfDayFrom : Cond.selects y_U_minuteOfDayFrom.cls y_U_minuteOfDayFrom y_U_minuteOfDayFrom ∈ lw_tbl := tk_tb 454 (by decide +kernel)
def y_U_lowestBit : MethodName := ⟨"TickKeeper$Rule", "lowestBit", "(J)I"⟩
abbrev b_U_lowestBit : ByteArray := prog_7_method_7_code
set_option maxRecDepth 100000 in
theorem k_U_lowestBit : tk_Cs y_U_lowestBit b_U_lowestBit 2 (some .int) 1 := ⟨tk_tb 458 (by decide +kernel), tk_tb 6 (by decide +kernel), by decide +kernel, by decide +kernel, by decide +kernel, by decide⟩
theorem ks_U_lowestBit : Cond.static y_U_lowestBit ∈ lw_tbl := tk_tb 457 (by decide +kernel)
def y_G_bitCount : MethodName := ⟨"java/lang/Long", "bitCount", "(J)I"⟩
abbrev b_G_bitCount : ByteArray := prog_13_method_50_code
set_option maxRecDepth 100000 in
theorem k_G_bitCount : tk_Cs y_G_bitCount b_G_bitCount 2 (some .int) 1 := ⟨tk_tb 461 (by decide +kernel), tk_tb 13 (by decide +kernel), by decide +kernel, by decide +kernel, by decide +kernel, by decide⟩
theorem ks_G_bitCount : Cond.static y_G_bitCount ∈ lw_tbl := tk_tb 460 (by decide +kernel)
def y_Z_hadUpTo : MethodName := ⟨"TickKeeper$Zone", "hadUpTo", "(II)I"⟩
abbrev b_Z_hadUpTo : ByteArray := prog_10_method_10_code
set_option maxRecDepth 100000 in
theorem k_Z_hadUpTo : tk_Cs y_Z_hadUpTo b_Z_hadUpTo 5 (some .int) 2 := ⟨tk_tb 468 (by decide +kernel), tk_tb 4 (by decide +kernel), by decide +kernel, by decide +kernel, by decide +kernel, by decide⟩
theorem kn_Z_hadUpTo : Cond.instanceMethod y_Z_hadUpTo ∈ lw_tbl := tk_tb 466 (by decide +kernel)
theorem kv_Z_hadUpTo : Cond.selects y_Z_hadUpTo.cls y_Z_hadUpTo y_Z_hadUpTo ∈ lw_tbl := tk_tb 467 (by decide +kernel)
def y_K_due : MethodName := ⟨"TickKeeper", "due", "(II)I"⟩
abbrev b_K_due : ByteArray := prog_1_method_12_code
set_option maxRecDepth 100000 in
theorem k_K_due : tk_Cs y_K_due b_K_due 3 (some .int) 2 := ⟨tk_tb 473 (by decide +kernel), tk_tb 1 (by decide +kernel), by decide +kernel, by decide +kernel, by decide +kernel, by decide⟩
theorem kn_K_due : Cond.instanceMethod y_K_due ∈ lw_tbl := tk_tb 471 (by decide +kernel)
theorem kv_K_due : Cond.selects y_K_due.cls y_K_due y_K_due ∈ lw_tbl := tk_tb 472 (by decide +kernel)
def y_K_wake : MethodName := ⟨"TickKeeper", "wake", "(I)I"⟩
abbrev b_K_wake : ByteArray := prog_1_method_13_code
set_option maxRecDepth 100000 in
theorem k_K_wake : tk_Cs y_K_wake b_K_wake 5 (some .int) 1 := ⟨tk_tb 477 (by decide +kernel), tk_tb 1 (by decide +kernel), by decide +kernel, by decide +kernel, by decide +kernel, by decide⟩
theorem kn_K_wake : Cond.instanceMethod y_K_wake ∈ lw_tbl := tk_tb 475 (by decide +kernel)
theorem kv_K_wake : Cond.selects y_K_wake.cls y_K_wake y_K_wake ∈ lw_tbl := tk_tb 476 (by decide +kernel)
def y_K_isScheduler : MethodName := ⟨"TickKeeper", "isScheduler", "(I)Z"⟩
abbrev b_K_isScheduler : ByteArray := prog_1_method_27_code
set_option maxRecDepth 100000 in
theorem k_K_isScheduler : tk_Cs y_K_isScheduler b_K_isScheduler 1 (some .boolean) 1 := ⟨tk_tb 480 (by decide +kernel), tk_tb 1 (by decide +kernel), by decide +kernel, by decide +kernel, by decide +kernel, by decide⟩
theorem ks_K_isScheduler : Cond.static y_K_isScheduler ∈ lw_tbl := tk_tb 479 (by decide +kernel)
def y_K_hasWork : MethodName := ⟨"TickKeeper", "hasWork", "(LTickKeeper$Seat;LTickKeeper$Job;)Z"⟩
abbrev b_K_hasWork : ByteArray := prog_1_method_31_code
set_option maxRecDepth 100000 in
theorem k_K_hasWork : tk_Cs y_K_hasWork b_K_hasWork 3 (some .boolean) 2 := ⟨tk_tb 484 (by decide +kernel), tk_tb 1 (by decide +kernel), by decide +kernel, by decide +kernel, by decide +kernel, by decide⟩
theorem kn_K_hasWork : Cond.instanceMethod y_K_hasWork ∈ lw_tbl := tk_tb 483 (by decide +kernel)
theorem kv_K_hasWork : Cond.selects y_K_hasWork.cls y_K_hasWork y_K_hasWork ∈ lw_tbl := tk_pv 4 (by decide +kernel)
def y_J_hasNext : MethodName := ⟨"TickKeeper$Job", "hasNext", "(II)Z"⟩
abbrev b_J_hasNext : ByteArray := prog_2_method_10_code
set_option maxRecDepth 100000 in
theorem k_J_hasNext : tk_Cs y_J_hasNext b_J_hasNext 3 (some .boolean) 2 := ⟨tk_tb 488 (by decide +kernel), tk_tb 5 (by decide +kernel), by decide +kernel, by decide +kernel, by decide +kernel, by decide⟩
theorem kn_J_hasNext : Cond.instanceMethod y_J_hasNext ∈ lw_tbl := tk_tb 486 (by decide +kernel)
theorem kv_J_hasNext : Cond.selects y_J_hasNext.cls y_J_hasNext y_J_hasNext ∈ lw_tbl := tk_tb 487 (by decide +kernel)
def y_J_earliestWanted : MethodName := ⟨"TickKeeper$Job", "earliestWanted", "(II)I"⟩
abbrev b_J_earliestWanted : ByteArray := prog_2_method_9_code
set_option maxRecDepth 100000 in
theorem k_J_earliestWanted : tk_Cs y_J_earliestWanted b_J_earliestWanted 3 (some .int) 2 := ⟨tk_tb 492 (by decide +kernel), tk_tb 5 (by decide +kernel), by decide +kernel, by decide +kernel, by decide +kernel, by decide⟩
theorem kn_J_earliestWanted : Cond.instanceMethod y_J_earliestWanted ∈ lw_tbl := tk_tb 491 (by decide +kernel)
theorem kv_J_earliestWanted : Cond.selects y_J_earliestWanted.cls y_J_earliestWanted y_J_earliestWanted ∈ lw_tbl := tk_pv 5 (by decide +kernel)
def y_E_beginRound : MethodName := ⟨"TickKeeper$Seat", "beginRound", "(I)V"⟩
abbrev b_E_beginRound : ByteArray := prog_9_method_2_code
set_option maxRecDepth 100000 in
theorem k_E_beginRound : tk_Cs y_E_beginRound b_E_beginRound 3 none 1 := ⟨tk_tb 497 (by decide +kernel), tk_tb 9 (by decide +kernel), by decide +kernel, by decide +kernel, by decide +kernel, by decide⟩
theorem kn_E_beginRound : Cond.instanceMethod y_E_beginRound ∈ lw_tbl := tk_tb 495 (by decide +kernel)
theorem kv_E_beginRound : Cond.selects y_E_beginRound.cls y_E_beginRound y_E_beginRound ∈ lw_tbl := tk_tb 496 (by decide +kernel)
def y_E_endRound : MethodName := ⟨"TickKeeper$Seat", "endRound", "()V"⟩
abbrev b_E_endRound : ByteArray := prog_9_method_3_code
set_option maxRecDepth 100000 in
theorem k_E_endRound : tk_Cs y_E_endRound b_E_endRound 1 none 0 := ⟨tk_tb 501 (by decide +kernel), tk_tb 9 (by decide +kernel), by decide +kernel, by decide +kernel, by decide +kernel, by decide⟩
theorem kn_E_endRound : Cond.instanceMethod y_E_endRound ∈ lw_tbl := tk_tb 499 (by decide +kernel)
theorem kv_E_endRound : Cond.selects y_E_endRound.cls y_E_endRound y_E_endRound ∈ lw_tbl := tk_tb 500 (by decide +kernel)
def y_K_sendToOthers : MethodName := ⟨"TickKeeper", "sendToOthers", "(III)V"⟩
abbrev b_K_sendToOthers : ByteArray := prog_1_method_32_code
set_option maxRecDepth 100000 in
theorem k_K_sendToOthers : tk_Cs y_K_sendToOthers b_K_sendToOthers 7 none 3 := ⟨tk_tb 505 (by decide +kernel), tk_tb 1 (by decide +kernel), by decide +kernel, by decide +kernel, by decide +kernel, by decide⟩
theorem kn_K_sendToOthers : Cond.instanceMethod y_K_sendToOthers ∈ lw_tbl := tk_tb 504 (by decide +kernel)
theorem kv_K_sendToOthers : Cond.selects y_K_sendToOthers.cls y_K_sendToOthers y_K_sendToOthers ∈ lw_tbl := tk_pv 6 (by decide +kernel)
def y_P_open : MethodName := ⟨"TickKeeper$Post", "open", "(IIII)LTickKeeper$Letter;"⟩
abbrev b_P_open : ByteArray := prog_6_method_3_code
set_option maxRecDepth 100000 in
theorem k_P_open : tk_Cs y_P_open b_P_open 6 (some (.object "TickKeeper$Letter")) 4 := ⟨tk_tb 509 (by decide +kernel), tk_tb 2 (by decide +kernel), by decide +kernel, by decide +kernel, by decide +kernel, by decide⟩
theorem kn_P_open : Cond.instanceMethod y_P_open ∈ lw_tbl := tk_tb 507 (by decide +kernel)
theorem kv_P_open : Cond.selects y_P_open.cls y_P_open y_P_open ∈ lw_tbl := tk_tb 508 (by decide +kernel)
def y_K_up : MethodName := ⟨"TickKeeper", "up", "(IZ)Z"⟩
abbrev b_K_up : ByteArray := prog_1_method_14_code
set_option maxRecDepth 100000 in
theorem k_K_up : tk_Cs y_K_up b_K_up 3 (some .boolean) 2 := ⟨tk_tb 513 (by decide +kernel), tk_tb 1 (by decide +kernel), by decide +kernel, by decide +kernel, by decide +kernel, by decide⟩
theorem kn_K_up : Cond.instanceMethod y_K_up ∈ lw_tbl := tk_tb 511 (by decide +kernel)
theorem kv_K_up : Cond.selects y_K_up.cls y_K_up y_K_up ∈ lw_tbl := tk_tb 512 (by decide +kernel)
def y_S_forget : MethodName := ⟨"TickKeeper$Scheduler", "forget", "()V"⟩
abbrev b_S_forget : ByteArray := prog_8_method_2_code
set_option maxRecDepth 100000 in
theorem k_S_forget : tk_Cs y_S_forget b_S_forget 2 none 0 := ⟨tk_tb 517 (by decide +kernel), tk_tb 8 (by decide +kernel), by decide +kernel, by decide +kernel, by decide +kernel, by decide⟩
theorem kn_S_forget : Cond.instanceMethod y_S_forget ∈ lw_tbl := tk_tb 515 (by decide +kernel)
theorem kv_S_forget : Cond.selects y_S_forget.cls y_S_forget y_S_forget ∈ lw_tbl := tk_tb 516 (by decide +kernel)
def y_K_desk : MethodName := ⟨"TickKeeper", "desk", "(IZ)Z"⟩
abbrev b_K_desk : ByteArray := prog_1_method_15_code
set_option maxRecDepth 100000 in
theorem k_K_desk : tk_Cs y_K_desk b_K_desk 3 (some .boolean) 2 := ⟨tk_tb 522 (by decide +kernel), tk_tb 1 (by decide +kernel), by decide +kernel, by decide +kernel, by decide +kernel, by decide⟩
theorem kn_K_desk : Cond.instanceMethod y_K_desk ∈ lw_tbl := tk_tb 520 (by decide +kernel)
theorem kv_K_desk : Cond.selects y_K_desk.cls y_K_desk y_K_desk ∈ lw_tbl := tk_tb 521 (by decide +kernel)
def y_K_register : MethodName := ⟨"TickKeeper", "register", "(III)I"⟩
abbrev b_K_register : ByteArray := prog_1_method_16_code
set_option maxRecDepth 100000 in
theorem k_K_register : tk_Cs y_K_register b_K_register 4 (some .int) 3 := ⟨tk_tb 526 (by decide +kernel), tk_tb 1 (by decide +kernel), by decide +kernel, by decide +kernel, by decide +kernel, by decide⟩
theorem kn_K_register : Cond.instanceMethod y_K_register ∈ lw_tbl := tk_tb 524 (by decide +kernel)
theorem kv_K_register : Cond.selects y_K_register.cls y_K_register y_K_register ∈ lw_tbl := tk_tb 525 (by decide +kernel)
def y_E_tell : MethodName := ⟨"TickKeeper$Seat", "tell", "(I)I"⟩
abbrev b_E_tell : ByteArray := prog_9_method_8_code
set_option maxRecDepth 100000 in
theorem k_E_tell : tk_Cs y_E_tell b_E_tell 2 (some .int) 1 := ⟨tk_tb 530 (by decide +kernel), tk_tb 9 (by decide +kernel), by decide +kernel, by decide +kernel, by decide +kernel, by decide⟩
theorem kn_E_tell : Cond.instanceMethod y_E_tell ∈ lw_tbl := tk_tb 528 (by decide +kernel)
theorem kv_E_tell : Cond.selects y_E_tell.cls y_E_tell y_E_tell ∈ lw_tbl := tk_tb 529 (by decide +kernel)
def y_K_effects : MethodName := ⟨"TickKeeper", "effects", "(I)I"⟩
abbrev b_K_effects : ByteArray := prog_1_method_17_code
set_option maxRecDepth 100000 in
theorem k_K_effects : tk_Cs y_K_effects b_K_effects 2 (some .int) 1 := ⟨tk_tb 534 (by decide +kernel), tk_tb 1 (by decide +kernel), by decide +kernel, by decide +kernel, by decide +kernel, by decide⟩
theorem kn_K_effects : Cond.instanceMethod y_K_effects ∈ lw_tbl := tk_tb 532 (by decide +kernel)
theorem kv_K_effects : Cond.selects y_K_effects.cls y_K_effects y_K_effects ∈ lw_tbl := tk_tb 533 (by decide +kernel)
def y_K_effect : MethodName := ⟨"TickKeeper", "effect", "(III)I"⟩
abbrev b_K_effect : ByteArray := prog_1_method_18_code
set_option maxRecDepth 100000 in
theorem k_K_effect : tk_Cs y_K_effect b_K_effect 4 (some .int) 3 := ⟨tk_tb 538 (by decide +kernel), tk_tb 1 (by decide +kernel), by decide +kernel, by decide +kernel, by decide +kernel, by decide⟩
theorem kn_K_effect : Cond.instanceMethod y_K_effect ∈ lw_tbl := tk_tb 536 (by decide +kernel)
theorem kv_K_effect : Cond.selects y_K_effect.cls y_K_effect y_K_effect ∈ lw_tbl := tk_tb 537 (by decide +kernel)
def y_K_letters : MethodName := ⟨"TickKeeper", "letters", "()I"⟩
abbrev b_K_letters : ByteArray := prog_1_method_19_code
set_option maxRecDepth 100000 in
theorem k_K_letters : tk_Cs y_K_letters b_K_letters 1 (some .int) 0 := ⟨tk_tb 542 (by decide +kernel), tk_tb 1 (by decide +kernel), by decide +kernel, by decide +kernel, by decide +kernel, by decide⟩
theorem kn_K_letters : Cond.instanceMethod y_K_letters ∈ lw_tbl := tk_tb 540 (by decide +kernel)
theorem kv_K_letters : Cond.selects y_K_letters.cls y_K_letters y_K_letters ∈ lw_tbl := tk_tb 541 (by decide +kernel)
def y_K_deliver : MethodName := ⟨"TickKeeper", "deliver", "(I)I"⟩
abbrev b_K_deliver : ByteArray := prog_1_method_20_code
set_option maxRecDepth 100000 in
theorem k_K_deliver : tk_Cs y_K_deliver b_K_deliver 3 (some .int) 1 := ⟨tk_tb 546 (by decide +kernel), tk_tb 1 (by decide +kernel), by decide +kernel, by decide +kernel, by decide +kernel, by decide⟩
theorem kn_K_deliver : Cond.instanceMethod y_K_deliver ∈ lw_tbl := tk_tb 544 (by decide +kernel)
theorem kv_K_deliver : Cond.selects y_K_deliver.cls y_K_deliver y_K_deliver ∈ lw_tbl := tk_tb 545 (by decide +kernel)
def y_P_holds : MethodName := ⟨"TickKeeper$Post", "holds", "(I)Z"⟩
abbrev b_P_holds : ByteArray := prog_6_method_2_code
set_option maxRecDepth 100000 in
theorem k_P_holds : tk_Cs y_P_holds b_P_holds 2 (some .boolean) 1 := ⟨tk_tb 550 (by decide +kernel), tk_tb 2 (by decide +kernel), by decide +kernel, by decide +kernel, by decide +kernel, by decide⟩
theorem kn_P_holds : Cond.instanceMethod y_P_holds ∈ lw_tbl := tk_tb 548 (by decide +kernel)
theorem kv_P_holds : Cond.selects y_P_holds.cls y_P_holds y_P_holds ∈ lw_tbl := tk_tb 549 (by decide +kernel)
def y_P_take : MethodName := ⟨"TickKeeper$Post", "take", "(I)LTickKeeper$Letter;"⟩
abbrev b_P_take : ByteArray := prog_6_method_4_code
set_option maxRecDepth 100000 in
theorem k_P_take : tk_Cs y_P_take b_P_take 4 (some (.object "TickKeeper$Letter")) 1 := ⟨tk_tb 554 (by decide +kernel), tk_tb 2 (by decide +kernel), by decide +kernel, by decide +kernel, by decide +kernel, by decide⟩
theorem kn_P_take : Cond.instanceMethod y_P_take ∈ lw_tbl := tk_tb 552 (by decide +kernel)
theorem kv_P_take : Cond.selects y_P_take.cls y_P_take y_P_take ∈ lw_tbl := tk_tb 553 (by decide +kernel)
def y_K_isHeard : MethodName := ⟨"TickKeeper", "isHeard", "(LTickKeeper$Letter;)Z"⟩
abbrev b_K_isHeard : ByteArray := prog_1_method_28_code
set_option maxRecDepth 100000 in
theorem k_K_isHeard : tk_Cs y_K_isHeard b_K_isHeard 2 (some .boolean) 1 := ⟨tk_tb 558 (by decide +kernel), tk_tb 1 (by decide +kernel), by decide +kernel, by decide +kernel, by decide +kernel, by decide⟩
theorem kn_K_isHeard : Cond.instanceMethod y_K_isHeard ∈ lw_tbl := tk_tb 557 (by decide +kernel)
theorem kv_K_isHeard : Cond.selects y_K_isHeard.cls y_K_isHeard y_K_isHeard ∈ lw_tbl := tk_pv 7 (by decide +kernel)
def y_K_hearPrepare : MethodName := ⟨"TickKeeper", "hearPrepare", "(LTickKeeper$Letter;)V"⟩
abbrev b_K_hearPrepare : ByteArray := prog_1_method_33_code
set_option maxRecDepth 100000 in
theorem k_K_hearPrepare : tk_Cs y_K_hearPrepare b_K_hearPrepare 4 none 1 := ⟨tk_tb 562 (by decide +kernel), tk_tb 1 (by decide +kernel), by decide +kernel, by decide +kernel, by decide +kernel, by decide⟩
theorem kn_K_hearPrepare : Cond.instanceMethod y_K_hearPrepare ∈ lw_tbl := tk_tb 561 (by decide +kernel)
theorem kv_K_hearPrepare : Cond.selects y_K_hearPrepare.cls y_K_hearPrepare y_K_hearPrepare ∈ lw_tbl := tk_pv 8 (by decide +kernel)
def y_K_seatOf : MethodName := ⟨"TickKeeper", "seatOf", "(LTickKeeper$Letter;)LTickKeeper$Seat;"⟩
abbrev b_K_seatOf : ByteArray := prog_1_method_29_code
set_option maxRecDepth 100000 in
theorem k_K_seatOf : tk_Cs y_K_seatOf b_K_seatOf 2 (some (.object "TickKeeper$Seat")) 1 := ⟨tk_tb 566 (by decide +kernel), tk_tb 1 (by decide +kernel), by decide +kernel, by decide +kernel, by decide +kernel, by decide⟩
theorem kn_K_seatOf : Cond.instanceMethod y_K_seatOf ∈ lw_tbl := tk_tb 565 (by decide +kernel)
theorem kv_K_seatOf : Cond.selects y_K_seatOf.cls y_K_seatOf y_K_seatOf ∈ lw_tbl := tk_pv 9 (by decide +kernel)
def y_K_answer : MethodName := ⟨"TickKeeper", "answer", "(LTickKeeper$Letter;I)LTickKeeper$Letter;"⟩
abbrev b_K_answer : ByteArray := prog_1_method_30_code
set_option maxRecDepth 100000 in
theorem k_K_answer : tk_Cs y_K_answer b_K_answer 3 (some (.object "TickKeeper$Letter")) 2 := ⟨tk_tb 570 (by decide +kernel), tk_tb 1 (by decide +kernel), by decide +kernel, by decide +kernel, by decide +kernel, by decide⟩
theorem kn_K_answer : Cond.instanceMethod y_K_answer ∈ lw_tbl := tk_tb 569 (by decide +kernel)
theorem kv_K_answer : Cond.selects y_K_answer.cls y_K_answer y_K_answer ∈ lw_tbl := tk_pv 10 (by decide +kernel)
def y_K_hearPromised : MethodName := ⟨"TickKeeper", "hearPromised", "(LTickKeeper$Letter;)V"⟩
abbrev b_K_hearPromised : ByteArray := prog_1_method_34_code
set_option maxRecDepth 100000 in
theorem k_K_hearPromised : tk_Cs y_K_hearPromised b_K_hearPromised 8 none 1 := ⟨tk_tb 574 (by decide +kernel), tk_tb 1 (by decide +kernel), by decide +kernel, by decide +kernel, by decide +kernel, by decide⟩
theorem kn_K_hearPromised : Cond.instanceMethod y_K_hearPromised ∈ lw_tbl := tk_tb 573 (by decide +kernel)
theorem kv_K_hearPromised : Cond.selects y_K_hearPromised.cls y_K_hearPromised y_K_hearPromised ∈ lw_tbl := tk_pv 11 (by decide +kernel)
def y_E_isAt : MethodName := ⟨"TickKeeper$Seat", "isAt", "(II)Z"⟩
abbrev b_E_isAt : ByteArray := prog_9_method_4_code
set_option maxRecDepth 100000 in
theorem k_E_isAt : tk_Cs y_E_isAt b_E_isAt 3 (some .boolean) 2 := ⟨tk_tb 578 (by decide +kernel), tk_tb 9 (by decide +kernel), by decide +kernel, by decide +kernel, by decide +kernel, by decide⟩
theorem kn_E_isAt : Cond.instanceMethod y_E_isAt ∈ lw_tbl := tk_tb 576 (by decide +kernel)
theorem kv_E_isAt : Cond.selects y_E_isAt.cls y_E_isAt y_E_isAt ∈ lw_tbl := tk_tb 577 (by decide +kernel)
def y_J_nextMoment : MethodName := ⟨"TickKeeper$Job", "nextMoment", "(II)I"⟩
abbrev b_J_nextMoment : ByteArray := prog_2_method_11_code
set_option maxRecDepth 100000 in
theorem k_J_nextMoment : tk_Cs y_J_nextMoment b_J_nextMoment 8 (some .int) 2 := ⟨tk_tb 582 (by decide +kernel), tk_tb 5 (by decide +kernel), by decide +kernel, by decide +kernel, by decide +kernel, by decide⟩
theorem kn_J_nextMoment : Cond.instanceMethod y_J_nextMoment ∈ lw_tbl := tk_tb 580 (by decide +kernel)
theorem kv_J_nextMoment : Cond.selects y_J_nextMoment.cls y_J_nextMoment y_J_nextMoment ∈ lw_tbl := tk_tb 581 (by decide +kernel)
def y_K_hasToWait : MethodName := ⟨"TickKeeper", "hasToWait", "(LTickKeeper$Scheduler;LTickKeeper$Job;I)Z"⟩
abbrev b_K_hasToWait : ByteArray := prog_1_method_35_code
set_option maxRecDepth 100000 in
theorem k_K_hasToWait : tk_Cs y_K_hasToWait b_K_hasToWait 7 (some .boolean) 3 := ⟨tk_tb 586 (by decide +kernel), tk_tb 1 (by decide +kernel), by decide +kernel, by decide +kernel, by decide +kernel, by decide⟩
theorem kn_K_hasToWait : Cond.instanceMethod y_K_hasToWait ∈ lw_tbl := tk_tb 585 (by decide +kernel)
theorem kv_K_hasToWait : Cond.selects y_K_hasToWait.cls y_K_hasToWait y_K_hasToWait ∈ lw_tbl := tk_pv 12 (by decide +kernel)
def y_Z_localDay : MethodName := ⟨"TickKeeper$Zone", "localDay", "(I)I"⟩
abbrev b_Z_localDay : ByteArray := prog_10_method_8_code
set_option maxRecDepth 100000 in
theorem k_Z_localDay : tk_Cs y_Z_localDay b_Z_localDay 2 (some .int) 1 := ⟨tk_tb 590 (by decide +kernel), tk_tb 4 (by decide +kernel), by decide +kernel, by decide +kernel, by decide +kernel, by decide⟩
theorem kn_Z_localDay : Cond.instanceMethod y_Z_localDay ∈ lw_tbl := tk_tb 588 (by decide +kernel)
theorem kv_Z_localDay : Cond.selects y_Z_localDay.cls y_Z_localDay y_Z_localDay ∈ lw_tbl := tk_tb 589 (by decide +kernel)
def y_E_claim : MethodName := ⟨"TickKeeper$Seat", "claim", "(II)V"⟩
abbrev b_E_claim : ByteArray := prog_9_method_5_code
set_option maxRecDepth 100000 in
theorem k_E_claim : tk_Cs y_E_claim b_E_claim 3 none 2 := ⟨tk_tb 597 (by decide +kernel), tk_tb 9 (by decide +kernel), by decide +kernel, by decide +kernel, by decide +kernel, by decide⟩
theorem kn_E_claim : Cond.instanceMethod y_E_claim ∈ lw_tbl := tk_tb 595 (by decide +kernel)
theorem kv_E_claim : Cond.selects y_E_claim.cls y_E_claim y_E_claim ∈ lw_tbl := tk_tb 596 (by decide +kernel)
def y_E_accept : MethodName := ⟨"TickKeeper$Seat", "accept", "(III)V"⟩
abbrev b_E_accept : ByteArray := prog_9_method_6_code
set_option maxRecDepth 100000 in
theorem k_E_accept : tk_Cs y_E_accept b_E_accept 4 none 3 := ⟨tk_tb 601 (by decide +kernel), tk_tb 9 (by decide +kernel), by decide +kernel, by decide +kernel, by decide +kernel, by decide⟩
theorem kn_E_accept : Cond.instanceMethod y_E_accept ∈ lw_tbl := tk_tb 599 (by decide +kernel)
theorem kv_E_accept : Cond.selects y_E_accept.cls y_E_accept y_E_accept ∈ lw_tbl := tk_tb 600 (by decide +kernel)
def y_K_hearAccept : MethodName := ⟨"TickKeeper", "hearAccept", "(LTickKeeper$Letter;)V"⟩
abbrev b_K_hearAccept : ByteArray := prog_1_method_36_code
set_option maxRecDepth 100000 in
theorem k_K_hearAccept : tk_Cs y_K_hearAccept b_K_hearAccept 3 none 1 := ⟨tk_tb 605 (by decide +kernel), tk_tb 1 (by decide +kernel), by decide +kernel, by decide +kernel, by decide +kernel, by decide⟩
theorem kn_K_hearAccept : Cond.instanceMethod y_K_hearAccept ∈ lw_tbl := tk_tb 604 (by decide +kernel)
theorem kv_K_hearAccept : Cond.selects y_K_hearAccept.cls y_K_hearAccept y_K_hearAccept ∈ lw_tbl := tk_pv 13 (by decide +kernel)
def y_K_hearAccepted : MethodName := ⟨"TickKeeper", "hearAccepted", "(LTickKeeper$Letter;)V"⟩
abbrev b_K_hearAccepted : ByteArray := prog_1_method_37_code
set_option maxRecDepth 100000 in
theorem k_K_hearAccepted : tk_Cs y_K_hearAccepted b_K_hearAccepted 4 none 1 := ⟨tk_tb 610 (by decide +kernel), tk_tb 1 (by decide +kernel), by decide +kernel, by decide +kernel, by decide +kernel, by decide⟩
theorem kn_K_hearAccepted : Cond.instanceMethod y_K_hearAccepted ∈ lw_tbl := tk_tb 609 (by decide +kernel)
theorem kv_K_hearAccepted : Cond.selects y_K_hearAccepted.cls y_K_hearAccepted y_K_hearAccepted ∈ lw_tbl := tk_pv 14 (by decide +kernel)
def y_K_hearEffect : MethodName := ⟨"TickKeeper", "hearEffect", "(LTickKeeper$Letter;)V"⟩
abbrev b_K_hearEffect : ByteArray := prog_1_method_38_code
set_option maxRecDepth 100000 in
theorem k_K_hearEffect : tk_Cs y_K_hearEffect b_K_hearEffect 5 none 1 := ⟨tk_tb 614 (by decide +kernel), tk_tb 1 (by decide +kernel), by decide +kernel, by decide +kernel, by decide +kernel, by decide⟩
theorem kn_K_hearEffect : Cond.instanceMethod y_K_hearEffect ∈ lw_tbl := tk_tb 613 (by decide +kernel)
theorem kv_K_hearEffect : Cond.selects y_K_hearEffect.cls y_K_hearEffect y_K_hearEffect ∈ lw_tbl := tk_pv 15 (by decide +kernel)
def y_N_enter : MethodName := ⟨"TickKeeper$Journal", "enter", "(II)V"⟩
abbrev b_N_enter : ByteArray := prog_3_method_3_code
set_option maxRecDepth 100000 in
theorem k_N_enter : tk_Cs y_N_enter b_N_enter 4 none 2 := ⟨tk_tb 618 (by decide +kernel), tk_tb 7 (by decide +kernel), by decide +kernel, by decide +kernel, by decide +kernel, by decide⟩
theorem kn_N_enter : Cond.instanceMethod y_N_enter ∈ lw_tbl := tk_tb 616 (by decide +kernel)
theorem kv_N_enter : Cond.selects y_N_enter.cls y_N_enter y_N_enter ∈ lw_tbl := tk_tb 617 (by decide +kernel)
def y_N_lastMoment : MethodName := ⟨"TickKeeper$Journal", "lastMoment", "()I"⟩
abbrev b_N_lastMoment : ByteArray := prog_3_method_2_code
set_option maxRecDepth 100000 in
theorem k_N_lastMoment : tk_Cs y_N_lastMoment b_N_lastMoment 1 (some .int) 0 := ⟨tk_tb 623 (by decide +kernel), tk_tb 7 (by decide +kernel), by decide +kernel, by decide +kernel, by decide +kernel, by decide⟩
theorem kn_N_lastMoment : Cond.instanceMethod y_N_lastMoment ∈ lw_tbl := tk_tb 621 (by decide +kernel)
theorem kv_N_lastMoment : Cond.selects y_N_lastMoment.cls y_N_lastMoment y_N_lastMoment ∈ lw_tbl := tk_tb 622 (by decide +kernel)
def y_E_learn : MethodName := ⟨"TickKeeper$Seat", "learn", "(I)V"⟩
abbrev b_E_learn : ByteArray := prog_9_method_7_code
set_option maxRecDepth 100000 in
theorem k_E_learn : tk_Cs y_E_learn b_E_learn 2 none 1 := ⟨tk_tb 628 (by decide +kernel), tk_tb 9 (by decide +kernel), by decide +kernel, by decide +kernel, by decide +kernel, by decide⟩
theorem kn_E_learn : Cond.instanceMethod y_E_learn ∈ lw_tbl := tk_tb 626 (by decide +kernel)
theorem kv_E_learn : Cond.selects y_E_learn.cls y_E_learn y_E_learn ∈ lw_tbl := tk_tb 627 (by decide +kernel)
def y_K_lose : MethodName := ⟨"TickKeeper", "lose", "(I)Z"⟩
abbrev b_K_lose : ByteArray := prog_1_method_21_code
set_option maxRecDepth 100000 in
theorem k_K_lose : tk_Cs y_K_lose b_K_lose 2 (some .boolean) 1 := ⟨tk_tb 633 (by decide +kernel), tk_tb 1 (by decide +kernel), by decide +kernel, by decide +kernel, by decide +kernel, by decide⟩
theorem kn_K_lose : Cond.instanceMethod y_K_lose ∈ lw_tbl := tk_tb 631 (by decide +kernel)
theorem kv_K_lose : Cond.selects y_K_lose.cls y_K_lose y_K_lose ∈ lw_tbl := tk_tb 632 (by decide +kernel)
def y_K_twin : MethodName := ⟨"TickKeeper", "twin", "(I)Z"⟩
abbrev b_K_twin : ByteArray := prog_1_method_22_code
set_option maxRecDepth 100000 in
theorem k_K_twin : tk_Cs y_K_twin b_K_twin 2 (some .boolean) 1 := ⟨tk_tb 637 (by decide +kernel), tk_tb 1 (by decide +kernel), by decide +kernel, by decide +kernel, by decide +kernel, by decide⟩
theorem kn_K_twin : Cond.instanceMethod y_K_twin ∈ lw_tbl := tk_tb 635 (by decide +kernel)
theorem kv_K_twin : Cond.selects y_K_twin.cls y_K_twin y_K_twin ∈ lw_tbl := tk_tb 636 (by decide +kernel)
def y_P_copyToEnd : MethodName := ⟨"TickKeeper$Post", "copyToEnd", "(I)V"⟩
abbrev b_P_copyToEnd : ByteArray := prog_6_method_5_code
set_option maxRecDepth 100000 in
theorem k_P_copyToEnd : tk_Cs y_P_copyToEnd b_P_copyToEnd 4 none 1 := ⟨tk_tb 641 (by decide +kernel), tk_tb 2 (by decide +kernel), by decide +kernel, by decide +kernel, by decide +kernel, by decide⟩
theorem kn_P_copyToEnd : Cond.instanceMethod y_P_copyToEnd ∈ lw_tbl := tk_tb 639 (by decide +kernel)
theorem kv_P_copyToEnd : Cond.selects y_P_copyToEnd.cls y_P_copyToEnd y_P_copyToEnd ∈ lw_tbl := tk_tb 640 (by decide +kernel)
def y_K_letter : MethodName := ⟨"TickKeeper", "letter", "(II)I"⟩
abbrev b_K_letter : ByteArray := prog_1_method_23_code
set_option maxRecDepth 100000 in
theorem k_K_letter : tk_Cs y_K_letter b_K_letter 3 (some .int) 2 := ⟨tk_tb 646 (by decide +kernel), tk_tb 1 (by decide +kernel), by decide +kernel, by decide +kernel, by decide +kernel, by decide⟩
theorem kn_K_letter : Cond.instanceMethod y_K_letter ∈ lw_tbl := tk_tb 644 (by decide +kernel)
theorem kv_K_letter : Cond.selects y_K_letter.cls y_K_letter y_K_letter ∈ lw_tbl := tk_tb 645 (by decide +kernel)
def y_L_tell : MethodName := ⟨"TickKeeper$Letter", "tell", "(I)I"⟩
abbrev b_L_tell : ByteArray := prog_4_method_2_code
set_option maxRecDepth 100000 in
theorem k_L_tell : tk_Cs y_L_tell b_L_tell 2 (some .int) 1 := ⟨tk_tb 650 (by decide +kernel), tk_tb 3 (by decide +kernel), by decide +kernel, by decide +kernel, by decide +kernel, by decide⟩
theorem kn_L_tell : Cond.instanceMethod y_L_tell ∈ lw_tbl := tk_tb 648 (by decide +kernel)
theorem kv_L_tell : Cond.selects y_L_tell.cls y_L_tell y_L_tell ∈ lw_tbl := tk_tb 649 (by decide +kernel)
def y_M_init : MethodName := ⟨"TickKeeperModel", "<init>", "()V"⟩
abbrev b_M_init : ByteArray := prog_12_method_1_code
set_option maxRecDepth 100000 in
theorem k_M_init : tk_Cs y_M_init b_M_init 2 none 0 := ⟨tk_tb 655 (by decide +kernel), tk_tb 10 (by decide +kernel), by decide +kernel, by decide +kernel, by decide +kernel, by decide⟩
theorem kn_M_init : Cond.instanceMethod y_M_init ∈ lw_tbl := tk_tb 654 (by decide +kernel)
def y_M_time : MethodName := ⟨"TickKeeperModel", "time", "(I)Z"⟩
abbrev b_M_time : ByteArray := prog_12_method_8_code
set_option maxRecDepth 100000 in
theorem k_M_time : tk_Cs y_M_time b_M_time 2 (some .boolean) 1 := ⟨tk_tb 791 (by decide +kernel), tk_tb 10 (by decide +kernel), by decide +kernel, by decide +kernel, by decide +kernel, by decide⟩
theorem kn_M_time : Cond.instanceMethod y_M_time ∈ lw_tbl := tk_tb 789 (by decide +kernel)
theorem kv_M_time : Cond.selects y_M_time.cls y_M_time y_M_time ∈ lw_tbl := tk_tb 790 (by decide +kernel)
def y_M_shift : MethodName := ⟨"TickKeeperModel", "shift", "(III)Z"⟩
abbrev b_M_shift : ByteArray := prog_12_method_9_code
set_option maxRecDepth 100000 in
theorem k_M_shift : tk_Cs y_M_shift b_M_shift 4 (some .boolean) 3 := ⟨tk_tb 796 (by decide +kernel), tk_tb 10 (by decide +kernel), by decide +kernel, by decide +kernel, by decide +kernel, by decide⟩
theorem kn_M_shift : Cond.instanceMethod y_M_shift ∈ lw_tbl := tk_tb 794 (by decide +kernel)
theorem kv_M_shift : Cond.selects y_M_shift.cls y_M_shift y_M_shift ∈ lw_tbl := tk_tb 795 (by decide +kernel)
def y_M_isZone : MethodName := ⟨"TickKeeperModel", "isZone", "(I)Z"⟩
abbrev b_M_isZone : ByteArray := prog_12_method_6_code
set_option maxRecDepth 100000 in
theorem k_M_isZone : tk_Cs y_M_isZone b_M_isZone 1 (some .boolean) 1 := ⟨tk_tb 799 (by decide +kernel), tk_tb 10 (by decide +kernel), by decide +kernel, by decide +kernel, by decide +kernel, by decide⟩
theorem ks_M_isZone : Cond.static y_M_isZone ∈ lw_tbl := tk_tb 798 (by decide +kernel)
def y_M_isMinute : MethodName := ⟨"TickKeeperModel", "isMinute", "(I)Z"⟩
abbrev b_M_isMinute : ByteArray := prog_12_method_7_code
set_option maxRecDepth 100000 in
theorem k_M_isMinute : tk_Cs y_M_isMinute b_M_isMinute 1 (some .boolean) 1 := ⟨tk_tb 802 (by decide +kernel), tk_tb 10 (by decide +kernel), by decide +kernel, by decide +kernel, by decide +kernel, by decide⟩
theorem ks_M_isMinute : Cond.static y_M_isMinute ∈ lw_tbl := tk_tb 801 (by decide +kernel)
def y_M_holiday : MethodName := ⟨"TickKeeperModel", "holiday", "(II)Z"⟩
abbrev b_M_holiday : ByteArray := prog_12_method_10_code
set_option maxRecDepth 100000 in
theorem k_M_holiday : tk_Cs y_M_holiday b_M_holiday 3 (some .boolean) 2 := ⟨tk_tb 806 (by decide +kernel), tk_tb 10 (by decide +kernel), by decide +kernel, by decide +kernel, by decide +kernel, by decide⟩
theorem kn_M_holiday : Cond.instanceMethod y_M_holiday ∈ lw_tbl := tk_tb 804 (by decide +kernel)
theorem kv_M_holiday : Cond.selects y_M_holiday.cls y_M_holiday y_M_holiday ∈ lw_tbl := tk_tb 805 (by decide +kernel)
def y_M_isHoliday : MethodName := ⟨"TickKeeperModel", "isHoliday", "(II)Z"⟩
abbrev b_M_isHoliday : ByteArray := prog_12_method_17_code
set_option maxRecDepth 100000 in
theorem k_M_isHoliday : tk_Cs y_M_isHoliday b_M_isHoliday 5 (some .boolean) 2 := ⟨tk_tb 811 (by decide +kernel), tk_tb 10 (by decide +kernel), by decide +kernel, by decide +kernel, by decide +kernel, by decide⟩
theorem kn_M_isHoliday : Cond.instanceMethod y_M_isHoliday ∈ lw_tbl := tk_tb 810 (by decide +kernel)
theorem kv_M_isHoliday : Cond.selects y_M_isHoliday.cls y_M_isHoliday y_M_isHoliday ∈ lw_tbl := tk_pv 16 (by decide +kernel)
def y_M_mask : MethodName := ⟨"TickKeeperModel", "mask", "(IIII)Z"⟩
abbrev b_M_mask : ByteArray := prog_12_method_11_code
set_option maxRecDepth 100000 in
theorem k_M_mask : tk_Cs y_M_mask b_M_mask 5 (some .boolean) 4 := ⟨tk_tb 815 (by decide +kernel), tk_tb 10 (by decide +kernel), by decide +kernel, by decide +kernel, by decide +kernel, by decide⟩
theorem kn_M_mask : Cond.instanceMethod y_M_mask ∈ lw_tbl := tk_tb 813 (by decide +kernel)
theorem kv_M_mask : Cond.selects y_M_mask.cls y_M_mask y_M_mask ∈ lw_tbl := tk_tb 814 (by decide +kernel)
def y_M_isJob : MethodName := ⟨"TickKeeperModel", "isJob", "(I)Z"⟩
abbrev b_M_isJob : ByteArray := prog_12_method_5_code
set_option maxRecDepth 100000 in
theorem k_M_isJob : tk_Cs y_M_isJob b_M_isJob 1 (some .boolean) 1 := ⟨tk_tb 818 (by decide +kernel), tk_tb 10 (by decide +kernel), by decide +kernel, by decide +kernel, by decide +kernel, by decide⟩
theorem ks_M_isJob : Cond.static y_M_isJob ∈ lw_tbl := tk_tb 817 (by decide +kernel)
def y_M_nth : MethodName := ⟨"TickKeeperModel", "nth", "(III)Z"⟩
abbrev b_M_nth : ByteArray := prog_12_method_12_code
set_option maxRecDepth 100000 in
theorem k_M_nth : tk_Cs y_M_nth b_M_nth 4 (some .boolean) 3 := ⟨tk_tb 823 (by decide +kernel), tk_tb 10 (by decide +kernel), by decide +kernel, by decide +kernel, by decide +kernel, by decide⟩
theorem kn_M_nth : Cond.instanceMethod y_M_nth ∈ lw_tbl := tk_tb 821 (by decide +kernel)
theorem kv_M_nth : Cond.selects y_M_nth.cls y_M_nth y_M_nth ∈ lw_tbl := tk_tb 822 (by decide +kernel)
def y_M_set : MethodName := ⟨"TickKeeperModel", "set", "(III)Z"⟩
abbrev b_M_set : ByteArray := prog_12_method_13_code
set_option maxRecDepth 100000 in
theorem k_M_set : tk_Cs y_M_set b_M_set 5 (some .boolean) 3 := ⟨tk_tb 827 (by decide +kernel), tk_tb 10 (by decide +kernel), by decide +kernel, by decide +kernel, by decide +kernel, by decide⟩
theorem kn_M_set : Cond.instanceMethod y_M_set ∈ lw_tbl := tk_tb 825 (by decide +kernel)
theorem kv_M_set : Cond.selects y_M_set.cls y_M_set y_M_set ∈ lw_tbl := tk_tb 826 (by decide +kernel)
def y_M_except : MethodName := ⟨"TickKeeperModel", "except", "(II)Z"⟩
abbrev b_M_except : ByteArray := prog_12_method_14_code
set_option maxRecDepth 100000 in
theorem k_M_except : tk_Cs y_M_except b_M_except 3 (some .boolean) 2 := ⟨tk_tb 832 (by decide +kernel), tk_tb 10 (by decide +kernel), by decide +kernel, by decide +kernel, by decide +kernel, by decide⟩
theorem kn_M_except : Cond.instanceMethod y_M_except ∈ lw_tbl := tk_tb 830 (by decide +kernel)
theorem kv_M_except : Cond.selects y_M_except.cls y_M_except y_M_except ∈ lw_tbl := tk_tb 831 (by decide +kernel)
def y_M_isException : MethodName := ⟨"TickKeeperModel", "isException", "(II)Z"⟩
abbrev b_M_isException : ByteArray := prog_12_method_16_code
set_option maxRecDepth 100000 in
theorem k_M_isException : tk_Cs y_M_isException b_M_isException 5 (some .boolean) 2 := ⟨tk_tb 836 (by decide +kernel), tk_tb 10 (by decide +kernel), by decide +kernel, by decide +kernel, by decide +kernel, by decide⟩
theorem kn_M_isException : Cond.instanceMethod y_M_isException ∈ lw_tbl := tk_tb 835 (by decide +kernel)
theorem kv_M_isException : Cond.selects y_M_isException.cls y_M_isException y_M_isException ∈ lw_tbl := tk_pv 17 (by decide +kernel)
def y_M_after : MethodName := ⟨"TickKeeperModel", "after", "(IIZ)Z"⟩
abbrev b_M_after : ByteArray := prog_12_method_15_code
set_option maxRecDepth 100000 in
theorem k_M_after : tk_Cs y_M_after b_M_after 4 (some .boolean) 3 := ⟨tk_tb 840 (by decide +kernel), tk_tb 10 (by decide +kernel), by decide +kernel, by decide +kernel, by decide +kernel, by decide⟩
theorem kn_M_after : Cond.instanceMethod y_M_after ∈ lw_tbl := tk_tb 838 (by decide +kernel)
theorem kv_M_after : Cond.selects y_M_after.cls y_M_after y_M_after ∈ lw_tbl := tk_tb 839 (by decide +kernel)
def y_M_isDue : MethodName := ⟨"TickKeeperModel", "isDue", "(II)Z"⟩
abbrev b_M_isDue : ByteArray := prog_12_method_34_code
set_option maxRecDepth 100000 in
theorem k_M_isDue : tk_Cs y_M_isDue b_M_isDue 3 (some .boolean) 2 := ⟨tk_tb 844 (by decide +kernel), tk_tb 10 (by decide +kernel), by decide +kernel, by decide +kernel, by decide +kernel, by decide⟩
theorem kn_M_isDue : Cond.instanceMethod y_M_isDue ∈ lw_tbl := tk_tb 842 (by decide +kernel)
theorem kv_M_isDue : Cond.selects y_M_isDue.cls y_M_isDue y_M_isDue ∈ lw_tbl := tk_tb 843 (by decide +kernel)
def y_M_isDueAt : MethodName := ⟨"TickKeeperModel", "isDueAt", "(IJ)Z"⟩
abbrev b_M_isDueAt : ByteArray := prog_12_method_31_code
set_option maxRecDepth 100000 in
theorem k_M_isDueAt : tk_Cs y_M_isDueAt b_M_isDueAt 5 (some .boolean) 2 := ⟨tk_tb 848 (by decide +kernel), tk_tb 10 (by decide +kernel), by decide +kernel, by decide +kernel, by decide +kernel, by decide⟩
theorem kn_M_isDueAt : Cond.instanceMethod y_M_isDueAt ∈ lw_tbl := tk_tb 847 (by decide +kernel)
theorem kv_M_isDueAt : Cond.selects y_M_isDueAt.cls y_M_isDueAt y_M_isDueAt ∈ lw_tbl := tk_pv 18 (by decide +kernel)
def y_M_localOf : MethodName := ⟨"TickKeeperModel", "localOf", "(II)I"⟩
abbrev b_M_localOf : ByteArray := prog_12_method_28_code
set_option maxRecDepth 100000 in
theorem k_M_localOf : tk_Cs y_M_localOf b_M_localOf 3 (some .int) 2 := ⟨tk_tb 852 (by decide +kernel), tk_tb 10 (by decide +kernel), by decide +kernel, by decide +kernel, by decide +kernel, by decide⟩
theorem kn_M_localOf : Cond.instanceMethod y_M_localOf ∈ lw_tbl := tk_tb 851 (by decide +kernel)
theorem kv_M_localOf : Cond.selects y_M_localOf.cls y_M_localOf y_M_localOf ∈ lw_tbl := tk_pv 19 (by decide +kernel)
def y_M_shiftsBy : MethodName := ⟨"TickKeeperModel", "shiftsBy", "(II)I"⟩
abbrev b_M_shiftsBy : ByteArray := prog_12_method_26_code
set_option maxRecDepth 100000 in
theorem k_M_shiftsBy : tk_Cs y_M_shiftsBy b_M_shiftsBy 4 (some .int) 2 := ⟨tk_tb 856 (by decide +kernel), tk_tb 10 (by decide +kernel), by decide +kernel, by decide +kernel, by decide +kernel, by decide⟩
theorem kn_M_shiftsBy : Cond.instanceMethod y_M_shiftsBy ∈ lw_tbl := tk_tb 855 (by decide +kernel)
theorem kv_M_shiftsBy : Cond.selects y_M_shiftsBy.cls y_M_shiftsBy y_M_shiftsBy ∈ lw_tbl := tk_pv 20 (by decide +kernel)
def y_M_offset : MethodName := ⟨"TickKeeperModel", "offset", "(II)I"⟩
abbrev b_M_offset : ByteArray := prog_12_method_27_code
set_option maxRecDepth 100000 in
theorem k_M_offset : tk_Cs y_M_offset b_M_offset 3 (some .int) 2 := ⟨tk_tb 860 (by decide +kernel), tk_tb 10 (by decide +kernel), by decide +kernel, by decide +kernel, by decide +kernel, by decide⟩
theorem kn_M_offset : Cond.instanceMethod y_M_offset ∈ lw_tbl := tk_tb 859 (by decide +kernel)
theorem kv_M_offset : Cond.selects y_M_offset.cls y_M_offset y_M_offset ∈ lw_tbl := tk_pv 21 (by decide +kernel)
def y_M_isLocalDue : MethodName := ⟨"TickKeeperModel", "isLocalDue", "(II)Z"⟩
abbrev b_M_isLocalDue : ByteArray := prog_12_method_25_code
set_option maxRecDepth 100000 in
theorem k_M_isLocalDue : tk_Cs y_M_isLocalDue b_M_isLocalDue 4 (some .boolean) 2 := ⟨tk_tb 864 (by decide +kernel), tk_tb 10 (by decide +kernel), by decide +kernel, by decide +kernel, by decide +kernel, by decide⟩
theorem kn_M_isLocalDue : Cond.instanceMethod y_M_isLocalDue ∈ lw_tbl := tk_tb 863 (by decide +kernel)
theorem kv_M_isLocalDue : Cond.selects y_M_isLocalDue.cls y_M_isLocalDue y_M_isLocalDue ∈ lw_tbl := tk_pv 22 (by decide +kernel)
def y_M_modulo : MethodName := ⟨"TickKeeperModel", "modulo", "(II)I"⟩
abbrev b_M_modulo : ByteArray := prog_12_method_3_code
set_option maxRecDepth 100000 in
theorem k_M_modulo : tk_Cs y_M_modulo b_M_modulo 2 (some .int) 2 := ⟨tk_tb 867 (by decide +kernel), tk_tb 10 (by decide +kernel), by decide +kernel, by decide +kernel, by decide +kernel, by decide⟩
theorem ks_M_modulo : Cond.static y_M_modulo ∈ lw_tbl := tk_tb 866 (by decide +kernel)
def y_M_parts : MethodName := ⟨"TickKeeperModel", "parts", "(II)I"⟩
abbrev b_M_parts : ByteArray := prog_12_method_4_code
set_option maxRecDepth 100000 in
theorem k_M_parts : tk_Cs y_M_parts b_M_parts 2 (some .int) 2 := ⟨tk_tb 870 (by decide +kernel), tk_tb 10 (by decide +kernel), by decide +kernel, by decide +kernel, by decide +kernel, by decide⟩
theorem ks_M_parts : Cond.static y_M_parts ∈ lw_tbl := tk_tb 869 (by decide +kernel)
def y_M_isJobs : MethodName := ⟨"TickKeeperModel", "isJobs", "(II)Z"⟩
abbrev b_M_isJobs : ByteArray := prog_12_method_24_code
set_option maxRecDepth 100000 in
theorem k_M_isJobs : tk_Cs y_M_isJobs b_M_isJobs 4 (some .boolean) 2 := ⟨tk_tb 874 (by decide +kernel), tk_tb 10 (by decide +kernel), by decide +kernel, by decide +kernel, by decide +kernel, by decide⟩
theorem kn_M_isJobs : Cond.instanceMethod y_M_isJobs ∈ lw_tbl := tk_tb 873 (by decide +kernel)
theorem kv_M_isJobs : Cond.selects y_M_isJobs.cls y_M_isJobs y_M_isJobs ∈ lw_tbl := tk_pv 23 (by decide +kernel)
def y_M_fits : MethodName := ⟨"TickKeeperModel", "fits", "(II)Z"⟩
abbrev b_M_fits : ByteArray := prog_12_method_23_code
set_option maxRecDepth 100000 in
theorem k_M_fits : tk_Cs y_M_fits b_M_fits 5 (some .boolean) 2 := ⟨tk_tb 878 (by decide +kernel), tk_tb 10 (by decide +kernel), by decide +kernel, by decide +kernel, by decide +kernel, by decide⟩
theorem kn_M_fits : Cond.instanceMethod y_M_fits ∈ lw_tbl := tk_tb 877 (by decide +kernel)
theorem kv_M_fits : Cond.selects y_M_fits.cls y_M_fits y_M_fits ∈ lw_tbl := tk_pv 24 (by decide +kernel)
def y_M_weekday : MethodName := ⟨"TickKeeperModel", "weekday", "(I)I"⟩
abbrev b_M_weekday : ByteArray := prog_12_method_21_code
set_option maxRecDepth 100000 in
theorem k_M_weekday : tk_Cs y_M_weekday b_M_weekday 1 (some .int) 1 := ⟨tk_tb 881 (by decide +kernel), tk_tb 10 (by decide +kernel), by decide +kernel, by decide +kernel, by decide +kernel, by decide⟩
theorem ks_M_weekday : Cond.static y_M_weekday ∈ lw_tbl := tk_tb 880 (by decide +kernel)
def y_M_dateOf : MethodName := ⟨"TickKeeperModel", "dateOf", "(I)V"⟩
abbrev b_M_dateOf : ByteArray := prog_12_method_20_code
set_option maxRecDepth 100000 in
theorem k_M_dateOf : tk_Cs y_M_dateOf b_M_dateOf 4 none 1 := ⟨tk_tb 885 (by decide +kernel), tk_tb 10 (by decide +kernel), by decide +kernel, by decide +kernel, by decide +kernel, by decide⟩
theorem kn_M_dateOf : Cond.instanceMethod y_M_dateOf ∈ lw_tbl := tk_tb 884 (by decide +kernel)
theorem kv_M_dateOf : Cond.selects y_M_dateOf.cls y_M_dateOf y_M_dateOf ∈ lw_tbl := tk_pv 25 (by decide +kernel)
def y_M_isLeap : MethodName := ⟨"TickKeeperModel", "isLeap", "(I)Z"⟩
abbrev b_M_isLeap : ByteArray := prog_12_method_18_code
set_option maxRecDepth 100000 in
theorem k_M_isLeap : tk_Cs y_M_isLeap b_M_isLeap 1 (some .boolean) 1 := ⟨tk_tb 888 (by decide +kernel), tk_tb 10 (by decide +kernel), by decide +kernel, by decide +kernel, by decide +kernel, by decide⟩
theorem ks_M_isLeap : Cond.static y_M_isLeap ∈ lw_tbl := tk_tb 887 (by decide +kernel)
def y_M_daysOf : MethodName := ⟨"TickKeeperModel", "daysOf", "(II)I"⟩
abbrev b_M_daysOf : ByteArray := prog_12_method_19_code
set_option maxRecDepth 100000 in
theorem k_M_daysOf : tk_Cs y_M_daysOf b_M_daysOf 2 (some .int) 2 := ⟨tk_tb 891 (by decide +kernel), tk_tb 10 (by decide +kernel), by decide +kernel, by decide +kernel, by decide +kernel, by decide⟩
theorem ks_M_daysOf : Cond.static y_M_daysOf ∈ lw_tbl := tk_tb 890 (by decide +kernel)
def y_M_isFree : MethodName := ⟨"TickKeeperModel", "isFree", "(II)Z"⟩
abbrev b_M_isFree : ByteArray := prog_12_method_22_code
set_option maxRecDepth 100000 in
theorem k_M_isFree : tk_Cs y_M_isFree b_M_isFree 3 (some .boolean) 2 := ⟨tk_tb 895 (by decide +kernel), tk_tb 10 (by decide +kernel), by decide +kernel, by decide +kernel, by decide +kernel, by decide⟩
theorem kn_M_isFree : Cond.instanceMethod y_M_isFree ∈ lw_tbl := tk_tb 894 (by decide +kernel)
theorem kv_M_isFree : Cond.selects y_M_isFree.cls y_M_isFree y_M_isFree ∈ lw_tbl := tk_pv 26 (by decide +kernel)
def y_M_wasBefore : MethodName := ⟨"TickKeeperModel", "wasBefore", "(II)Z"⟩
abbrev b_M_wasBefore : ByteArray := prog_12_method_29_code
set_option maxRecDepth 100000 in
theorem k_M_wasBefore : tk_Cs y_M_wasBefore b_M_wasBefore 10 (some .boolean) 2 := ⟨tk_tb 899 (by decide +kernel), tk_tb 10 (by decide +kernel), by decide +kernel, by decide +kernel, by decide +kernel, by decide⟩
theorem kn_M_wasBefore : Cond.instanceMethod y_M_wasBefore ∈ lw_tbl := tk_tb 898 (by decide +kernel)
theorem kv_M_wasBefore : Cond.selects y_M_wasBefore.cls y_M_wasBefore y_M_wasBefore ∈ lw_tbl := tk_pv 27 (by decide +kernel)
def y_M_isSkipped : MethodName := ⟨"TickKeeperModel", "isSkipped", "(II)Z"⟩
abbrev b_M_isSkipped : ByteArray := prog_12_method_30_code
set_option maxRecDepth 100000 in
theorem k_M_isSkipped : tk_Cs y_M_isSkipped b_M_isSkipped 8 (some .boolean) 2 := ⟨tk_tb 903 (by decide +kernel), tk_tb 10 (by decide +kernel), by decide +kernel, by decide +kernel, by decide +kernel, by decide⟩
theorem kn_M_isSkipped : Cond.instanceMethod y_M_isSkipped ∈ lw_tbl := tk_tb 902 (by decide +kernel)
theorem kv_M_isSkipped : Cond.selects y_M_isSkipped.cls y_M_isSkipped y_M_isSkipped ∈ lw_tbl := tk_pv 28 (by decide +kernel)
def y_M_due : MethodName := ⟨"TickKeeperModel", "due", "(II)I"⟩
abbrev b_M_due : ByteArray := prog_12_method_35_code
set_option maxRecDepth 100000 in
theorem k_M_due : tk_Cs y_M_due b_M_due 3 (some .int) 2 := ⟨tk_tb 907 (by decide +kernel), tk_tb 10 (by decide +kernel), by decide +kernel, by decide +kernel, by decide +kernel, by decide⟩
theorem kn_M_due : Cond.instanceMethod y_M_due ∈ lw_tbl := tk_tb 905 (by decide +kernel)
theorem kv_M_due : Cond.selects y_M_due.cls y_M_due y_M_due ∈ lw_tbl := tk_tb 906 (by decide +kernel)
def y_M_firstDue : MethodName := ⟨"TickKeeperModel", "firstDue", "(IJJ)I"⟩
abbrev b_M_firstDue : ByteArray := prog_12_method_32_code
set_option maxRecDepth 100000 in
theorem k_M_firstDue : tk_Cs y_M_firstDue b_M_firstDue 17 (some .int) 3 := ⟨tk_tb 912 (by decide +kernel), tk_tb 10 (by decide +kernel), by decide +kernel, by decide +kernel, by decide +kernel, by decide⟩
theorem kn_M_firstDue : Cond.instanceMethod y_M_firstDue ∈ lw_tbl := tk_tb 911 (by decide +kernel)
theorem kv_M_firstDue : Cond.selects y_M_firstDue.cls y_M_firstDue y_M_firstDue ∈ lw_tbl := tk_pv 29 (by decide +kernel)
def y_M_local : MethodName := ⟨"TickKeeperModel", "local", "(II)I"⟩
abbrev b_M_local : ByteArray := prog_12_method_36_code
set_option maxRecDepth 100000 in
theorem k_M_local : tk_Cs y_M_local b_M_local 3 (some .int) 2 := ⟨tk_tb 916 (by decide +kernel), tk_tb 10 (by decide +kernel), by decide +kernel, by decide +kernel, by decide +kernel, by decide⟩
theorem kn_M_local : Cond.instanceMethod y_M_local ∈ lw_tbl := tk_tb 914 (by decide +kernel)
theorem kv_M_local : Cond.selects y_M_local.cls y_M_local y_M_local ∈ lw_tbl := tk_tb 915 (by decide +kernel)
def y_M_wake : MethodName := ⟨"TickKeeperModel", "wake", "(I)I"⟩
abbrev b_M_wake : ByteArray := prog_12_method_41_code
set_option maxRecDepth 100000 in
theorem k_M_wake : tk_Cs y_M_wake b_M_wake 6 (some .int) 1 := ⟨tk_tb 920 (by decide +kernel), tk_tb 10 (by decide +kernel), by decide +kernel, by decide +kernel, by decide +kernel, by decide⟩
theorem kn_M_wake : Cond.instanceMethod y_M_wake ∈ lw_tbl := tk_tb 918 (by decide +kernel)
theorem kv_M_wake : Cond.selects y_M_wake.cls y_M_wake y_M_wake ∈ lw_tbl := tk_tb 919 (by decide +kernel)
def y_M_nextOf : MethodName := ⟨"TickKeeperModel", "nextOf", "(II)I"⟩
abbrev b_M_nextOf : ByteArray := prog_12_method_37_code
set_option maxRecDepth 100000 in
theorem k_M_nextOf : tk_Cs y_M_nextOf b_M_nextOf 5 (some .int) 2 := ⟨tk_tb 924 (by decide +kernel), tk_tb 10 (by decide +kernel), by decide +kernel, by decide +kernel, by decide +kernel, by decide⟩
theorem kn_M_nextOf : Cond.instanceMethod y_M_nextOf ∈ lw_tbl := tk_tb 923 (by decide +kernel)
theorem kv_M_nextOf : Cond.selects y_M_nextOf.cls y_M_nextOf y_M_nextOf ∈ lw_tbl := tk_pv 30 (by decide +kernel)
def y_M_lastDue : MethodName := ⟨"TickKeeperModel", "lastDue", "(IJJ)I"⟩
abbrev b_M_lastDue : ByteArray := prog_12_method_33_code
set_option maxRecDepth 100000 in
theorem k_M_lastDue : tk_Cs y_M_lastDue b_M_lastDue 12 (some .int) 3 := ⟨tk_tb 928 (by decide +kernel), tk_tb 10 (by decide +kernel), by decide +kernel, by decide +kernel, by decide +kernel, by decide⟩
theorem kn_M_lastDue : Cond.instanceMethod y_M_lastDue ∈ lw_tbl := tk_tb 927 (by decide +kernel)
theorem kv_M_lastDue : Cond.selects y_M_lastDue.cls y_M_lastDue y_M_lastDue ∈ lw_tbl := tk_pv 31 (by decide +kernel)
def y_M_toOthers : MethodName := ⟨"TickKeeperModel", "toOthers", "(IIIIII)V"⟩
abbrev b_M_toOthers : ByteArray := prog_12_method_39_code
set_option maxRecDepth 100000 in
theorem k_M_toOthers : tk_Cs y_M_toOthers b_M_toOthers 8 none 6 := ⟨tk_tb 932 (by decide +kernel), tk_tb 10 (by decide +kernel), by decide +kernel, by decide +kernel, by decide +kernel, by decide⟩
theorem kn_M_toOthers : Cond.instanceMethod y_M_toOthers ∈ lw_tbl := tk_tb 931 (by decide +kernel)
theorem kv_M_toOthers : Cond.selects y_M_toOthers.cls y_M_toOthers y_M_toOthers ∈ lw_tbl := tk_pv 32 (by decide +kernel)
def y_M_send : MethodName := ⟨"TickKeeperModel", "send", "(IIIIIII)V"⟩
abbrev b_M_send : ByteArray := prog_12_method_38_code
set_option maxRecDepth 100000 in
theorem k_M_send : tk_Cs y_M_send b_M_send 10 none 7 := ⟨tk_tb 936 (by decide +kernel), tk_tb 10 (by decide +kernel), by decide +kernel, by decide +kernel, by decide +kernel, by decide⟩
theorem kn_M_send : Cond.instanceMethod y_M_send ∈ lw_tbl := tk_tb 935 (by decide +kernel)
theorem kv_M_send : Cond.selects y_M_send.cls y_M_send y_M_send ∈ lw_tbl := tk_pv 33 (by decide +kernel)
def y_M_up : MethodName := ⟨"TickKeeperModel", "up", "(IZ)Z"⟩
abbrev b_M_up : ByteArray := prog_12_method_42_code
set_option maxRecDepth 100000 in
theorem k_M_up : tk_Cs y_M_up b_M_up 4 (some .boolean) 2 := ⟨tk_tb 940 (by decide +kernel), tk_tb 10 (by decide +kernel), by decide +kernel, by decide +kernel, by decide +kernel, by decide⟩
theorem kn_M_up : Cond.instanceMethod y_M_up ∈ lw_tbl := tk_tb 938 (by decide +kernel)
theorem kv_M_up : Cond.selects y_M_up.cls y_M_up y_M_up ∈ lw_tbl := tk_tb 939 (by decide +kernel)
def y_M_over : MethodName := ⟨"TickKeeperModel", "over", "(I)V"⟩
abbrev b_M_over : ByteArray := prog_12_method_40_code
set_option maxRecDepth 100000 in
theorem k_M_over : tk_Cs y_M_over b_M_over 2 none 1 := ⟨tk_tb 944 (by decide +kernel), tk_tb 10 (by decide +kernel), by decide +kernel, by decide +kernel, by decide +kernel, by decide⟩
theorem kn_M_over : Cond.instanceMethod y_M_over ∈ lw_tbl := tk_tb 943 (by decide +kernel)
theorem kv_M_over : Cond.selects y_M_over.cls y_M_over y_M_over ∈ lw_tbl := tk_pv 34 (by decide +kernel)
def y_M_desk : MethodName := ⟨"TickKeeperModel", "desk", "(IZ)Z"⟩
abbrev b_M_desk : ByteArray := prog_12_method_43_code
set_option maxRecDepth 100000 in
theorem k_M_desk : tk_Cs y_M_desk b_M_desk 3 (some .boolean) 2 := ⟨tk_tb 948 (by decide +kernel), tk_tb 10 (by decide +kernel), by decide +kernel, by decide +kernel, by decide +kernel, by decide⟩
theorem kn_M_desk : Cond.instanceMethod y_M_desk ∈ lw_tbl := tk_tb 946 (by decide +kernel)
theorem kv_M_desk : Cond.selects y_M_desk.cls y_M_desk y_M_desk ∈ lw_tbl := tk_tb 947 (by decide +kernel)
def y_M_letters : MethodName := ⟨"TickKeeperModel", "letters", "()I"⟩
abbrev b_M_letters : ByteArray := prog_12_method_44_code
set_option maxRecDepth 100000 in
theorem k_M_letters : tk_Cs y_M_letters b_M_letters 1 (some .int) 0 := ⟨tk_tb 952 (by decide +kernel), tk_tb 10 (by decide +kernel), by decide +kernel, by decide +kernel, by decide +kernel, by decide⟩
theorem kn_M_letters : Cond.instanceMethod y_M_letters ∈ lw_tbl := tk_tb 950 (by decide +kernel)
theorem kv_M_letters : Cond.selects y_M_letters.cls y_M_letters y_M_letters ∈ lw_tbl := tk_tb 951 (by decide +kernel)
def y_M_deliver : MethodName := ⟨"TickKeeperModel", "deliver", "(I)I"⟩
abbrev b_M_deliver : ByteArray := prog_12_method_49_code
set_option maxRecDepth 100000 in
theorem k_M_deliver : tk_Cs y_M_deliver b_M_deliver 12 (some .int) 1 := ⟨tk_tb 956 (by decide +kernel), tk_tb 10 (by decide +kernel), by decide +kernel, by decide +kernel, by decide +kernel, by decide⟩
theorem kn_M_deliver : Cond.instanceMethod y_M_deliver ∈ lw_tbl := tk_tb 954 (by decide +kernel)
theorem kv_M_deliver : Cond.selects y_M_deliver.cls y_M_deliver y_M_deliver ∈ lw_tbl := tk_tb 955 (by decide +kernel)
def y_M_remove : MethodName := ⟨"TickKeeperModel", "remove", "(I)V"⟩
abbrev b_M_remove : ByteArray := prog_12_method_45_code
set_option maxRecDepth 100000 in
theorem k_M_remove : tk_Cs y_M_remove b_M_remove 3 none 1 := ⟨tk_tb 960 (by decide +kernel), tk_tb 10 (by decide +kernel), by decide +kernel, by decide +kernel, by decide +kernel, by decide⟩
theorem kn_M_remove : Cond.instanceMethod y_M_remove ∈ lw_tbl := tk_tb 959 (by decide +kernel)
theorem kv_M_remove : Cond.selects y_M_remove.cls y_M_remove y_M_remove ∈ lw_tbl := tk_pv 35 (by decide +kernel)
def y_M_comeToDesk : MethodName := ⟨"TickKeeperModel", "comeToDesk", "(IIII)V"⟩
abbrev b_M_comeToDesk : ByteArray := prog_12_method_48_code
set_option maxRecDepth 100000 in
theorem k_M_comeToDesk : tk_Cs y_M_comeToDesk b_M_comeToDesk 8 none 4 := ⟨tk_tb 964 (by decide +kernel), tk_tb 10 (by decide +kernel), by decide +kernel, by decide +kernel, by decide +kernel, by decide⟩
theorem kn_M_comeToDesk : Cond.instanceMethod y_M_comeToDesk ∈ lw_tbl := tk_tb 963 (by decide +kernel)
theorem kv_M_comeToDesk : Cond.selects y_M_comeToDesk.cls y_M_comeToDesk y_M_comeToDesk ∈ lw_tbl := tk_pv 36 (by decide +kernel)
def y_M_promised : MethodName := ⟨"TickKeeperModel", "promised", "(IIIIII)V"⟩
abbrev b_M_promised : ByteArray := prog_12_method_47_code
set_option maxRecDepth 100000 in
theorem k_M_promised : tk_Cs y_M_promised b_M_promised 12 none 6 := ⟨tk_tb 968 (by decide +kernel), tk_tb 10 (by decide +kernel), by decide +kernel, by decide +kernel, by decide +kernel, by decide⟩
theorem kn_M_promised : Cond.instanceMethod y_M_promised ∈ lw_tbl := tk_tb 967 (by decide +kernel)
theorem kv_M_promised : Cond.selects y_M_promised.cls y_M_promised y_M_promised ∈ lw_tbl := tk_pv 37 (by decide +kernel)
def y_M_hasToWait : MethodName := ⟨"TickKeeperModel", "hasToWait", "(III)Z"⟩
abbrev b_M_hasToWait : ByteArray := prog_12_method_46_code
set_option maxRecDepth 100000 in
theorem k_M_hasToWait : tk_Cs y_M_hasToWait b_M_hasToWait 8 (some .boolean) 3 := ⟨tk_tb 972 (by decide +kernel), tk_tb 10 (by decide +kernel), by decide +kernel, by decide +kernel, by decide +kernel, by decide⟩
theorem kn_M_hasToWait : Cond.instanceMethod y_M_hasToWait ∈ lw_tbl := tk_tb 971 (by decide +kernel)
theorem kv_M_hasToWait : Cond.selects y_M_hasToWait.cls y_M_hasToWait y_M_hasToWait ∈ lw_tbl := tk_pv 38 (by decide +kernel)
def y_M_lose : MethodName := ⟨"TickKeeperModel", "lose", "(I)Z"⟩
abbrev b_M_lose : ByteArray := prog_12_method_50_code
set_option maxRecDepth 100000 in
theorem k_M_lose : tk_Cs y_M_lose b_M_lose 2 (some .boolean) 1 := ⟨tk_tb 976 (by decide +kernel), tk_tb 10 (by decide +kernel), by decide +kernel, by decide +kernel, by decide +kernel, by decide⟩
theorem kn_M_lose : Cond.instanceMethod y_M_lose ∈ lw_tbl := tk_tb 974 (by decide +kernel)
theorem kv_M_lose : Cond.selects y_M_lose.cls y_M_lose y_M_lose ∈ lw_tbl := tk_tb 975 (by decide +kernel)
def y_M_twin : MethodName := ⟨"TickKeeperModel", "twin", "(I)Z"⟩
abbrev b_M_twin : ByteArray := prog_12_method_51_code
set_option maxRecDepth 100000 in
theorem k_M_twin : tk_Cs y_M_twin b_M_twin 3 (some .boolean) 1 := ⟨tk_tb 980 (by decide +kernel), tk_tb 10 (by decide +kernel), by decide +kernel, by decide +kernel, by decide +kernel, by decide⟩
theorem kn_M_twin : Cond.instanceMethod y_M_twin ∈ lw_tbl := tk_tb 978 (by decide +kernel)
theorem kv_M_twin : Cond.selects y_M_twin.cls y_M_twin y_M_twin ∈ lw_tbl := tk_tb 979 (by decide +kernel)
def y_M_letter : MethodName := ⟨"TickKeeperModel", "letter", "(II)I"⟩
abbrev b_M_letter : ByteArray := prog_12_method_52_code
set_option maxRecDepth 100000 in
theorem k_M_letter : tk_Cs y_M_letter b_M_letter 3 (some .int) 2 := ⟨tk_tb 984 (by decide +kernel), tk_tb 10 (by decide +kernel), by decide +kernel, by decide +kernel, by decide +kernel, by decide⟩
theorem kn_M_letter : Cond.instanceMethod y_M_letter ∈ lw_tbl := tk_tb 982 (by decide +kernel)
theorem kv_M_letter : Cond.selects y_M_letter.cls y_M_letter y_M_letter ∈ lw_tbl := tk_tb 983 (by decide +kernel)
def y_M_register : MethodName := ⟨"TickKeeperModel", "register", "(III)I"⟩
abbrev b_M_register : ByteArray := prog_12_method_53_code
set_option maxRecDepth 100000 in
theorem k_M_register : tk_Cs y_M_register b_M_register 5 (some .int) 3 := ⟨tk_tb 988 (by decide +kernel), tk_tb 10 (by decide +kernel), by decide +kernel, by decide +kernel, by decide +kernel, by decide⟩
theorem kn_M_register : Cond.instanceMethod y_M_register ∈ lw_tbl := tk_tb 986 (by decide +kernel)
theorem kv_M_register : Cond.selects y_M_register.cls y_M_register y_M_register ∈ lw_tbl := tk_tb 987 (by decide +kernel)
def y_M_effects : MethodName := ⟨"TickKeeperModel", "effects", "(I)I"⟩
abbrev b_M_effects : ByteArray := prog_12_method_54_code
set_option maxRecDepth 100000 in
theorem k_M_effects : tk_Cs y_M_effects b_M_effects 2 (some .int) 1 := ⟨tk_tb 992 (by decide +kernel), tk_tb 10 (by decide +kernel), by decide +kernel, by decide +kernel, by decide +kernel, by decide⟩
theorem kn_M_effects : Cond.instanceMethod y_M_effects ∈ lw_tbl := tk_tb 990 (by decide +kernel)
theorem kv_M_effects : Cond.selects y_M_effects.cls y_M_effects y_M_effects ∈ lw_tbl := tk_tb 991 (by decide +kernel)
def y_M_effect : MethodName := ⟨"TickKeeperModel", "effect", "(III)I"⟩
abbrev b_M_effect : ByteArray := prog_12_method_55_code
set_option maxRecDepth 100000 in
theorem k_M_effect : tk_Cs y_M_effect b_M_effect 4 (some .int) 3 := ⟨tk_tb 996 (by decide +kernel), tk_tb 10 (by decide +kernel), by decide +kernel, by decide +kernel, by decide +kernel, by decide⟩
theorem kn_M_effect : Cond.instanceMethod y_M_effect ∈ lw_tbl := tk_tb 994 (by decide +kernel)
theorem kv_M_effect : Cond.selects y_M_effect.cls y_M_effect y_M_effect ∈ lw_tbl := tk_tb 995 (by decide +kernel)
theorem m_W_9 : Cond.methodLink R_W 9 y_K_init ∈ lw_tbl := tk_tb 16 (by decide +kernel)
theorem m_K_1 : Cond.methodLink R_K 1 objectInit ∈ lw_tbl := tk_tb 19 (by decide +kernel)
theorem m_K_39 : Cond.methodLink R_K 39 y_P_init ∈ lw_tbl := tk_tb 32 (by decide +kernel)
theorem m_P_3 : Cond.methodLink R_P 3 objectInit ∈ lw_tbl := tk_tb 35 (by decide +kernel)
theorem m_P_17 : Cond.methodLinkNest R_P 17 y_L_init "TickKeeper" ∈ lw_tbl := tk_tb 39 (by decide +kernel)
theorem m_L_3 : Cond.methodLink R_L 3 objectInit ∈ lw_tbl := tk_tb 42 (by decide +kernel)
theorem m_K_48 : Cond.methodLinkNest R_K 48 y_Z_init "TickKeeper" ∈ lw_tbl := tk_tb 101 (by decide +kernel)
theorem m_Z_3 : Cond.methodLink R_Z 3 objectInit ∈ lw_tbl := tk_tb 104 (by decide +kernel)
theorem m_K_49 : Cond.methodLink R_K 49 y_J_init ∈ lw_tbl := tk_tb 126 (by decide +kernel)
theorem m_J_3 : Cond.methodLink R_J 3 objectInit ∈ lw_tbl := tk_tb 129 (by decide +kernel)
theorem m_J_11 : Cond.methodLinkNest R_J 11 y_U_init "TickKeeper" ∈ lw_tbl := tk_tb 132 (by decide +kernel)
theorem m_U_3 : Cond.methodLink R_U 3 objectInit ∈ lw_tbl := tk_tb 135 (by decide +kernel)
theorem m_K_52 : Cond.methodLinkNest R_K 52 y_N_init "TickKeeper" ∈ lw_tbl := tk_tb 195 (by decide +kernel)
theorem m_N_3 : Cond.methodLink R_N 3 objectInit ∈ lw_tbl := tk_tb 198 (by decide +kernel)
theorem m_K_53 : Cond.methodLink R_K 53 y_S_init ∈ lw_tbl := tk_tb 216 (by decide +kernel)
theorem m_S_3 : Cond.methodLink R_S 3 objectInit ∈ lw_tbl := tk_tb 219 (by decide +kernel)
theorem m_S_21 : Cond.methodLinkNest R_S 21 y_E_init "TickKeeper" ∈ lw_tbl := tk_tb 223 (by decide +kernel)
theorem m_E_3 : Cond.methodLink R_E 3 objectInit ∈ lw_tbl := tk_tb 226 (by decide +kernel)
theorem m_W_13 : Cond.methodLink R_W 13 y_K_time ∈ lw_tbl := tk_tb 296 (by decide +kernel)
theorem m_W_18 : Cond.methodLink R_W 18 y_K_shift ∈ lw_tbl := tk_tb 301 (by decide +kernel)
theorem m_K_55 : Cond.methodLink R_K 55 y_K_isZone ∈ lw_tbl := tk_tb 305 (by decide +kernel)
theorem m_K_59 : Cond.methodLink R_K 59 y_K_isMinute ∈ lw_tbl := tk_tb 308 (by decide +kernel)
theorem m_K_62 : Cond.methodLink R_K 62 y_Z_addShift ∈ lw_tbl := tk_tb 311 (by decide +kernel)
theorem m_W_23 : Cond.methodLink R_W 23 y_K_holiday ∈ lw_tbl := tk_tb 315 (by decide +kernel)
theorem m_K_67 : Cond.methodLink R_K 67 y_Z_addHoliday ∈ lw_tbl := tk_tb 320 (by decide +kernel)
theorem m_Z_28 : Cond.methodLink R_Z 28 y_Z_isHoliday ∈ lw_tbl := tk_tb 324 (by decide +kernel)
theorem m_W_59 : Cond.methodLink R_W 59 y_K_local ∈ lw_tbl := tk_tb 328 (by decide +kernel)
theorem m_K_70 : Cond.methodLink R_K 70 y_Z_localMinute ∈ lw_tbl := tk_tb 332 (by decide +kernel)
theorem m_W_28 : Cond.methodLink R_W 28 y_K_mask ∈ lw_tbl := tk_tb 336 (by decide +kernel)
theorem m_K_74 : Cond.methodLink R_K 74 y_K_isJob ∈ lw_tbl := tk_tb 340 (by decide +kernel)
theorem m_K_81 : Cond.methodLink R_K 81 y_U_changeMask ∈ lw_tbl := tk_tb 343 (by decide +kernel)
theorem m_W_33 : Cond.methodLink R_W 33 y_K_nth ∈ lw_tbl := tk_tb 349 (by decide +kernel)
theorem m_W_37 : Cond.methodLink R_W 37 y_K_set ∈ lw_tbl := tk_tb 353 (by decide +kernel)
theorem m_K_101 : Cond.methodLink R_K 101 y_J_changeMode ∈ lw_tbl := tk_tb 357 (by decide +kernel)
theorem m_K_104 : Cond.methodLink R_K 104 y_J_changeLateness ∈ lw_tbl := tk_tb 361 (by decide +kernel)
theorem m_W_41 : Cond.methodLink R_W 41 y_K_except ∈ lw_tbl := tk_tb 366 (by decide +kernel)
theorem m_K_110 : Cond.methodLink R_K 110 y_J_addException ∈ lw_tbl := tk_tb 370 (by decide +kernel)
theorem m_J_48 : Cond.methodLink R_J 48 y_J_isException ∈ lw_tbl := tk_tb 374 (by decide +kernel)
theorem m_W_45 : Cond.methodLink R_W 45 y_K_after ∈ lw_tbl := tk_tb 378 (by decide +kernel)
theorem m_W_50 : Cond.methodLink R_W 50 y_K_isDue ∈ lw_tbl := tk_tb 382 (by decide +kernel)
theorem m_K_116 : Cond.methodLink R_K 116 y_J_firstDue ∈ lw_tbl := tk_tb 386 (by decide +kernel)
theorem m_J_95 : Cond.methodLink R_J 95 y_Q_max ∈ lw_tbl := tk_tb 390 (by decide +kernel)
theorem m_J_98 : Cond.methodLink R_J 98 y_Z_endOf ∈ lw_tbl := tk_tb 393 (by decide +kernel)
theorem m_J_101 : Cond.methodLink R_J 101 y_Q_min ∈ lw_tbl := tk_tb 398 (by decide +kernel)
theorem m_J_104 : Cond.methodLink R_J 104 y_Z_firstLocal ∈ lw_tbl := tk_tb 401 (by decide +kernel)
theorem m_Z_48 : Cond.methodLink R_Z 48 y_Q_min ∈ lw_tbl := tk_tb 405 (by decide +kernel)
theorem m_J_107 : Cond.methodLink R_J 107 y_J_firstJobMinute ∈ lw_tbl := tk_tb 406 (by decide +kernel)
theorem m_J_71 : Cond.methodLink R_J 71 y_U_hasNoMinute ∈ lw_tbl := tk_tb 410 (by decide +kernel)
theorem m_J_75 : Cond.methodLink R_J 75 y_Q_floorDiv ∈ lw_tbl := tk_tb 414 (by decide +kernel)
theorem m_J_80 : Cond.methodLink R_J 80 y_J_firstJobDay ∈ lw_tbl := tk_tb 417 (by decide +kernel)
theorem m_J_52 : Cond.methodLink R_J 52 y_O_monthOf ∈ lw_tbl := tk_tb 421 (by decide +kernel)
theorem m_J_58 : Cond.methodLink R_J 58 y_U_fittingDays ∈ lw_tbl := tk_tb 426 (by decide +kernel)
theorem m_U_38 : Cond.methodLink R_U 38 y_O_lengthOf ∈ lw_tbl := tk_tb 430 (by decide +kernel)
theorem m_U_46 : Cond.methodLink R_U 46 y_U_nthWeek ∈ lw_tbl := tk_tb 434 (by decide +kernel)
theorem m_U_50 : Cond.methodLink R_U 50 y_O_firstDayOf ∈ lw_tbl := tk_tb 439 (by decide +kernel)
theorem m_U_53 : Cond.methodLink R_U 53 y_O_weekdayOf ∈ lw_tbl := tk_tb 442 (by decide +kernel)
theorem m_J_62 : Cond.methodLink R_J 62 y_O_firstDayOf ∈ lw_tbl := tk_tb 446 (by decide +kernel)
theorem m_J_65 : Cond.methodLink R_J 65 y_Z_workdayFrom ∈ lw_tbl := tk_tb 447 (by decide +kernel)
theorem m_Z_32 : Cond.methodLink R_Z 32 y_O_weekdayOf ∈ lw_tbl := tk_tb 451 (by decide +kernel)
theorem m_J_83 : Cond.methodLink R_J 83 y_U_minuteOfDayFrom ∈ lw_tbl := tk_tb 452 (by decide +kernel)
theorem m_U_60 : Cond.methodLink R_U 60 y_U_lowestBit ∈ lw_tbl := tk_tb 456 (by decide +kernel)
theorem m_U_64 : Cond.methodLink R_U 64 y_G_bitCount ∈ lw_tbl := tk_tb 459 (by decide +kernel)
theorem m_J_110 : Cond.methodLink R_J 110 y_Z_hadUpTo ∈ lw_tbl := tk_tb 465 (by decide +kernel)
theorem m_Z_51 : Cond.methodLink R_Z 51 y_Z_endOf ∈ lw_tbl := tk_tb 469 (by decide +kernel)
theorem m_W_54 : Cond.methodLink R_W 54 y_K_due ∈ lw_tbl := tk_tb 470 (by decide +kernel)
theorem m_W_63 : Cond.methodLink R_W 63 y_K_wake ∈ lw_tbl := tk_tb 474 (by decide +kernel)
theorem m_K_120 : Cond.methodLink R_K 120 y_K_isScheduler ∈ lw_tbl := tk_tb 478 (by decide +kernel)
theorem m_K_130 : Cond.methodLink R_K 130 y_K_hasWork ∈ lw_tbl := tk_tb 481 (by decide +kernel)
theorem m_K_230 : Cond.methodLink R_K 230 y_J_hasNext ∈ lw_tbl := tk_tb 485 (by decide +kernel)
theorem m_J_113 : Cond.methodLink R_J 113 y_J_earliestWanted ∈ lw_tbl := tk_tb 489 (by decide +kernel)
theorem m_J_116 : Cond.methodLink R_J 116 y_J_firstDue ∈ lw_tbl := tk_tb 493 (by decide +kernel)
theorem m_K_134 : Cond.methodLink R_K 134 y_E_beginRound ∈ lw_tbl := tk_tb 494 (by decide +kernel)
theorem m_E_39 : Cond.methodLink R_E 39 y_E_endRound ∈ lw_tbl := tk_tb 498 (by decide +kernel)
theorem m_K_140 : Cond.methodLink R_K 140 y_K_sendToOthers ∈ lw_tbl := tk_tb 502 (by decide +kernel)
theorem m_K_220 : Cond.methodLink R_K 220 y_P_open ∈ lw_tbl := tk_tb 506 (by decide +kernel)
theorem m_W_68 : Cond.methodLink R_W 68 y_K_up ∈ lw_tbl := tk_tb 510 (by decide +kernel)
theorem m_K_144 : Cond.methodLink R_K 144 y_S_forget ∈ lw_tbl := tk_tb 514 (by decide +kernel)
theorem m_S_26 : Cond.methodLink R_S 26 y_E_endRound ∈ lw_tbl := tk_tb 518 (by decide +kernel)
theorem m_W_73 : Cond.methodLink R_W 73 y_K_desk ∈ lw_tbl := tk_tb 519 (by decide +kernel)
theorem m_W_98 : Cond.methodLink R_W 98 y_K_register ∈ lw_tbl := tk_tb 523 (by decide +kernel)
theorem m_K_147 : Cond.methodLink R_K 147 y_E_tell ∈ lw_tbl := tk_tb 527 (by decide +kernel)
theorem m_W_103 : Cond.methodLink R_W 103 y_K_effects ∈ lw_tbl := tk_tb 531 (by decide +kernel)
theorem m_W_107 : Cond.methodLink R_W 107 y_K_effect ∈ lw_tbl := tk_tb 535 (by decide +kernel)
theorem m_W_77 : Cond.methodLink R_W 77 y_K_letters ∈ lw_tbl := tk_tb 539 (by decide +kernel)
theorem m_W_82 : Cond.methodLink R_W 82 y_K_deliver ∈ lw_tbl := tk_tb 543 (by decide +kernel)
theorem m_K_161 : Cond.methodLink R_K 161 y_P_holds ∈ lw_tbl := tk_tb 547 (by decide +kernel)
theorem m_K_164 : Cond.methodLink R_K 164 y_P_take ∈ lw_tbl := tk_tb 551 (by decide +kernel)
theorem m_K_168 : Cond.methodLink R_K 168 y_K_isHeard ∈ lw_tbl := tk_tb 555 (by decide +kernel)
theorem m_K_177 : Cond.methodLink R_K 177 y_K_hearPrepare ∈ lw_tbl := tk_tb 559 (by decide +kernel)
theorem m_K_193 : Cond.methodLink R_K 193 y_K_seatOf ∈ lw_tbl := tk_tb 563 (by decide +kernel)
theorem m_K_247 : Cond.methodLink R_K 247 y_K_answer ∈ lw_tbl := tk_tb 567 (by decide +kernel)
theorem m_K_181 : Cond.methodLink R_K 181 y_K_hearPromised ∈ lw_tbl := tk_tb 571 (by decide +kernel)
theorem m_K_258 : Cond.methodLink R_K 258 y_E_isAt ∈ lw_tbl := tk_tb 575 (by decide +kernel)
theorem m_K_261 : Cond.methodLink R_K 261 y_J_nextMoment ∈ lw_tbl := tk_tb 579 (by decide +kernel)
theorem m_K_264 : Cond.methodLink R_K 264 y_K_hasToWait ∈ lw_tbl := tk_tb 583 (by decide +kernel)
theorem m_K_275 : Cond.methodLink R_K 275 y_Z_localDay ∈ lw_tbl := tk_tb 587 (by decide +kernel)
theorem m_Z_39 : Cond.methodLink R_Z 39 y_Z_localMinute ∈ lw_tbl := tk_tb 591 (by decide +kernel)
theorem m_Z_42 : Cond.methodLink R_Z 42 y_Q_floorDiv ∈ lw_tbl := tk_tb 592 (by decide +kernel)
theorem m_K_268 : Cond.methodLink R_K 268 y_E_endRound ∈ lw_tbl := tk_tb 593 (by decide +kernel)
theorem m_K_271 : Cond.methodLink R_K 271 y_E_claim ∈ lw_tbl := tk_tb 594 (by decide +kernel)
theorem m_E_42 : Cond.methodLink R_E 42 y_E_accept ∈ lw_tbl := tk_tb 598 (by decide +kernel)
theorem m_K_184 : Cond.methodLink R_K 184 y_K_hearAccept ∈ lw_tbl := tk_tb 602 (by decide +kernel)
theorem m_K_278 : Cond.methodLink R_K 278 y_E_accept ∈ lw_tbl := tk_tb 606 (by decide +kernel)
theorem m_K_187 : Cond.methodLink R_K 187 y_K_hearAccepted ∈ lw_tbl := tk_tb 607 (by decide +kernel)
theorem m_K_190 : Cond.methodLink R_K 190 y_K_hearEffect ∈ lw_tbl := tk_tb 611 (by decide +kernel)
theorem m_K_284 : Cond.methodLink R_K 284 y_N_enter ∈ lw_tbl := tk_tb 615 (by decide +kernel)
theorem m_N_25 : Cond.methodLink R_N 25 y_Q_max ∈ lw_tbl := tk_tb 619 (by decide +kernel)
theorem m_N_31 : Cond.methodLink R_N 31 y_N_lastMoment ∈ lw_tbl := tk_tb 620 (by decide +kernel)
theorem m_K_287 : Cond.methodLink R_K 287 y_N_lastMoment ∈ lw_tbl := tk_tb 624 (by decide +kernel)
theorem m_K_200 : Cond.methodLink R_K 200 y_E_learn ∈ lw_tbl := tk_tb 625 (by decide +kernel)
theorem m_E_46 : Cond.methodLink R_E 46 y_Q_max ∈ lw_tbl := tk_tb 629 (by decide +kernel)
theorem m_W_86 : Cond.methodLink R_W 86 y_K_lose ∈ lw_tbl := tk_tb 630 (by decide +kernel)
theorem m_W_90 : Cond.methodLink R_W 90 y_K_twin ∈ lw_tbl := tk_tb 634 (by decide +kernel)
theorem m_K_203 : Cond.methodLink R_K 203 y_P_copyToEnd ∈ lw_tbl := tk_tb 638 (by decide +kernel)
theorem m_P_53 : Cond.methodLink R_P 53 y_P_open ∈ lw_tbl := tk_tb 642 (by decide +kernel)
theorem m_W_94 : Cond.methodLink R_W 94 y_K_letter ∈ lw_tbl := tk_tb 643 (by decide +kernel)
theorem m_K_210 : Cond.methodLink R_K 210 y_L_tell ∈ lw_tbl := tk_tb 647 (by decide +kernel)
theorem m_W_12 : Cond.methodLink R_W 12 y_M_init ∈ lw_tbl := tk_tb 653 (by decide +kernel)
theorem m_M_1 : Cond.methodLink R_M 1 objectInit ∈ lw_tbl := tk_tb 656 (by decide +kernel)
theorem m_W_17 : Cond.methodLink R_W 17 y_M_time ∈ lw_tbl := tk_tb 788 (by decide +kernel)
theorem m_W_22 : Cond.methodLink R_W 22 y_M_shift ∈ lw_tbl := tk_tb 793 (by decide +kernel)
theorem m_M_132 : Cond.methodLink R_M 132 y_M_isZone ∈ lw_tbl := tk_tb 797 (by decide +kernel)
theorem m_M_136 : Cond.methodLink R_M 136 y_M_isMinute ∈ lw_tbl := tk_tb 800 (by decide +kernel)
theorem m_W_27 : Cond.methodLink R_W 27 y_M_holiday ∈ lw_tbl := tk_tb 803 (by decide +kernel)
theorem m_M_140 : Cond.methodLink R_M 140 y_M_isHoliday ∈ lw_tbl := tk_tb 808 (by decide +kernel)
theorem m_W_32 : Cond.methodLink R_W 32 y_M_mask ∈ lw_tbl := tk_tb 812 (by decide +kernel)
theorem m_M_144 : Cond.methodLink R_M 144 y_M_isJob ∈ lw_tbl := tk_tb 816 (by decide +kernel)
theorem m_W_36 : Cond.methodLink R_W 36 y_M_nth ∈ lw_tbl := tk_tb 820 (by decide +kernel)
theorem m_W_40 : Cond.methodLink R_W 40 y_M_set ∈ lw_tbl := tk_tb 824 (by decide +kernel)
theorem m_W_44 : Cond.methodLink R_W 44 y_M_except ∈ lw_tbl := tk_tb 829 (by decide +kernel)
theorem m_M_149 : Cond.methodLink R_M 149 y_M_isException ∈ lw_tbl := tk_tb 833 (by decide +kernel)
theorem m_W_49 : Cond.methodLink R_W 49 y_M_after ∈ lw_tbl := tk_tb 837 (by decide +kernel)
theorem m_W_53 : Cond.methodLink R_W 53 y_M_isDue ∈ lw_tbl := tk_tb 841 (by decide +kernel)
theorem m_M_208 : Cond.methodLink R_M 208 y_M_isDueAt ∈ lw_tbl := tk_tb 845 (by decide +kernel)
theorem m_M_199 : Cond.methodLink R_M 199 y_M_localOf ∈ lw_tbl := tk_tb 849 (by decide +kernel)
theorem m_M_190 : Cond.methodLink R_M 190 y_M_shiftsBy ∈ lw_tbl := tk_tb 853 (by decide +kernel)
theorem m_M_193 : Cond.methodLink R_M 193 y_M_offset ∈ lw_tbl := tk_tb 857 (by decide +kernel)
theorem m_M_196 : Cond.methodLink R_M 196 y_M_isLocalDue ∈ lw_tbl := tk_tb 861 (by decide +kernel)
theorem m_M_124 : Cond.methodLink R_M 124 y_M_modulo ∈ lw_tbl := tk_tb 865 (by decide +kernel)
theorem m_M_184 : Cond.methodLink R_M 184 y_M_parts ∈ lw_tbl := tk_tb 868 (by decide +kernel)
theorem m_M_187 : Cond.methodLink R_M 187 y_M_isJobs ∈ lw_tbl := tk_tb 871 (by decide +kernel)
theorem m_M_178 : Cond.methodLink R_M 178 y_M_fits ∈ lw_tbl := tk_tb 875 (by decide +kernel)
theorem m_M_170 : Cond.methodLink R_M 170 y_M_weekday ∈ lw_tbl := tk_tb 879 (by decide +kernel)
theorem m_M_174 : Cond.methodLink R_M 174 y_M_dateOf ∈ lw_tbl := tk_tb 882 (by decide +kernel)
theorem m_M_152 : Cond.methodLink R_M 152 y_M_isLeap ∈ lw_tbl := tk_tb 886 (by decide +kernel)
theorem m_M_161 : Cond.methodLink R_M 161 y_M_daysOf ∈ lw_tbl := tk_tb 889 (by decide +kernel)
theorem m_M_181 : Cond.methodLink R_M 181 y_M_isFree ∈ lw_tbl := tk_tb 892 (by decide +kernel)
theorem m_M_202 : Cond.methodLink R_M 202 y_M_wasBefore ∈ lw_tbl := tk_tb 896 (by decide +kernel)
theorem m_M_205 : Cond.methodLink R_M 205 y_M_isSkipped ∈ lw_tbl := tk_tb 900 (by decide +kernel)
theorem m_W_58 : Cond.methodLink R_W 58 y_M_due ∈ lw_tbl := tk_tb 904 (by decide +kernel)
theorem m_M_214 : Cond.methodLink R_M 214 y_M_firstDue ∈ lw_tbl := tk_tb 909 (by decide +kernel)
theorem m_W_62 : Cond.methodLink R_W 62 y_M_local ∈ lw_tbl := tk_tb 913 (by decide +kernel)
theorem m_W_67 : Cond.methodLink R_W 67 y_M_wake ∈ lw_tbl := tk_tb 917 (by decide +kernel)
theorem m_M_228 : Cond.methodLink R_M 228 y_M_nextOf ∈ lw_tbl := tk_tb 921 (by decide +kernel)
theorem m_M_218 : Cond.methodLink R_M 218 y_M_lastDue ∈ lw_tbl := tk_tb 925 (by decide +kernel)
theorem m_M_231 : Cond.methodLink R_M 231 y_M_toOthers ∈ lw_tbl := tk_tb 929 (by decide +kernel)
theorem m_M_224 : Cond.methodLink R_M 224 y_M_send ∈ lw_tbl := tk_tb 933 (by decide +kernel)
theorem m_W_72 : Cond.methodLink R_W 72 y_M_up ∈ lw_tbl := tk_tb 937 (by decide +kernel)
theorem m_M_235 : Cond.methodLink R_M 235 y_M_over ∈ lw_tbl := tk_tb 941 (by decide +kernel)
theorem m_W_76 : Cond.methodLink R_W 76 y_M_desk ∈ lw_tbl := tk_tb 945 (by decide +kernel)
theorem m_W_81 : Cond.methodLink R_W 81 y_M_letters ∈ lw_tbl := tk_tb 949 (by decide +kernel)
theorem m_W_85 : Cond.methodLink R_W 85 y_M_deliver ∈ lw_tbl := tk_tb 953 (by decide +kernel)
theorem m_M_242 : Cond.methodLink R_M 242 y_M_remove ∈ lw_tbl := tk_tb 957 (by decide +kernel)
theorem m_M_245 : Cond.methodLink R_M 245 y_M_comeToDesk ∈ lw_tbl := tk_tb 961 (by decide +kernel)
theorem m_M_249 : Cond.methodLink R_M 249 y_M_promised ∈ lw_tbl := tk_tb 965 (by decide +kernel)
theorem m_M_238 : Cond.methodLink R_M 238 y_M_hasToWait ∈ lw_tbl := tk_tb 969 (by decide +kernel)
theorem m_W_89 : Cond.methodLink R_W 89 y_M_lose ∈ lw_tbl := tk_tb 973 (by decide +kernel)
theorem m_W_93 : Cond.methodLink R_W 93 y_M_twin ∈ lw_tbl := tk_tb 977 (by decide +kernel)
theorem m_W_97 : Cond.methodLink R_W 97 y_M_letter ∈ lw_tbl := tk_tb 981 (by decide +kernel)
theorem m_W_102 : Cond.methodLink R_W 102 y_M_register ∈ lw_tbl := tk_tb 985 (by decide +kernel)
theorem m_W_106 : Cond.methodLink R_W 106 y_M_effects ∈ lw_tbl := tk_tb 989 (by decide +kernel)
theorem m_W_110 : Cond.methodLink R_W 110 y_M_effect ∈ lw_tbl := tk_tb 993 (by decide +kernel)
