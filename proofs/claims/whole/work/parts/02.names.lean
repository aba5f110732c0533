theorem tk_tb {w : Cond} (i : Nat) (h : tables_1[i]? = some w) : w ∈ lw_tbl := List.mem_append_right _ (List.mem_of_getElem? h)
theorem tk_pv {w : Cond} (i : Nat) (h : (k2_sels lw_privs)[i]? = some w) : w ∈ lw_tbl := List.mem_append_left _ (List.mem_of_getElem? h)
theorem tk_mem {ws : List Cond} (ps : List Nat) (h : ws = ps.filterMap (fun i => tables_1[i]?)) : ∀ w ∈ ws, w ∈ lw_tbl := by
  intro w hw
  rw [h] at hw
  obtain ⟨i, -, hi⟩ := List.mem_filterMap.mp hw
  exact tk_tb i hi
/-- the words that go with every call, and those that don't -/
def tk_tbl : List Cond := lw_tbl.filter goodWord
def tk_isN : Cond → Bool
  | .fieldLinkNest .. => true
  | .methodLinkNest .. => true
  | .arrayOver (.object _) => true
  | _ => false
def tk_NS (U : State) : Prop := ∀ w ∈ lw_tbl, tk_isN w = true → w.before #[] U = true
theorem tk_g {w : Cond} (h : w ∈ lw_tbl) (hg : goodWord w = true) : w ∈ tk_tbl := List.mem_filter.mpr ⟨h, hg⟩
def R_K : String := "TickKeeper"
def T_K : u_T := fun k => match k with
  | 0 => ("TickKeeper", "zones", "[LTickKeeper$Zone;", true)
  | 1 => ("TickKeeper", "jobs", "[LTickKeeper$Job;", true)
  | 2 => ("TickKeeper", "schedulers", "[LTickKeeper$Scheduler;", true)
  | 3 => ("TickKeeper", "deskOn", "[Z", true)
  | 4 => ("TickKeeper", "journals", "[LTickKeeper$Journal;", true)
  | 5 => ("TickKeeper", "post", "LTickKeeper$Post;", true)
  | _ => ("TickKeeper", "now", "I", false)
def ty_K : Nat → FieldType := fun k => match k with
  | 0 => .array (.object "TickKeeper$Zone")
  | 1 => .array (.object "TickKeeper$Job")
  | 2 => .array (.object "TickKeeper$Scheduler")
  | 3 => .array (.boolean)
  | 4 => .array (.object "TickKeeper$Journal")
  | 5 => .object "TickKeeper$Post"
  | _ => .int
set_option maxRecDepth 100000 in
theorem in_K : ∀ w ∈ u_ws R_K T_K 7, w ∈ lw_tbl := tk_mem [281, 283, 285, 287, 289, 291, 293] (by decide +kernel)
theorem nm_K : ∀ a, a < 7 → ∀ b, b < 7 → a ≠ b → (T_K a).2.1 ≠ (T_K b).2.1 := by decide +kernel
theorem tyok_K : ∀ k, k < 7 → parseFieldDescriptor (T_K k).2.2.1 = some (ty_K k) := by decide +kernel
def R_P : String := "TickKeeper$Post"
def T_P : u_T := fun k => match k with
  | 0 => ("TickKeeper$Post", "row", "[LTickKeeper$Letter;", true)
  | 1 => ("TickKeeper$Post", "lost", "LTickKeeper$Letter;", true)
  | 2 => ("TickKeeper$Post", "taken", "LTickKeeper$Letter;", false)
  | _ => ("TickKeeper$Post", "count", "I", false)
def ty_P : Nat → FieldType := fun k => match k with
  | 0 => .array (.object "TickKeeper$Letter")
  | 1 => .object "TickKeeper$Letter"
  | 2 => .object "TickKeeper$Letter"
  | _ => .int
set_option maxRecDepth 100000 in
theorem in_P : ∀ w ∈ u_ws R_P T_P 4, w ∈ lw_tbl := tk_mem [91, 93, 95, 97] (by decide +kernel)
theorem nm_P : ∀ a, a < 4 → ∀ b, b < 4 → a ≠ b → (T_P a).2.1 ≠ (T_P b).2.1 := by decide +kernel
theorem tyok_P : ∀ k, k < 4 → parseFieldDescriptor (T_P k).2.2.1 = some (ty_P k) := by decide +kernel
def R_L : String := "TickKeeper$Letter"
def T_L : u_T := fun k => match k with
  | 0 => ("TickKeeper$Letter", "kind", "I", false)
  | 1 => ("TickKeeper$Letter", "from", "I", false)
  | 2 => ("TickKeeper$Letter", "to", "I", false)
  | 3 => ("TickKeeper$Letter", "job", "I", false)
  | 4 => ("TickKeeper$Letter", "ballot", "I", false)
  | 5 => ("TickKeeper$Letter", "moment", "I", false)
  | 6 => ("TickKeeper$Letter", "guard", "I", false)
  | _ => ("TickKeeper$Letter", "acceptedBallot", "I", false)
def ty_L : Nat → FieldType := fun k => match k with
  | 0 => .int
  | 1 => .int
  | 2 => .int
  | 3 => .int
  | 4 => .int
  | 5 => .int
  | 6 => .int
  | _ => .int
set_option maxRecDepth 100000 in
theorem in_L : ∀ w ∈ u_ws R_L T_L 8, w ∈ lw_tbl := tk_mem [67, 69, 71, 73, 75, 77, 79, 81] (by decide +kernel)
theorem nm_L : ∀ a, a < 8 → ∀ b, b < 8 → a ≠ b → (T_L a).2.1 ≠ (T_L b).2.1 := by decide +kernel
theorem tyok_L : ∀ k, k < 8 → parseFieldDescriptor (T_L k).2.2.1 = some (ty_L k) := by decide +kernel
def R_Z : String := "TickKeeper$Zone"
def T_Z : u_T := fun k => match k with
  | 0 => ("TickKeeper$Zone", "starts", "[I", true)
  | 1 => ("TickKeeper$Zone", "offsets", "[I", true)
  | 2 => ("TickKeeper$Zone", "holidays", "[I", true)
  | 3 => ("TickKeeper$Zone", "parts", "I", false)
  | _ => ("TickKeeper$Zone", "holidayCount", "I", false)
def ty_Z : Nat → FieldType := fun k => match k with
  | 0 => .array (.int)
  | 1 => .array (.int)
  | 2 => .array (.int)
  | 3 => .int
  | _ => .int
set_option maxRecDepth 100000 in
theorem in_Z : ∀ w ∈ u_ws R_Z T_Z 5, w ∈ lw_tbl := tk_mem [113, 115, 117, 119, 121] (by decide +kernel)
theorem nm_Z : ∀ a, a < 5 → ∀ b, b < 5 → a ≠ b → (T_Z a).2.1 ≠ (T_Z b).2.1 := by decide +kernel
theorem tyok_Z : ∀ k, k < 5 → parseFieldDescriptor (T_Z k).2.2.1 = some (ty_Z k) := by decide +kernel
def R_J : String := "TickKeeper$Job"
def T_J : u_T := fun k => match k with
  | 0 => ("TickKeeper$Job", "rule", "LTickKeeper$Rule;", true)
  | 1 => ("TickKeeper$Job", "exceptions", "[I", true)
  | 2 => ("TickKeeper$Job", "waitsFor", "[Z", true)
  | 3 => ("TickKeeper$Job", "zone", "LTickKeeper$Zone;", false)
  | 4 => ("TickKeeper$Job", "exceptionCount", "I", false)
  | 5 => ("TickKeeper$Job", "moved", "Z", false)
  | 6 => ("TickKeeper$Job", "mode", "I", false)
  | 7 => ("TickKeeper$Job", "lateness", "I", false)
  | _ => ("TickKeeper$Job", "paused", "Z", false)
def ty_J : Nat → FieldType := fun k => match k with
  | 0 => .object "TickKeeper$Rule"
  | 1 => .array (.int)
  | 2 => .array (.boolean)
  | 3 => .object "TickKeeper$Zone"
  | 4 => .int
  | 5 => .boolean
  | 6 => .int
  | 7 => .int
  | _ => .boolean
set_option maxRecDepth 100000 in
theorem in_J : ∀ w ∈ u_ws R_J T_J 9, w ∈ lw_tbl := tk_mem [175, 177, 179, 181, 183, 185, 187, 189, 191] (by decide +kernel)
theorem nm_J : ∀ a, a < 9 → ∀ b, b < 9 → a ≠ b → (T_J a).2.1 ≠ (T_J b).2.1 := by decide +kernel
theorem tyok_J : ∀ k, k < 9 → parseFieldDescriptor (T_J k).2.2.1 = some (ty_J k) := by decide +kernel
def R_U : String := "TickKeeper$Rule"
def T_U : u_T := fun k => match k with
  | 0 => ("TickKeeper$Rule", "minutes", "J", false)
  | 1 => ("TickKeeper$Rule", "hours", "I", false)
  | 2 => ("TickKeeper$Rule", "days", "J", false)
  | 3 => ("TickKeeper$Rule", "months", "I", false)
  | 4 => ("TickKeeper$Rule", "weekdays", "I", false)
  | 5 => ("TickKeeper$Rule", "nthWeekday", "I", false)
  | _ => ("TickKeeper$Rule", "nthPlace", "I", false)
def ty_U : Nat → FieldType := fun k => match k with
  | 0 => .long
  | 1 => .int
  | 2 => .long
  | 3 => .int
  | 4 => .int
  | 5 => .int
  | _ => .int
set_option maxRecDepth 100000 in
theorem in_U : ∀ w ∈ u_ws R_U T_U 7, w ∈ lw_tbl := tk_mem [146, 148, 150, 152, 154, 156, 158] (by decide +kernel)
theorem nm_U : ∀ a, a < 7 → ∀ b, b < 7 → a ≠ b → (T_U a).2.1 ≠ (T_U b).2.1 := by decide +kernel
theorem tyok_U : ∀ k, k < 7 → parseFieldDescriptor (T_U k).2.2.1 = some (ty_U k) := by decide +kernel
def R_N : String := "TickKeeper$Journal"
def T_N : u_T := fun k => match k with
  | 0 => ("TickKeeper$Journal", "moments", "[I", true)
  | 1 => ("TickKeeper$Journal", "guards", "[I", true)
  | 2 => ("TickKeeper$Journal", "count", "I", false)
  | _ => ("TickKeeper$Journal", "greatestGuard", "I", false)
def ty_N : Nat → FieldType := fun k => match k with
  | 0 => .array (.int)
  | 1 => .array (.int)
  | 2 => .int
  | _ => .int
set_option maxRecDepth 100000 in
theorem in_N : ∀ w ∈ u_ws R_N T_N 4, w ∈ lw_tbl := tk_mem [206, 208, 210, 212] (by decide +kernel)
theorem nm_N : ∀ a, a < 4 → ∀ b, b < 4 → a ≠ b → (T_N a).2.1 ≠ (T_N b).2.1 := by decide +kernel
theorem tyok_N : ∀ k, k < 4 → parseFieldDescriptor (T_N k).2.2.1 = some (ty_N k) := by decide +kernel
def R_S : String := "TickKeeper$Scheduler"
def T_S : u_T := fun k => match k with
  | 0 => ("TickKeeper$Scheduler", "seats", "[LTickKeeper$Seat;", true)
  | _ => ("TickKeeper$Scheduler", "running", "Z", false)
def ty_S : Nat → FieldType := fun k => match k with
  | 0 => .array (.object "TickKeeper$Seat")
  | _ => .boolean
set_option maxRecDepth 100000 in
theorem in_S : ∀ w ∈ u_ws R_S T_S 2, w ∈ lw_tbl := tk_mem [269, 271] (by decide +kernel)
theorem nm_S : ∀ a, a < 2 → ∀ b, b < 2 → a ≠ b → (T_S a).2.1 ≠ (T_S b).2.1 := by decide +kernel
theorem tyok_S : ∀ k, k < 2 → parseFieldDescriptor (T_S k).2.2.1 = some (ty_S k) := by decide +kernel
def R_E : String := "TickKeeper$Seat"
def T_E : u_T := fun k => match k with
  | 0 => ("TickKeeper$Seat", "promise", "I", false)
  | 1 => ("TickKeeper$Seat", "acceptedBallot", "I", false)
  | 2 => ("TickKeeper$Seat", "acceptedMoment", "I", false)
  | 3 => ("TickKeeper$Seat", "acceptedGuard", "I", false)
  | 4 => ("TickKeeper$Seat", "known", "I", false)
  | 5 => ("TickKeeper$Seat", "stage", "I", false)
  | 6 => ("TickKeeper$Seat", "ballot", "I", false)
  | 7 => ("TickKeeper$Seat", "claimed", "I", false)
  | _ => ("TickKeeper$Seat", "guard", "I", false)
def ty_E : Nat → FieldType := fun k => match k with
  | 0 => .int
  | 1 => .int
  | 2 => .int
  | 3 => .int
  | 4 => .int
  | 5 => .int
  | 6 => .int
  | 7 => .int
  | _ => .int
set_option maxRecDepth 100000 in
theorem in_E : ∀ w ∈ u_ws R_E T_E 9, w ∈ lw_tbl := tk_mem [246, 248, 250, 252, 254, 256, 258, 260, 262] (by decide +kernel)
theorem nm_E : ∀ a, a < 9 → ∀ b, b < 9 → a ≠ b → (T_E a).2.1 ≠ (T_E b).2.1 := by decide +kernel
theorem tyok_E : ∀ k, k < 9 → parseFieldDescriptor (T_E k).2.2.1 = some (ty_E k) := by decide +kernel
def R_M : String := "TickKeeperModel"
def T_M : u_T := fun k => match k with
  | 0 => ("TickKeeperModel", "code", "I", false)
  | 1 => ("TickKeeperModel", "now", "I", false)
  | 2 => ("TickKeeperModel", "shiftAt", "[I", true)
  | 3 => ("TickKeeperModel", "shiftBy", "[I", true)
  | 4 => ("TickKeeperModel", "shifts", "[I", true)
  | 5 => ("TickKeeperModel", "holidays", "[I", true)
  | 6 => ("TickKeeperModel", "holidayCount", "[I", true)
  | 7 => ("TickKeeperModel", "minutes", "[J", true)
  | 8 => ("TickKeeperModel", "hours", "[I", true)
  | 9 => ("TickKeeperModel", "days", "[I", true)
  | 10 => ("TickKeeperModel", "months", "[I", true)
  | 11 => ("TickKeeperModel", "weekdays", "[I", true)
  | 12 => ("TickKeeperModel", "nthDay", "[I", true)
  | 13 => ("TickKeeperModel", "nth", "[I", true)
  | 14 => ("TickKeeperModel", "zone", "[I", true)
  | 15 => ("TickKeeperModel", "mode", "[I", true)
  | 16 => ("TickKeeperModel", "lateness", "[I", true)
  | 17 => ("TickKeeperModel", "exceptions", "[I", true)
  | 18 => ("TickKeeperModel", "exceptionCount", "[I", true)
  | 19 => ("TickKeeperModel", "waits", "[I", true)
  | 20 => ("TickKeeperModel", "moved", "[Z", true)
  | 21 => ("TickKeeperModel", "paused", "[Z", true)
  | 22 => ("TickKeeperModel", "isUp", "[Z", true)
  | 23 => ("TickKeeperModel", "isOn", "[Z", true)
  | 24 => ("TickKeeperModel", "promise", "[I", true)
  | 25 => ("TickKeeperModel", "ballot", "[I", true)
  | 26 => ("TickKeeperModel", "moment", "[I", true)
  | 27 => ("TickKeeperModel", "guard", "[I", true)
  | 28 => ("TickKeeperModel", "knows", "[I", true)
  | 29 => ("TickKeeperModel", "stage", "[I", true)
  | 30 => ("TickKeeperModel", "round", "[I", true)
  | 31 => ("TickKeeperModel", "claim", "[I", true)
  | 32 => ("TickKeeperModel", "claimGuard", "[I", true)
  | 33 => ("TickKeeperModel", "greatest", "[I", true)
  | 34 => ("TickKeeperModel", "effectCount", "[I", true)
  | 35 => ("TickKeeperModel", "effectMoment", "[I", true)
  | 36 => ("TickKeeperModel", "effectGuard", "[I", true)
  | 37 => ("TickKeeperModel", "letter", "[I", true)
  | 38 => ("TickKeeperModel", "letters", "I", false)
  | 39 => ("TickKeeperModel", "year", "I", false)
  | 40 => ("TickKeeperModel", "month", "I", false)
  | 41 => ("TickKeeperModel", "date", "I", false)
  | _ => ("TickKeeperModel", "monthDays", "I", false)
def ty_M : Nat → FieldType := fun k => match k with
  | 0 => .int
  | 1 => .int
  | 2 => .array (.int)
  | 3 => .array (.int)
  | 4 => .array (.int)
  | 5 => .array (.int)
  | 6 => .array (.int)
  | 7 => .array (.long)
  | 8 => .array (.int)
  | 9 => .array (.int)
  | 10 => .array (.int)
  | 11 => .array (.int)
  | 12 => .array (.int)
  | 13 => .array (.int)
  | 14 => .array (.int)
  | 15 => .array (.int)
  | 16 => .array (.int)
  | 17 => .array (.int)
  | 18 => .array (.int)
  | 19 => .array (.int)
  | 20 => .array (.boolean)
  | 21 => .array (.boolean)
  | 22 => .array (.boolean)
  | 23 => .array (.boolean)
  | 24 => .array (.int)
  | 25 => .array (.int)
  | 26 => .array (.int)
  | 27 => .array (.int)
  | 28 => .array (.int)
  | 29 => .array (.int)
  | 30 => .array (.int)
  | 31 => .array (.int)
  | 32 => .array (.int)
  | 33 => .array (.int)
  | 34 => .array (.int)
  | 35 => .array (.int)
  | 36 => .array (.int)
  | 37 => .array (.int)
  | 38 => .int
  | 39 => .int
  | 40 => .int
  | 41 => .int
  | _ => .int
set_option maxRecDepth 100000 in
theorem in_M : ∀ w ∈ u_ws R_M T_M 43, w ∈ lw_tbl := tk_mem [700, 702, 704, 706, 708, 710, 712, 714, 716, 718, 720, 722, 724, 726, 728, 730, 732, 734, 736, 738, 740, 742, 744, 746, 748, 750, 752, 754, 756, 758, 760, 762, 764, 766, 768, 770, 772, 774, 776, 778, 780, 782, 784] (by decide +kernel)
theorem nm_M : ∀ a, a < 43 → ∀ b, b < 43 → a ≠ b → (T_M a).2.1 ≠ (T_M b).2.1 := by decide +kernel
theorem tyok_M : ∀ k, k < 43 → parseFieldDescriptor (T_M k).2.2.1 = some (ty_M k) := by decide +kernel
def R_O : String := "TickKeeper$Months"
def R_Q : String := "java/lang/Math"
def R_G : String := "java/lang/Long"
def R_W : String := "TickKeeperLaw"
def tk_R : Nat → String := fun ci => match ci with
  | 0 => R_K
  | 1 => R_P
  | 2 => R_L
  | 3 => R_Z
  | 4 => R_J
  | 5 => R_U
  | 6 => R_N
  | 7 => R_S
  | 8 => R_E
  | _ => R_M
def tk_T : Nat → u_T := fun ci => match ci with
  | 0 => T_K
  | 1 => T_P
  | 2 => T_L
  | 3 => T_Z
  | 4 => T_J
  | 5 => T_U
  | 6 => T_N
  | 7 => T_S
  | 8 => T_E
  | _ => T_M
def tk_N : Nat → Nat := fun ci => match ci with
  | 0 => 7
  | 1 => 4
  | 2 => 8
  | 3 => 5
  | 4 => 9
  | 5 => 7
  | 6 => 4
  | 7 => 2
  | 8 => 9
  | _ => 43
def tk_ty : Nat → (Nat → FieldType) := fun ci => match ci with
  | 0 => ty_K
  | 1 => ty_P
  | 2 => ty_L
  | 3 => ty_Z
  | 4 => ty_J
  | 5 => ty_U
  | 6 => ty_N
  | 7 => ty_S
  | 8 => ty_E
  | _ => ty_M
def tk_cl : List vw_C := (List.range 10).map (fun ci => (tk_R ci, tk_T ci, tk_N ci))
theorem tk_cl_at {ci : Nat} (h : ci < 10) : tk_cl[ci]? = some (tk_R ci, tk_T ci, tk_N ci) := by
  unfold tk_cl
  rw [List.getElem?_map, List.getElem?_range h]
  rfl
theorem tk_ten {P : Nat → Prop} (h0 : P 0) (h1 : P 1) (h2 : P 2) (h3 : P 3) (h4 : P 4) (h5 : P 5) (h6 : P 6) (h7 : P 7) (h8 : P 8) (h9 : P 9) {ci : Nat} (h : ci < 10) : P ci := by
  rcases (show ci = 0 ∨ ci = 1 ∨ ci = 2 ∨ ci = 3 ∨ ci = 4 ∨ ci = 5 ∨ ci = 6 ∨ ci = 7 ∨ ci = 8 ∨ ci = 9 by omega) with rfl | rfl | rfl | rfl | rfl | rfl | rfl | rfl | rfl | rfl <;> assumption
theorem tk_in {ci : Nat} (h : ci < 10) : ∀ w ∈ u_ws (tk_R ci) (tk_T ci) (tk_N ci), w ∈ lw_tbl := tk_ten (P := fun ci => ∀ w ∈ u_ws (tk_R ci) (tk_T ci) (tk_N ci), w ∈ lw_tbl) in_K in_P in_L in_Z in_J in_U in_N in_S in_E in_M h
theorem tk_nm {ci : Nat} (h : ci < 10) : ∀ a, a < tk_N ci → ∀ b, b < tk_N ci → a ≠ b → (tk_T ci a).2.1 ≠ (tk_T ci b).2.1 := tk_ten (P := fun ci => ∀ a, a < tk_N ci → ∀ b, b < tk_N ci → a ≠ b → (tk_T ci a).2.1 ≠ (tk_T ci b).2.1) nm_K nm_P nm_L nm_Z nm_J nm_U nm_N nm_S nm_E nm_M h
theorem tk_tyok {ci : Nat} (h : ci < 10) : ∀ k, k < tk_N ci → parseFieldDescriptor (tk_T ci k).2.2.1 = some (tk_ty ci k) := tk_ten (P := fun ci => ∀ k, k < tk_N ci → parseFieldDescriptor (tk_T ci k).2.2.1 = some (tk_ty ci k)) tyok_K tyok_P tyok_L tyok_Z tyok_J tyok_U tyok_N tyok_S tyok_E tyok_M h
/-- a field's entry in a class's pool -/
def tk_Fl (own : String) (idx ci k : Nat) : Prop := ci < 10 ∧ k < tk_N ci ∧ (tk_T ci k).1 = tk_R ci ∧ (Cond.fieldLink own idx (tk_R ci) (tk_T ci k).2.1 (tk_T ci k).2.2.1 ∈ lw_tbl ∨ Cond.fieldLinkNest own idx (tk_R ci) (tk_T ci k).2.1 (tk_T ci k).2.2.1 "TickKeeper" ∈ lw_tbl)
theorem f_L_9 : tk_Fl R_L 9 2 0 := ⟨by decide, by decide, rfl, .inl (tk_tb 43 (by decide +kernel))⟩
theorem f_P_29 : tk_Fl R_P 29 2 0 := ⟨by decide, by decide, rfl, .inr (tk_tb 44 (by decide +kernel))⟩
theorem f_K_172 : tk_Fl R_K 172 2 0 := ⟨by decide, by decide, rfl, .inr (tk_tb 45 (by decide +kernel))⟩
theorem f_L_15 : tk_Fl R_L 15 2 1 := ⟨by decide, by decide, rfl, .inl (tk_tb 46 (by decide +kernel))⟩
theorem f_P_32 : tk_Fl R_P 32 2 1 := ⟨by decide, by decide, rfl, .inr (tk_tb 47 (by decide +kernel))⟩
theorem f_K_217 : tk_Fl R_K 217 2 1 := ⟨by decide, by decide, rfl, .inr (tk_tb 48 (by decide +kernel))⟩
theorem f_L_18 : tk_Fl R_L 18 2 2 := ⟨by decide, by decide, rfl, .inl (tk_tb 49 (by decide +kernel))⟩
theorem f_P_35 : tk_Fl R_P 35 2 2 := ⟨by decide, by decide, rfl, .inr (tk_tb 50 (by decide +kernel))⟩
theorem f_K_211 : tk_Fl R_K 211 2 2 := ⟨by decide, by decide, rfl, .inr (tk_tb 51 (by decide +kernel))⟩
theorem f_L_21 : tk_Fl R_L 21 2 3 := ⟨by decide, by decide, rfl, .inl (tk_tb 52 (by decide +kernel))⟩
theorem f_P_38 : tk_Fl R_P 38 2 3 := ⟨by decide, by decide, rfl, .inr (tk_tb 53 (by decide +kernel))⟩
theorem f_K_214 : tk_Fl R_K 214 2 3 := ⟨by decide, by decide, rfl, .inr (tk_tb 54 (by decide +kernel))⟩
theorem f_L_24 : tk_Fl R_L 24 2 4 := ⟨by decide, by decide, rfl, .inl (tk_tb 55 (by decide +kernel))⟩
theorem f_P_41 : tk_Fl R_P 41 2 4 := ⟨by decide, by decide, rfl, .inr (tk_tb 56 (by decide +kernel))⟩
theorem f_K_236 : tk_Fl R_K 236 2 4 := ⟨by decide, by decide, rfl, .inr (tk_tb 57 (by decide +kernel))⟩
theorem f_L_27 : tk_Fl R_L 27 2 5 := ⟨by decide, by decide, rfl, .inl (tk_tb 58 (by decide +kernel))⟩
theorem f_P_44 : tk_Fl R_P 44 2 5 := ⟨by decide, by decide, rfl, .inr (tk_tb 59 (by decide +kernel))⟩
theorem f_K_197 : tk_Fl R_K 197 2 5 := ⟨by decide, by decide, rfl, .inr (tk_tb 60 (by decide +kernel))⟩
theorem f_L_30 : tk_Fl R_L 30 2 6 := ⟨by decide, by decide, rfl, .inl (tk_tb 61 (by decide +kernel))⟩
theorem f_P_47 : tk_Fl R_P 47 2 6 := ⟨by decide, by decide, rfl, .inr (tk_tb 62 (by decide +kernel))⟩
theorem f_K_243 : tk_Fl R_K 243 2 6 := ⟨by decide, by decide, rfl, .inr (tk_tb 63 (by decide +kernel))⟩
theorem f_L_33 : tk_Fl R_L 33 2 7 := ⟨by decide, by decide, rfl, .inl (tk_tb 64 (by decide +kernel))⟩
theorem f_P_50 : tk_Fl R_P 50 2 7 := ⟨by decide, by decide, rfl, .inr (tk_tb 65 (by decide +kernel))⟩
theorem f_K_257 : tk_Fl R_K 257 2 7 := ⟨by decide, by decide, rfl, .inr (tk_tb 66 (by decide +kernel))⟩
theorem f_P_11 : tk_Fl R_P 11 1 0 := ⟨by decide, by decide, rfl, .inl (tk_tb 85 (by decide +kernel))⟩
theorem f_K_206 : tk_Fl R_K 206 1 0 := ⟨by decide, by decide, rfl, .inr (tk_tb 86 (by decide +kernel))⟩
theorem f_P_18 : tk_Fl R_P 18 1 1 := ⟨by decide, by decide, rfl, .inl (tk_tb 87 (by decide +kernel))⟩
theorem f_P_22 : tk_Fl R_P 22 1 2 := ⟨by decide, by decide, rfl, .inl (tk_tb 88 (by decide +kernel))⟩
theorem f_P_25 : tk_Fl R_P 25 1 3 := ⟨by decide, by decide, rfl, .inl (tk_tb 89 (by decide +kernel))⟩
theorem f_K_160 : tk_Fl R_K 160 1 3 := ⟨by decide, by decide, rfl, .inr (tk_tb 90 (by decide +kernel))⟩
theorem f_Z_9 : tk_Fl R_Z 9 3 0 := ⟨by decide, by decide, rfl, .inl (tk_tb 105 (by decide +kernel))⟩
theorem f_J_92 : tk_Fl R_J 92 3 0 := ⟨by decide, by decide, rfl, .inr (tk_tb 106 (by decide +kernel))⟩
theorem f_Z_15 : tk_Fl R_Z 15 3 1 := ⟨by decide, by decide, rfl, .inl (tk_tb 107 (by decide +kernel))⟩
theorem f_J_89 : tk_Fl R_J 89 3 1 := ⟨by decide, by decide, rfl, .inr (tk_tb 108 (by decide +kernel))⟩
theorem f_Z_18 : tk_Fl R_Z 18 3 2 := ⟨by decide, by decide, rfl, .inl (tk_tb 109 (by decide +kernel))⟩
theorem f_Z_21 : tk_Fl R_Z 21 3 3 := ⟨by decide, by decide, rfl, .inl (tk_tb 110 (by decide +kernel))⟩
theorem f_J_86 : tk_Fl R_J 86 3 3 := ⟨by decide, by decide, rfl, .inr (tk_tb 111 (by decide +kernel))⟩
theorem f_Z_25 : tk_Fl R_Z 25 3 4 := ⟨by decide, by decide, rfl, .inl (tk_tb 112 (by decide +kernel))⟩
theorem f_U_9 : tk_Fl R_U 9 5 0 := ⟨by decide, by decide, rfl, .inl (tk_tb 137 (by decide +kernel))⟩
theorem f_U_15 : tk_Fl R_U 15 5 1 := ⟨by decide, by decide, rfl, .inl (tk_tb 138 (by decide +kernel))⟩
theorem f_U_21 : tk_Fl R_U 21 5 2 := ⟨by decide, by decide, rfl, .inl (tk_tb 139 (by decide +kernel))⟩
theorem f_U_24 : tk_Fl R_U 24 5 3 := ⟨by decide, by decide, rfl, .inl (tk_tb 140 (by decide +kernel))⟩
theorem f_U_27 : tk_Fl R_U 27 5 4 := ⟨by decide, by decide, rfl, .inl (tk_tb 141 (by decide +kernel))⟩
theorem f_U_30 : tk_Fl R_U 30 5 5 := ⟨by decide, by decide, rfl, .inl (tk_tb 142 (by decide +kernel))⟩
theorem f_K_87 : tk_Fl R_K 87 5 5 := ⟨by decide, by decide, rfl, .inr (tk_tb 143 (by decide +kernel))⟩
theorem f_U_33 : tk_Fl R_U 33 5 6 := ⟨by decide, by decide, rfl, .inl (tk_tb 144 (by decide +kernel))⟩
theorem f_K_90 : tk_Fl R_K 90 5 6 := ⟨by decide, by decide, rfl, .inr (tk_tb 145 (by decide +kernel))⟩
theorem f_J_12 : tk_Fl R_J 12 4 0 := ⟨by decide, by decide, rfl, .inl (tk_tb 161 (by decide +kernel))⟩
theorem f_K_77 : tk_Fl R_K 77 4 0 := ⟨by decide, by decide, rfl, .inr (tk_tb 162 (by decide +kernel))⟩
theorem f_J_18 : tk_Fl R_J 18 4 1 := ⟨by decide, by decide, rfl, .inl (tk_tb 163 (by decide +kernel))⟩
theorem f_J_22 : tk_Fl R_J 22 4 2 := ⟨by decide, by decide, rfl, .inl (tk_tb 164 (by decide +kernel))⟩
theorem f_K_113 : tk_Fl R_K 113 4 2 := ⟨by decide, by decide, rfl, .inr (tk_tb 165 (by decide +kernel))⟩
theorem f_J_43 : tk_Fl R_J 43 4 3 := ⟨by decide, by decide, rfl, .inl (tk_tb 166 (by decide +kernel))⟩
theorem f_K_93 : tk_Fl R_K 93 4 3 := ⟨by decide, by decide, rfl, .inr (tk_tb 167 (by decide +kernel))⟩
theorem f_J_26 : tk_Fl R_J 26 4 4 := ⟨by decide, by decide, rfl, .inl (tk_tb 168 (by decide +kernel))⟩
theorem f_J_30 : tk_Fl R_J 30 4 5 := ⟨by decide, by decide, rfl, .inl (tk_tb 169 (by decide +kernel))⟩
theorem f_K_97 : tk_Fl R_K 97 4 5 := ⟨by decide, by decide, rfl, .inr (tk_tb 170 (by decide +kernel))⟩
theorem f_J_34 : tk_Fl R_J 34 4 6 := ⟨by decide, by decide, rfl, .inl (tk_tb 171 (by decide +kernel))⟩
theorem f_J_37 : tk_Fl R_J 37 4 7 := ⟨by decide, by decide, rfl, .inl (tk_tb 172 (by decide +kernel))⟩
theorem f_J_40 : tk_Fl R_J 40 4 8 := ⟨by decide, by decide, rfl, .inl (tk_tb 173 (by decide +kernel))⟩
theorem f_K_107 : tk_Fl R_K 107 4 8 := ⟨by decide, by decide, rfl, .inr (tk_tb 174 (by decide +kernel))⟩
theorem f_N_9 : tk_Fl R_N 9 6 0 := ⟨by decide, by decide, rfl, .inl (tk_tb 199 (by decide +kernel))⟩
theorem f_K_153 : tk_Fl R_K 153 6 0 := ⟨by decide, by decide, rfl, .inr (tk_tb 200 (by decide +kernel))⟩
theorem f_N_15 : tk_Fl R_N 15 6 1 := ⟨by decide, by decide, rfl, .inl (tk_tb 201 (by decide +kernel))⟩
theorem f_K_157 : tk_Fl R_K 157 6 1 := ⟨by decide, by decide, rfl, .inr (tk_tb 202 (by decide +kernel))⟩
theorem f_N_18 : tk_Fl R_N 18 6 2 := ⟨by decide, by decide, rfl, .inl (tk_tb 203 (by decide +kernel))⟩
theorem f_K_150 : tk_Fl R_K 150 6 2 := ⟨by decide, by decide, rfl, .inr (tk_tb 204 (by decide +kernel))⟩
theorem f_N_22 : tk_Fl R_N 22 6 3 := ⟨by decide, by decide, rfl, .inl (tk_tb 205 (by decide +kernel))⟩
theorem f_E_9 : tk_Fl R_E 9 8 0 := ⟨by decide, by decide, rfl, .inl (tk_tb 227 (by decide +kernel))⟩
theorem f_K_244 : tk_Fl R_K 244 8 0 := ⟨by decide, by decide, rfl, .inr (tk_tb 228 (by decide +kernel))⟩
theorem f_E_15 : tk_Fl R_E 15 8 1 := ⟨by decide, by decide, rfl, .inl (tk_tb 229 (by decide +kernel))⟩
theorem f_K_254 : tk_Fl R_K 254 8 1 := ⟨by decide, by decide, rfl, .inr (tk_tb 230 (by decide +kernel))⟩
theorem f_E_18 : tk_Fl R_E 18 8 2 := ⟨by decide, by decide, rfl, .inl (tk_tb 231 (by decide +kernel))⟩
theorem f_K_224 : tk_Fl R_K 224 8 2 := ⟨by decide, by decide, rfl, .inr (tk_tb 232 (by decide +kernel))⟩
theorem f_E_21 : tk_Fl R_E 21 8 3 := ⟨by decide, by decide, rfl, .inl (tk_tb 233 (by decide +kernel))⟩
theorem f_K_251 : tk_Fl R_K 251 8 3 := ⟨by decide, by decide, rfl, .inr (tk_tb 234 (by decide +kernel))⟩
theorem f_E_24 : tk_Fl R_E 24 8 4 := ⟨by decide, by decide, rfl, .inl (tk_tb 235 (by decide +kernel))⟩
theorem f_S_22 : tk_Fl R_S 22 8 4 := ⟨by decide, by decide, rfl, .inr (tk_tb 236 (by decide +kernel))⟩
theorem f_K_227 : tk_Fl R_K 227 8 4 := ⟨by decide, by decide, rfl, .inr (tk_tb 237 (by decide +kernel))⟩
theorem f_E_27 : tk_Fl R_E 27 8 5 := ⟨by decide, by decide, rfl, .inl (tk_tb 238 (by decide +kernel))⟩
theorem f_K_281 : tk_Fl R_K 281 8 5 := ⟨by decide, by decide, rfl, .inr (tk_tb 239 (by decide +kernel))⟩
theorem f_E_30 : tk_Fl R_E 30 8 6 := ⟨by decide, by decide, rfl, .inl (tk_tb 240 (by decide +kernel))⟩
theorem f_K_233 : tk_Fl R_K 233 8 6 := ⟨by decide, by decide, rfl, .inr (tk_tb 241 (by decide +kernel))⟩
theorem f_E_33 : tk_Fl R_E 33 8 7 := ⟨by decide, by decide, rfl, .inl (tk_tb 242 (by decide +kernel))⟩
theorem f_K_237 : tk_Fl R_K 237 8 7 := ⟨by decide, by decide, rfl, .inr (tk_tb 243 (by decide +kernel))⟩
theorem f_E_36 : tk_Fl R_E 36 8 8 := ⟨by decide, by decide, rfl, .inl (tk_tb 244 (by decide +kernel))⟩
theorem f_K_240 : tk_Fl R_K 240 8 8 := ⟨by decide, by decide, rfl, .inr (tk_tb 245 (by decide +kernel))⟩
theorem f_S_11 : tk_Fl R_S 11 7 0 := ⟨by decide, by decide, rfl, .inl (tk_tb 265 (by decide +kernel))⟩
theorem f_K_126 : tk_Fl R_K 126 7 0 := ⟨by decide, by decide, rfl, .inr (tk_tb 266 (by decide +kernel))⟩
theorem f_S_17 : tk_Fl R_S 17 7 1 := ⟨by decide, by decide, rfl, .inl (tk_tb 267 (by decide +kernel))⟩
theorem f_K_123 : tk_Fl R_K 123 7 1 := ⟨by decide, by decide, rfl, .inr (tk_tb 268 (by decide +kernel))⟩
theorem f_K_11 : tk_Fl R_K 11 0 0 := ⟨by decide, by decide, rfl, .inl (tk_tb 274 (by decide +kernel))⟩
theorem f_K_17 : tk_Fl R_K 17 0 1 := ⟨by decide, by decide, rfl, .inl (tk_tb 275 (by decide +kernel))⟩
theorem f_K_23 : tk_Fl R_K 23 0 2 := ⟨by decide, by decide, rfl, .inl (tk_tb 276 (by decide +kernel))⟩
theorem f_K_27 : tk_Fl R_K 27 0 3 := ⟨by decide, by decide, rfl, .inl (tk_tb 277 (by decide +kernel))⟩
theorem f_K_33 : tk_Fl R_K 33 0 4 := ⟨by decide, by decide, rfl, .inl (tk_tb 278 (by decide +kernel))⟩
theorem f_K_40 : tk_Fl R_K 40 0 5 := ⟨by decide, by decide, rfl, .inl (tk_tb 279 (by decide +kernel))⟩
theorem f_K_44 : tk_Fl R_K 44 0 6 := ⟨by decide, by decide, rfl, .inl (tk_tb 280 (by decide +kernel))⟩
theorem fs_O_11 : Cond.fieldLink R_O 11 "TickKeeper$Months" "STARTS" "[I" ∈ lw_tbl := tk_tb 424 (by decide +kernel)
theorem f_M_120 : tk_Fl R_M 120 9 0 := ⟨by decide, by decide, rfl, .inl (tk_tb 657 (by decide +kernel))⟩
theorem f_M_129 : tk_Fl R_M 129 9 1 := ⟨by decide, by decide, rfl, .inl (tk_tb 658 (by decide +kernel))⟩
theorem f_M_7 : tk_Fl R_M 7 9 2 := ⟨by decide, by decide, rfl, .inl (tk_tb 659 (by decide +kernel))⟩
theorem f_M_13 : tk_Fl R_M 13 9 3 := ⟨by decide, by decide, rfl, .inl (tk_tb 660 (by decide +kernel))⟩
theorem f_M_16 : tk_Fl R_M 16 9 4 := ⟨by decide, by decide, rfl, .inl (tk_tb 661 (by decide +kernel))⟩
theorem f_M_19 : tk_Fl R_M 19 9 5 := ⟨by decide, by decide, rfl, .inl (tk_tb 662 (by decide +kernel))⟩
theorem f_M_22 : tk_Fl R_M 22 9 6 := ⟨by decide, by decide, rfl, .inl (tk_tb 663 (by decide +kernel))⟩
theorem f_M_25 : tk_Fl R_M 25 9 7 := ⟨by decide, by decide, rfl, .inl (tk_tb 664 (by decide +kernel))⟩
theorem f_M_29 : tk_Fl R_M 29 9 8 := ⟨by decide, by decide, rfl, .inl (tk_tb 665 (by decide +kernel))⟩
theorem f_M_32 : tk_Fl R_M 32 9 9 := ⟨by decide, by decide, rfl, .inl (tk_tb 666 (by decide +kernel))⟩
theorem f_M_35 : tk_Fl R_M 35 9 10 := ⟨by decide, by decide, rfl, .inl (tk_tb 667 (by decide +kernel))⟩
theorem f_M_38 : tk_Fl R_M 38 9 11 := ⟨by decide, by decide, rfl, .inl (tk_tb 668 (by decide +kernel))⟩
theorem f_M_41 : tk_Fl R_M 41 9 12 := ⟨by decide, by decide, rfl, .inl (tk_tb 669 (by decide +kernel))⟩
theorem f_M_44 : tk_Fl R_M 44 9 13 := ⟨by decide, by decide, rfl, .inl (tk_tb 670 (by decide +kernel))⟩
theorem f_M_47 : tk_Fl R_M 47 9 14 := ⟨by decide, by decide, rfl, .inl (tk_tb 671 (by decide +kernel))⟩
theorem f_M_50 : tk_Fl R_M 50 9 15 := ⟨by decide, by decide, rfl, .inl (tk_tb 672 (by decide +kernel))⟩
theorem f_M_53 : tk_Fl R_M 53 9 16 := ⟨by decide, by decide, rfl, .inl (tk_tb 673 (by decide +kernel))⟩
theorem f_M_56 : tk_Fl R_M 56 9 17 := ⟨by decide, by decide, rfl, .inl (tk_tb 674 (by decide +kernel))⟩
theorem f_M_59 : tk_Fl R_M 59 9 18 := ⟨by decide, by decide, rfl, .inl (tk_tb 675 (by decide +kernel))⟩
theorem f_M_62 : tk_Fl R_M 62 9 19 := ⟨by decide, by decide, rfl, .inl (tk_tb 676 (by decide +kernel))⟩
theorem f_M_65 : tk_Fl R_M 65 9 20 := ⟨by decide, by decide, rfl, .inl (tk_tb 677 (by decide +kernel))⟩
theorem f_M_69 : tk_Fl R_M 69 9 21 := ⟨by decide, by decide, rfl, .inl (tk_tb 678 (by decide +kernel))⟩
theorem f_M_72 : tk_Fl R_M 72 9 22 := ⟨by decide, by decide, rfl, .inl (tk_tb 679 (by decide +kernel))⟩
theorem f_M_75 : tk_Fl R_M 75 9 23 := ⟨by decide, by decide, rfl, .inl (tk_tb 680 (by decide +kernel))⟩
theorem f_M_78 : tk_Fl R_M 78 9 24 := ⟨by decide, by decide, rfl, .inl (tk_tb 681 (by decide +kernel))⟩
theorem f_M_81 : tk_Fl R_M 81 9 25 := ⟨by decide, by decide, rfl, .inl (tk_tb 682 (by decide +kernel))⟩
theorem f_M_84 : tk_Fl R_M 84 9 26 := ⟨by decide, by decide, rfl, .inl (tk_tb 683 (by decide +kernel))⟩
theorem f_M_87 : tk_Fl R_M 87 9 27 := ⟨by decide, by decide, rfl, .inl (tk_tb 684 (by decide +kernel))⟩
theorem f_M_90 : tk_Fl R_M 90 9 28 := ⟨by decide, by decide, rfl, .inl (tk_tb 685 (by decide +kernel))⟩
theorem f_M_93 : tk_Fl R_M 93 9 29 := ⟨by decide, by decide, rfl, .inl (tk_tb 686 (by decide +kernel))⟩
theorem f_M_96 : tk_Fl R_M 96 9 30 := ⟨by decide, by decide, rfl, .inl (tk_tb 687 (by decide +kernel))⟩
theorem f_M_99 : tk_Fl R_M 99 9 31 := ⟨by decide, by decide, rfl, .inl (tk_tb 688 (by decide +kernel))⟩
theorem f_M_102 : tk_Fl R_M 102 9 32 := ⟨by decide, by decide, rfl, .inl (tk_tb 689 (by decide +kernel))⟩
theorem f_M_105 : tk_Fl R_M 105 9 33 := ⟨by decide, by decide, rfl, .inl (tk_tb 690 (by decide +kernel))⟩
theorem f_M_108 : tk_Fl R_M 108 9 34 := ⟨by decide, by decide, rfl, .inl (tk_tb 691 (by decide +kernel))⟩
theorem f_M_111 : tk_Fl R_M 111 9 35 := ⟨by decide, by decide, rfl, .inl (tk_tb 692 (by decide +kernel))⟩
theorem f_M_114 : tk_Fl R_M 114 9 36 := ⟨by decide, by decide, rfl, .inl (tk_tb 693 (by decide +kernel))⟩
theorem f_M_117 : tk_Fl R_M 117 9 37 := ⟨by decide, by decide, rfl, .inl (tk_tb 694 (by decide +kernel))⟩
theorem f_M_221 : tk_Fl R_M 221 9 38 := ⟨by decide, by decide, rfl, .inl (tk_tb 695 (by decide +kernel))⟩
theorem f_M_155 : tk_Fl R_M 155 9 39 := ⟨by decide, by decide, rfl, .inl (tk_tb 696 (by decide +kernel))⟩
theorem f_M_158 : tk_Fl R_M 158 9 40 := ⟨by decide, by decide, rfl, .inl (tk_tb 697 (by decide +kernel))⟩
theorem f_M_164 : tk_Fl R_M 164 9 41 := ⟨by decide, by decide, rfl, .inl (tk_tb 698 (by decide +kernel))⟩
theorem f_M_167 : tk_Fl R_M 167 9 42 := ⟨by decide, by decide, rfl, .inl (tk_tb 699 (by decide +kernel))⟩
theorem c_U_19 : Cond.constantLong R_U 19 (4294967295) ∈ lw_tbl := tk_tb 136 (by decide +kernel)
theorem c_K_54 : Cond.constant R_K 54 (52595999) ∈ lw_tbl := tk_tb 300 (by decide +kernel)
theorem c_K_66 : Cond.constant R_K 66 (36524) ∈ lw_tbl := tk_tb 319 (by decide +kernel)
theorem c_U_36 : Cond.constant R_U 36 (1073741823) ∈ lw_tbl := tk_tb 347 (by decide +kernel)
theorem c_U_37 : Cond.constant R_U 37 (16777215) ∈ lw_tbl := tk_tb 348 (by decide +kernel)
theorem c_J_47 : Cond.constant R_J 47 (100000) ∈ lw_tbl := tk_tb 365 (by decide +kernel)
theorem c_Z_38 : Cond.constant R_Z 38 (52595999) ∈ lw_tbl := tk_tb 397 (by decide +kernel)
theorem c_U_44 : Cond.constantLong R_U 44 (2) ∈ lw_tbl := tk_tb 433 (by decide +kernel)
theorem c_U_58 : Cond.constantLong R_U 58 (127) ∈ lw_tbl := tk_tb 438 (by decide +kernel)
theorem c_U_56 : Cond.constantLong R_U 56 (270549121) ∈ lw_tbl := tk_tb 445 (by decide +kernel)
theorem c_G_314 : Cond.constantLong R_G 314 (6148914691236517205) ∈ lw_tbl := tk_tb 462 (by decide +kernel)
theorem c_G_316 : Cond.constantLong R_G 316 (3689348814741910323) ∈ lw_tbl := tk_tb 463 (by decide +kernel)
theorem c_G_318 : Cond.constantLong R_G 318 (1085102592571150095) ∈ lw_tbl := tk_tb 464 (by decide +kernel)
theorem c_M_128 : Cond.constant R_M 128 (52595999) ∈ lw_tbl := tk_tb 792 (by decide +kernel)
theorem c_M_139 : Cond.constant R_M 139 (36524) ∈ lw_tbl := tk_tb 807 (by decide +kernel)
theorem c_M_147 : Cond.constant R_M 147 (1073741823) ∈ lw_tbl := tk_tb 819 (by decide +kernel)
theorem c_M_148 : Cond.constant R_M 148 (100000) ∈ lw_tbl := tk_tb 828 (by decide +kernel)
theorem c_M_212 : Cond.constantLong R_M 212 (52595999) ∈ lw_tbl := tk_tb 908 (by decide +kernel)
theorem l_W_7 : Cond.classLink R_W 7 R_K ∈ lw_tbl := tk_tb 14 (by decide +kernel)
theorem l_K_9 : Cond.classLink R_K 9 R_Z ∈ lw_tbl := tk_tb 22 (by decide +kernel)
theorem l_K_15 : Cond.classLink R_K 15 R_J ∈ lw_tbl := tk_tb 24 (by decide +kernel)
theorem l_K_21 : Cond.classLink R_K 21 R_S ∈ lw_tbl := tk_tb 26 (by decide +kernel)
theorem l_K_31 : Cond.classLink R_K 31 R_N ∈ lw_tbl := tk_tb 28 (by decide +kernel)
theorem l_K_37 : Cond.classLink R_K 37 R_P ∈ lw_tbl := tk_tb 30 (by decide +kernel)
theorem l_P_9 : Cond.classLink R_P 9 R_L ∈ lw_tbl := tk_tb 36 (by decide +kernel)
theorem l_J_9 : Cond.classLink R_J 9 R_U ∈ lw_tbl := tk_tb 130 (by decide +kernel)
theorem l_S_9 : Cond.classLink R_S 9 R_E ∈ lw_tbl := tk_tb 220 (by decide +kernel)
theorem l_W_10 : Cond.classLink R_W 10 R_M ∈ lw_tbl := tk_tb 651 (by decide +kernel)
