/-! answers of which only a property is told; jobs: the small ones; workdays -/
def tk_QI (E : tk_E) (n : Nat) (C : Nat → va_E) (P : Int32 → Prop) : Array Value → State → Outcome → State → Prop := fun a st o t => ∃ x : Int32, P x ∧ tk_Q E n C (some (.int x)) a st o t
/-- a method's contract over the memory: it answers an int with P -/
def tk_MI (l : Launch) (y : MethodName) (b : ByteArray) (nL : Nat) (ret : Option FieldType) (d : Nat) (E : tk_E) (as : List Value) (M M' : tk_M) (P : Int32 → Prop) : Prop :=
  Met l y (tk_W y b nL ret) (tk_rm d 0 0) (va_Pc as (tk_U E 209 (tk_ct E M))) (tk_QI E 209 (tk_ct E M') P) 0 0 (tk_A E)
theorem tk_ofVI {l : Launch} {y : MethodName} {b : ByteArray} {nL : Nat} {ret : Option FieldType} {d : Nat} {E : tk_E} {as : List Value} {M M' : tk_M} {P : Int32 → Prop} (hy : plainFor y = true) (lo : List (Option Value)) (hlo : tk_as 0 lo = lv_args 0 as) (hsz : (lg_sl as).length ≤ nL)
    (body : ∀ (p : Program) (e : Env) (s : State) (m : MethodId) (args : Array Value) (below : List Frame) (meth : Method) (c : Code), tk_X p s m args c b nL y.cls E 209 → tk_B meth ret y → tk_V p l e (tk_rm d 0 0) s m args below meth c (MQ below (tk_QI E 209 (tk_ct E M') P) args s 0 0 (tk_A E)) E nL 209 (tk_ct E M) 0 0 0 lo []) : tk_MI l y b nL ret d E as M M' P := by
  refine va_MetF (cc := b) (maxL := nL) (ret := ret) hy rfl ?_
  intro p e s m args below meth c s₁ B hml hv
  obtain ⟨rfl, hz, hP, hN, hK, hZ⟩ := hv
  have hts := atoms_spec (ws := tk_W y b nL ret) B.pre
  have hown : s.vm.findClass y.cls = some m.cls := findClass_of_methodNamed B.named
  rw [lg_entry_eq]
  have hl := lv_entry as (n := nL) hsz
  refine body p e s m as.toArray below meth c ⟨B.exec, B.bytes, hml, hown, fun w hw => hts w (List.mem_cons_of_mem _ hw), hN, hK, hZ, hz⟩ ⟨B.returns, B.notSynchronized, (name_of_methodNamed B.named B.method).1⟩ s.heap [] _ hP va_S.rf ?_
  unfold tk_has
  rw [hlo]
  exact hl
section TKQ
variable {p : Program} {l : Launch} {e : Env} {R : Room} {s : State} {m : MethodId} {args : Array Value} {below : List Frame} {meth : Method} {c : Code} {Q : State → Prop} {E : tk_E} {nL n n0 : Nat} {cells slots pc pc' : Nat} {lo lo' : List (Option Value)} {st : List Value} {cc : ByteArray} {own : String} {M M' : tk_M} {y : MethodName} {P : Int32 → Prop}
theorem v_iretI (cx : tk_X p s m args c cc nL own E 209) (hB : tk_B meth (some .int) y) {x : Int32} (d : tk_D cc pc .ireturn 1 pc') (hx : P x) (hM : M = M') : tk_V p l e R s m args below meth c (MQ below (tk_QI E 209 (tk_ct E M') P) args s 0 0 (tk_A E)) E nL 209 (tk_ct E M) 0 0 pc lo [.int x] := by
  subst hM
  exact fun H locs ls h2 h3 h4 => tk_size fun hz => W.iret cx.1 cx.2.1 hB.1 (fun t ht hW => ⟨x, hx, tk_done cx h2 h3 hz rfl (by decide) (fun _ _ => rfl) ht⟩) h3.2.2 d.1 hB.2.1
theorem v_zretI (cx : tk_X p s m args c cc nL own E 209) (hB : tk_B meth (some .boolean) y) {x : Int32} (d : tk_D cc pc .ireturn 1 pc') (h01 : x = 0 ∨ x = 1) (hx : P x) (hM : M = M') : tk_V p l e R s m args below meth c (MQ below (tk_QI E 209 (tk_ct E M') P) args s 0 0 (tk_A E)) E nL 209 (tk_ct E M) 0 0 pc lo [.int x] := by
  subst hM
  exact fun H locs ls h2 h3 h4 => tk_size fun hz => W.zret cx.1 cx.2.1 hB.1 (by rcases h01 with rfl | rfl <;> decide +kernel) (fun t ht hW => ⟨x, hx, tk_done cx h2 h3 hz rfl (by decide) (fun _ _ => rfl) ht⟩) h3.2.2 d.1 hB.2.1
variable {b : ByteArray} {mL d' np idx : Nat} {ret : Option FieldType} {as rest : List Value}
theorem tk_afterI (cx : tk_X p s m args c cc nL own E n0) {H : Heap} {locs : List Loc} {ls : Array Slot} {a : Array Value} (hr : va_Run p l e R s m args below meth c H locs cells slots 0 0 (F0 m pc ls st) rest (tk_QI E 209 (tk_ct E M') P a) (tk_A E)) (h3 : va_S (tk_A E) s.heap H locs) (h4 : tk_has ls nL lo) (hn : n0 ≤ 209) (kk : ∀ x : Int32, P x → tk_V p l e R s m args below meth c Q E nL 209 (tk_ct E M') cells slots (pc + 3) lo (.int x :: rest)) : W p l e R s m args below meth c H locs cells slots Q (F0 m pc ls st) := by
  intro T hT X
  obtain ⟨v, st₀, t, T', L, e0, X', hL, e1, e2, ⟨x, hPx, hq⟩, hgo⟩ := hr T hT X
  obtain ⟨hv, hz, hP, hk⟩ := hq
  cases hv
  rw [e0] at hk
  have h6 := cx.2.2.2.2.2.2.2.2
  obtain ⟨t2, a1, b1⟩ := kk x hPx T'.heap (locs ++ L) ls (by rw [e1]; exact hP) ⟨by rw [e1]; omega, fun q h7 h8 => by
      rw [e1, hk q (Nat.not_le.mp h8) (Nat.lt_of_lt_of_le h7 h3.1)]
      exact h3.2.1 q h7 h8, fun q hq => by
      rcases List.mem_append.mp hq with h | h
      · exact h3.2.2 q h
      · exact hL q h⟩ h4 T' rfl X'
  exact ⟨t2, hgo t2 a1, b1⟩
theorem v_callSI (cx : tk_X p s m args c cc nL own E n0) (d : tk_D cc pc (.invokestatic idx) 3 pc') (hm : Cond.methodLink own idx y ∈ lw_tbl) (hs : Cond.static y ∈ lw_tbl) (hc : tk_Cs y b mL ret np) (hM : tk_MI l y b mL ret d' E as M M' P) (hst : st = as.reverse ++ rest) (hlen : as.length = np) (hcat : (rest.map fun v => v.category).sum ≤ 8) (hd : d' < R.frames ∧ 44 * R.frames ≤ R.locals ∧ cells ≤ R.cells ∧ slots ≤ R.slots ∧ n0 + cells = 209 ∧ n0 ≤ 209)
    (kk : ∀ x : Int32, P x → tk_V p l e R s m args below meth c Q E nL 209 (tk_ct E M') cells slots pc' lo (.int x :: rest)) : tk_V p l e R s m args below meth c Q E nL 209 (tk_ct E M) cells slots pc lo st := by
  obtain ⟨d1, rfl⟩ := d
  intro H locs ls h2 h3 h4
  refine tk_size fun hz => ?_
  exact tk_afterI cx (va_runS (As := as) (rest := rest) (g := F0 m pc ls st) ⟨cx.1, cx.2.1, cx.2.2.1, cx.2.2.2.1, cx.2.2.2.2.1⟩ hM ⟨tk_cb cx hm hc hd.1 hd.2.1, cx.2.2.2.2.1 _ (tk_g hs rfl)⟩ ⟨tk_blind, fun U hU hW => ⟨rfl, tk_enter cx (tk_zz cx h2 hz hd.2.2.2.2.1 (by decide)) h2 h3 hU hW⟩⟩ rfl hlen h4.1 hst (lv_room hcat) d1 ⟨hd.2.2.1, hd.2.2.2.1⟩) h3 h4 hd.2.2.2.2.2 kk
theorem v_callVI (cx : tk_X p s m args c cc nL own E n0) {i ci N : Nat} {kd : Nat → Nat ⊕ Nat} (d : tk_D cc pc (.invokevirtual idx) 3 pc') (hm : Cond.methodLink own idx y ∈ lw_tbl) (hn : Cond.instanceMethod y ∈ lw_tbl) (hv : Cond.selects y.cls y y ∈ lw_tbl) (hc : tk_Cs y b mL ret np) (ho : tk_O i ci N kd) (hci : ci < 10) (hcl : tk_R ci = y.cls) (hM : tk_MI l y b mL ret d' E (.ref (E.1 + i) :: as) M M' P) (hst : st = as.reverse ++ .ref (E.1 + i) :: rest) (hlen : as.length = np) (hcat : (rest.map fun v => v.category).sum ≤ 8) (hd : d' < R.frames ∧ 44 * R.frames ≤ R.locals ∧ cells ≤ R.cells ∧ slots ≤ R.slots ∧ n0 + cells = 209 ∧ n0 ≤ 209)
    (kk : ∀ x : Int32, P x → tk_V p l e R s m args below meth c Q E nL 209 (tk_ct E M') cells slots pc' lo (.int x :: rest)) : tk_V p l e R s m args below meth c Q E nL 209 (tk_ct E M) cells slots pc lo st := by
  obtain ⟨d1, rfl⟩ := d
  intro H locs ls h2 h3 h4
  refine tk_size fun hz => ?_
  have he : (tk_wl E.1 209 (tk_ct E M))[i]? = some (E.1 + i, .inr (ci, (List.range N).map (tk_v E.1 M i))) := tk_ct_at ho.2 (tk_ct_o ho hci)
  have hrecv := va_recv cx.2.2.2.2.2.2.1 h2 (tk_cl_at hci) he
  simp only [hcl] at hrecv
  exact tk_afterI cx (va_runV (As := as) (rest := rest) (b := E.1 + i) (C := y.cls) (g := F0 m pc ls st) ⟨cx.1, cx.2.1, cx.2.2.1, cx.2.2.2.1, cx.2.2.2.2.1⟩ hM ⟨tk_cb cx hm hc hd.1 hd.2.1, cx.2.2.2.2.1 _ (tk_g hn rfl), cx.2.2.2.2.1 _ (tk_g hv rfl)⟩ ⟨tk_blind, hrecv, fun U hU hW => ⟨rfl, tk_enter cx (tk_zz cx h2 hz hd.2.2.2.2.1 (by decide)) h2 h3 hU hW⟩⟩ rfl hlen h4.1 hst (lv_room hcat) d1 ⟨hd.2.2.1, hd.2.2.2.1⟩) h3 h4 hd.2.2.2.2.2 kk
end TKQ
def freeI (hol : Int → Bool) (d : Int) : Bool := decide (5 ≤ (d + 1461) % 7) || hol d
/-- the first of d, d + 1 .. that isn't free, k days long -/
def wdf (fr : Int → Bool) : Nat → Int → Int
  | 0, d => d
  | k + 1, d => if fr d = true then wdf fr k (d + 1) else d
def z_fr (M : tk_M) (z h : Nat) (d : Int) : Bool := freeI (fun x => z_hol M z h (iI x)) d
def j_exc (M : tk_M) (j n : Nat) (x : Int32) : Bool := anyN (fun i => decide (M.1 (jN j + 2) i = x)) n
def j_aex (M : tk_M) (j n : Nat) (x : Int32) : tk_M := wI (wI M (jN j + 2) n x) (jN j) 4 (nI (n + 1))
def j_ew (M : tk_M) (j : Nat) (b x : Int32) : Int32 := if b + 1 < (if M.1 (jN j) 6 = 2 then x else x - M.1 (jN j) 7) then (if M.1 (jN j) 6 = 2 then x else x - M.1 (jN j) 7) else b + 1
set_option maxHeartbeats 4000000 in
set_option maxRecDepth 100000 in
theorem c_Z_workdayFrom {l : Launch} {E : tk_E} {M : tk_M} {z h : Nat} {d : Int} (hz : z < 4) (hh : h ≤ 16) (hc : M.1 (zN z) 4 = nI h) (h1 : -1461 ≤ d) (h2 : d < 900000) : tk_Mt l y_Z_workdayFrom b_Z_workdayFrom 4 (some .int) 1 E [.ref (E.1 + zN z), .int (iI d), .int (iI (d + 20))] M M (some (.int (iI (wdf (z_fr M z h) 21 d)))) := by
  refine tk_ofV (by decide +kernel) [some (.ref (E.1 + zN z)), some (.int (iI d)), some (.int (iI (d + 20))), none] rfl (Nat.le_of_ble_eq_true rfl) ?_
  intro p e s m args below meth c cx hB
  have loop : ∀ (k : Nat) (x : Int), x + k = d + 21 → d ≤ x → wdf (z_fr M z h) k x = wdf (z_fr M z h) 21 d → tk_V p l e (tk_rm 1 0 0) s m args below meth c (MQ below (tk_Q E 209 (tk_ct E M) (some (.int (iI (wdf (z_fr M z h) 21 d))))) args s 0 0 (tk_A E)) E 4 209 (tk_ct E M) 0 0 2 [some (.ref (E.1 + zN z)), some (.int (iI d)), some (.int (iI (d + 20))), some (.int (iI x))] [] := by
    intro k
    induction k with
    | zero =>
      intro x hx hd hf
      refine v_iload_n cx (tk_dc d_Z_workdayFrom 2 rfl) rfl ?_
      refine v_iload_n cx (tk_dc d_Z_workdayFrom 3 rfl) rfl ?_
      refine v_icmp_gt cx (tk_dc d_Z_workdayFrom 4 rfl) 31 (by decide) (fun _ => ?_) (fun h => absurd ((iI_lt (by omega) (by omega) (by omega) (by omega)).mpr (by omega)) h)
      refine v_iload_n cx (tk_dc d_Z_workdayFrom 17 rfl) rfl ?_
      refine v_iconst cx (tk_dc d_Z_workdayFrom 18 rfl) (1) (by decide) ?_
      refine v_iadd cx (tk_dc d_Z_workdayFrom 19 rfl) ?_
      exact v_iret cx hB (tk_dc d_Z_workdayFrom 20 rfl) (by rw [← hf, show (1 : Int32) = iI 1 from rfl, iI_add]; congr 1; unfold wdf; omega) (rfl)
    | succ k ih =>
      intro x hx hd hf
      refine v_iload_n cx (tk_dc d_Z_workdayFrom 2 rfl) rfl ?_
      refine v_iload_n cx (tk_dc d_Z_workdayFrom 3 rfl) rfl ?_
      refine v_icmp_gt cx (tk_dc d_Z_workdayFrom 4 rfl) 31 (by decide) (fun h => absurd h (fun z => absurd ((iI_lt (by omega) (by omega) (by omega) (by omega)).mp z) (by omega))) (fun _ => ?_)
      refine v_iload_n cx (tk_dc d_Z_workdayFrom 5 rfl) rfl ?_
      refine v_callS (rest := _) cx (tk_dc d_Z_workdayFrom 6 rfl) m_Z_32 ks_O_weekdayOf k_O_weekdayOf (c_O_weekdayOf (by omega) (by omega)) rfl rfl (Nat.le_of_ble_eq_true rfl) (by decide) ?_
      refine v_iconst cx (tk_dc d_Z_workdayFrom 7 rfl) (5) (by decide) ?_
      refine v_icmp_ge cx (tk_dc d_Z_workdayFrom 8 rfl) 25 (by decide) (fun h12 => ?_) (fun h12 => ?_)
      · have hfr : z_fr M z h x = true := by unfold z_fr freeI; rw [decide_eq_true ((iI_le (a := 5) (by omega) (by omega) (by omega) (by omega)).mp h12)]; rfl
        refine v_iinc (lo' := [_, _, _, _]) cx (tk_dc d_Z_workdayFrom 15 rfl) rfl (iI (x + 1)) (iI_add x 1) (by decide) rfl ?_
        refine v_goto cx (tk_dc d_Z_workdayFrom 16 rfl) 2 (by decide) ?_
        exact ih (x + 1) (by omega) (by omega) (by rw [← hf, wdf, if_pos (hfr)])
      · have hw : ¬ 5 ≤ (x + 1461) % 7 := fun z => h12 ((iI_le (a := 5) (by omega) (by omega) (by omega) (by omega)).mpr z)
        refine v_aload_n cx (tk_dc d_Z_workdayFrom 9 rfl) rfl ?_
        refine v_iload_n cx (tk_dc d_Z_workdayFrom 10 rfl) rfl ?_
        refine v_callV (rest := _) cx (tk_dc d_Z_workdayFrom 11 rfl) m_Z_28 kn_Z_isHoliday kv_Z_isHoliday k_Z_isHoliday (o_Z (by assumption)) (by decide) rfl (c_Z_isHoliday hz hh hc) rfl rfl (Nat.le_of_ble_eq_true rfl) (by decide) ?_
        refine v_if_ne cx (tk_dc d_Z_workdayFrom 12 rfl) 25 (by decide) (fun h20 => ?_) (fun h20 => ?_)
        · have hfr : z_fr M z h x = true := by unfold z_fr freeI; cases hv : z_hol M z h (iI x) with | true => simp [hv] | false => (rw [hv] at h20; exact absurd rfl h20)
          refine v_iinc (lo' := [_, _, _, _]) cx (tk_dc d_Z_workdayFrom 15 rfl) rfl (iI (x + 1)) (iI_add x 1) (by decide) rfl ?_
          refine v_goto cx (tk_dc d_Z_workdayFrom 16 rfl) 2 (by decide) ?_
          exact ih (x + 1) (by omega) (by omega) (by rw [← hf, wdf, if_pos (hfr)])
        · have hfr : ¬ z_fr M z h x = true := by unfold z_fr freeI; cases hv : z_hol M z h (iI x) with | false => simp [hw, hv] | true => (rw [hv] at h20; exact absurd h20 (by decide))
          refine v_iload_n cx (tk_dc d_Z_workdayFrom 13 rfl) rfl ?_
          exact v_iret cx hB (tk_dc d_Z_workdayFrom 14 rfl) (by rw [← hf, wdf, if_neg hfr]) (rfl)
  refine v_iload_n cx (tk_dc d_Z_workdayFrom 0 rfl) rfl ?_
  refine v_istore_n (lo' := [_, _, _, _]) cx (tk_dc d_Z_workdayFrom 1 rfl) (by decide) rfl ?_
  exact loop 21 d (by omega) (by omega) rfl

set_option maxHeartbeats 4000000 in
set_option maxRecDepth 100000 in
theorem c_J_isException {l : Launch} {E : tk_E} {M : tk_M} {j : Nat} {n : Nat} {x : Int32} (hj : j < 8) (hh : n ≤ 8) (hc : M.1 (jN j) 4 = nI n) : tk_Mt l y_J_isException b_J_isException 3 (some .boolean) 0 E [.ref (E.1 + jN j), .int x] M M (some (.int (b01 (j_exc M j n x)))) := by
  refine tk_ofV (by decide +kernel) [some (.ref (E.1 + jN j)), some (.int x), none] rfl (Nat.le_of_ble_eq_true rfl) ?_
  intro p e s m args below meth c cx hB
  have loop : ∀ (d k : Nat), k + d = n → j_exc M j k x = false → tk_V p l e (tk_rm 0 0 0) s m args below meth c (MQ below (tk_Q E 209 (tk_ct E M) (some (.int (b01 (j_exc M j n x))))) args s 0 0 (tk_A E)) E 3 209 (tk_ct E M) 0 0 2 [some (.ref (E.1 + jN j)), some (.int x), some (.int (nI k))] [] := by
    intro d
    induction d with
    | zero =>
      intro k hk hf
      obtain rfl : k = n := by omega
      refine v_iload_n cx (tk_dc d_J_isException 2 rfl) rfl ?_
      refine v_aload_n cx (tk_dc d_J_isException 3 rfl) rfl ?_
      refine v_getI cx (tk_dc d_J_isException 4 rfl) f_J_26 (o_J (by assumption)) (by decide) (by rfl) ?_
      refine v_icmp_ge cx (tk_dc d_J_isException 5 rfl) 28 (by decide) (fun _ => ?_) (fun h => absurd (by rw [hc]; exact Int32.le_refl _) h)
      refine v_iconst cx (tk_dc d_J_isException 16 rfl) (0) (by decide) ?_
      exact v_zret cx hB (tk_dc d_J_isException 17 rfl) (by first | exact Or.inl rfl | exact Or.inr rfl | exact b01_01 _ | assumption) (by rw [hf]; rfl) (rfl)
    | succ d ih =>
      intro k hk hf
      refine v_iload_n cx (tk_dc d_J_isException 2 rfl) rfl ?_
      refine v_aload_n cx (tk_dc d_J_isException 3 rfl) rfl ?_
      refine v_getI cx (tk_dc d_J_isException 4 rfl) f_J_26 (o_J (by assumption)) (by decide) (by rfl) ?_
      refine v_icmp_ge cx (tk_dc d_J_isException 5 rfl) 28 (by decide) (fun h => absurd h (by rw [hc]; exact nI_ge (by omega) (by omega))) (fun _ => ?_)
      refine v_aload_n cx (tk_dc d_J_isException 6 rfl) rfl ?_
      refine v_getC cx (jN _ + 2) (tk_dc d_J_isException 7 rfl) f_J_18 (o_J (by assumption)) (by decide) (by rfl) ?_
      refine v_iload_n cx (tk_dc d_J_isException 8 rfl) rfl ?_
      refine w_iald cx (tk_dc d_J_isException 9 rfl) (o_J2 hj) k (rfl) (by omega) (by decide) ?_
      refine v_iload_n cx (tk_dc d_J_isException 10 rfl) rfl ?_
      refine v_icmp_ne cx (tk_dc d_J_isException 11 rfl) 22 (by decide) (fun h17 => ?_) (fun h17 => ?_)
      · refine v_iinc (lo' := [_, _, _]) cx (tk_dc d_J_isException 14 rfl) rfl (nI (k + 1)) ((nI_succ k).symm) (by decide) rfl ?_
        refine v_goto cx (tk_dc d_J_isException 15 rfl) 2 (by decide) ?_
        exact ih (k + 1) (by omega) (by rw [show j_exc M j (k + 1) x = (j_exc M j k x || decide (M.1 (jN j + 2) k = x)) from rfl, hf]; simpa using h17)
      · refine v_iconst cx (tk_dc d_J_isException 12 rfl) (1) (by decide) ?_
        exact v_zret cx hB (tk_dc d_J_isException 13 rfl) (by first | exact Or.inl rfl | exact Or.inr rfl | exact b01_01 _ | assumption) (by rw [show j_exc M j n x = true from anyN_t (k := k) (by omega) (by simpa using h17)]; rfl) (rfl)
  refine v_iconst cx (tk_dc d_J_isException 0 rfl) (0) (by decide) ?_
  refine v_istore_n (lo' := [_, _, _]) cx (tk_dc d_J_isException 1 rfl) (by decide) rfl ?_
  exact loop n 0 (by omega) rfl

set_option maxHeartbeats 4000000 in
set_option maxRecDepth 100000 in
theorem c_J_addException {l : Launch} {E : tk_E} {M : tk_M} {j : Nat} {n : Nat} {x : Int32} (hj : j < 8) (hh : n ≤ 8) (hc : M.1 (jN j) 4 = nI n) : tk_Mt l y_J_addException b_J_addException 2 (some .boolean) 1 E [.ref (E.1 + jN j), .int x] M (if n = 8 ∨ j_exc M j n x = true then M else j_aex M j n x) (some (.int (if n = 8 ∨ j_exc M j n x = true then 0 else 1))) := by
  refine tk_ofV (by decide +kernel) [some (.ref (E.1 + jN j)), some (.int x)] rfl (Nat.le_of_ble_eq_true rfl) ?_
  intro p e s m args below meth c cx hB
  refine v_aload_n cx (tk_dc d_J_addException 0 rfl) rfl ?_
  refine v_getI cx (tk_dc d_J_addException 1 rfl) f_J_26 (o_J (by assumption)) (by decide) (by rfl) ?_
  refine v_bipush cx (tk_dc d_J_addException 2 rfl) (8) (by decide) ?_
  refine v_icmp_ge cx (tk_dc d_J_addException 3 rfl) 17 (by decide) (fun h6 => ?_) (fun h6 => ?_)
  · have k16 : n = 8 := by rcases Nat.lt_or_ge n 8 with z | z; (exact absurd (show nI 8 ≤ nI n from hc ▸ h6) (nI_ge z (by decide))); omega
    have kh : True := trivial
    refine v_iconst cx (tk_dc d_J_addException 8 rfl) (0) (by decide) ?_
    exact v_zret cx hB (tk_dc d_J_addException 9 rfl) (by first | exact Or.inl rfl | exact Or.inr rfl | exact b01_01 _ | assumption) (by simp [k16, kh]) (by simp [k16, kh, j_aex, nI_succ, hc, wI_ne])
  · have k16 : ¬ n = 8 := fun z => h6 (by rw [hc, z]; decide)
    refine v_aload_n cx (tk_dc d_J_addException 4 rfl) rfl ?_
    refine v_iload_n cx (tk_dc d_J_addException 5 rfl) rfl ?_
    refine v_callV (rest := _) cx (tk_dc d_J_addException 6 rfl) m_J_48 kn_J_isException kv_J_isException k_J_isException (o_J (by assumption)) (by decide) rfl (c_J_isException hj hh hc) rfl rfl (Nat.le_of_ble_eq_true rfl) (by decide) ?_
    refine v_if_eq cx (tk_dc d_J_addException 7 rfl) 19 (by decide) (fun h14 => ?_) (fun h14 => ?_)
    · have kh : j_exc M j n x = false := by cases hv : j_exc M j n x with | true => (rw [hv] at h14; exact absurd h14 (by decide)) | false => rfl
      refine v_aload_n cx (tk_dc d_J_addException 10 rfl) rfl ?_
      refine v_getC cx (jN _ + 2) (tk_dc d_J_addException 11 rfl) f_J_18 (o_J (by assumption)) (by decide) (by rfl) ?_
      refine v_aload_n cx (tk_dc d_J_addException 12 rfl) rfl ?_
      refine v_getI cx (tk_dc d_J_addException 13 rfl) f_J_26 (o_J (by assumption)) (by decide) (by rfl) ?_
      refine v_iload_n cx (tk_dc d_J_addException 14 rfl) rfl ?_
      refine w_iast cx (tk_dc d_J_addException 15 rfl) (o_J2 hj) n (hc) (by omega) (by decide) ?_
      refine v_aload_n cx (tk_dc d_J_addException 16 rfl) rfl ?_
      refine v_dup cx (tk_dc d_J_addException 17 rfl) rfl ?_
      refine v_getI cx (tk_dc d_J_addException 18 rfl) f_J_26 (o_J (by assumption)) (by decide) (by rfl) ?_
      refine v_iconst cx (tk_dc d_J_addException 19 rfl) (1) (by decide) ?_
      refine v_iadd cx (tk_dc d_J_addException 20 rfl) ?_
      refine v_putI cx (tk_dc d_J_addException 21 rfl) f_J_26 (o_J (by assumption)) (by decide) (by rfl) ⟨rfl, rfl⟩ ?_
      refine v_iconst cx (tk_dc d_J_addException 22 rfl) (1) (by decide) ?_
      exact v_zret cx hB (tk_dc d_J_addException 23 rfl) (by first | exact Or.inl rfl | exact Or.inr rfl | exact b01_01 _ | assumption) (by simp [k16, kh]) (by simp [k16, kh, j_aex, nI_succ, hc, wI_ne])
    · have kh : j_exc M j n x = true := by cases hv : j_exc M j n x with | false => (rw [hv] at h14; exact absurd rfl h14) | true => rfl
      refine v_iconst cx (tk_dc d_J_addException 8 rfl) (0) (by decide) ?_
      exact v_zret cx hB (tk_dc d_J_addException 9 rfl) (by first | exact Or.inl rfl | exact Or.inr rfl | exact b01_01 _ | assumption) (by simp [k16, kh]) (by simp [k16, kh, j_aex, nI_succ, hc, wI_ne])

set_option maxHeartbeats 4000000 in
set_option maxRecDepth 100000 in
theorem c_J_changeMode {l : Launch} {E : tk_E} {M : tk_M} {j : Nat} {x : Int32} (hj : j < 8) : tk_Mt l y_J_changeMode b_J_changeMode 2 (some .boolean) 0 E [.ref (E.1 + jN j), .int x] M (if x < 0 ∨ 2 < x then M else wI M (jN j) 6 x) (some (.int (if x < 0 ∨ 2 < x then 0 else 1))) := by
  refine tk_ofV (by decide +kernel) [some (.ref (E.1 + jN j)), some (.int x)] rfl (Nat.le_of_ble_eq_true rfl) ?_
  intro p e s m args below meth c cx hB
  refine v_iload_n cx (tk_dc d_J_changeMode 0 rfl) rfl ?_
  refine v_if_lt cx (tk_dc d_J_changeMode 1 rfl) 9 (by decide) (fun h1 => ?_) (fun h1 => ?_)
  · refine v_iconst cx (tk_dc d_J_changeMode 5 rfl) (0) (by decide) ?_
    exact v_zret cx hB (tk_dc d_J_changeMode 6 rfl) (by first | exact Or.inl rfl | exact Or.inr rfl | exact b01_01 _ | assumption) (by simp [h1, Int32.not_le.mpr h1]) (by simp [h1, Int32.not_le.mpr h1])
  · refine v_iload_n cx (tk_dc d_J_changeMode 2 rfl) rfl ?_
    refine v_iconst cx (tk_dc d_J_changeMode 3 rfl) (2) (by decide) ?_
    refine v_icmp_le cx (tk_dc d_J_changeMode 4 rfl) 11 (by decide) (fun h6 => ?_) (fun h6 => ?_)
    · refine v_aload_n cx (tk_dc d_J_changeMode 7 rfl) rfl ?_
      refine v_iload_n cx (tk_dc d_J_changeMode 8 rfl) rfl ?_
      refine v_putI cx (tk_dc d_J_changeMode 9 rfl) f_J_34 (o_J (by assumption)) (by decide) (by rfl) ⟨rfl, rfl⟩ ?_
      refine v_iconst cx (tk_dc d_J_changeMode 10 rfl) (1) (by decide) ?_
      exact v_zret cx hB (tk_dc d_J_changeMode 11 rfl) (by first | exact Or.inl rfl | exact Or.inr rfl | exact b01_01 _ | assumption) (by simp [h1, Int32.not_lt.mp h1, h6, Int32.not_lt.mpr h6]) (by simp [h1, Int32.not_lt.mp h1, h6, Int32.not_lt.mpr h6])
    · refine v_iconst cx (tk_dc d_J_changeMode 5 rfl) (0) (by decide) ?_
      exact v_zret cx hB (tk_dc d_J_changeMode 6 rfl) (by first | exact Or.inl rfl | exact Or.inr rfl | exact b01_01 _ | assumption) (by simp [h1, Int32.not_lt.mp h1, h6, Int32.not_le.mp h6]) (by simp [h1, Int32.not_lt.mp h1, h6, Int32.not_le.mp h6])

set_option maxHeartbeats 4000000 in
set_option maxRecDepth 100000 in
theorem c_J_changeLateness {l : Launch} {E : tk_E} {M : tk_M} {j : Nat} {x : Int32} (hj : j < 8) : tk_Mt l y_J_changeLateness b_J_changeLateness 2 (some .boolean) 0 E [.ref (E.1 + jN j), .int x] M (if x < 0 ∨ 100000 < x then M else wI M (jN j) 7 x) (some (.int (if x < 0 ∨ 100000 < x then 0 else 1))) := by
  refine tk_ofV (by decide +kernel) [some (.ref (E.1 + jN j)), some (.int x)] rfl (Nat.le_of_ble_eq_true rfl) ?_
  intro p e s m args below meth c cx hB
  refine v_iload_n cx (tk_dc d_J_changeLateness 0 rfl) rfl ?_
  refine v_if_lt cx (tk_dc d_J_changeLateness 1 rfl) 10 (by decide) (fun h1 => ?_) (fun h1 => ?_)
  · refine v_iconst cx (tk_dc d_J_changeLateness 5 rfl) (0) (by decide) ?_
    exact v_zret cx hB (tk_dc d_J_changeLateness 6 rfl) (by first | exact Or.inl rfl | exact Or.inr rfl | exact b01_01 _ | assumption) (by simp [h1, Int32.not_le.mpr h1]) (by simp [h1, Int32.not_le.mpr h1])
  · refine v_iload_n cx (tk_dc d_J_changeLateness 2 rfl) rfl ?_
    refine v_ldc cx (tk_dc d_J_changeLateness 3 rfl) c_J_47 ?_
    refine v_icmp_le cx (tk_dc d_J_changeLateness 4 rfl) 12 (by decide) (fun h7 => ?_) (fun h7 => ?_)
    · refine v_aload_n cx (tk_dc d_J_changeLateness 7 rfl) rfl ?_
      refine v_iload_n cx (tk_dc d_J_changeLateness 8 rfl) rfl ?_
      refine v_putI cx (tk_dc d_J_changeLateness 9 rfl) f_J_37 (o_J (by assumption)) (by decide) (by rfl) ⟨rfl, rfl⟩ ?_
      refine v_iconst cx (tk_dc d_J_changeLateness 10 rfl) (1) (by decide) ?_
      exact v_zret cx hB (tk_dc d_J_changeLateness 11 rfl) (by first | exact Or.inl rfl | exact Or.inr rfl | exact b01_01 _ | assumption) (by simp [h1, Int32.not_lt.mp h1, h7, Int32.not_lt.mpr h7]) (by simp [h1, Int32.not_lt.mp h1, h7, Int32.not_lt.mpr h7])
    · refine v_iconst cx (tk_dc d_J_changeLateness 5 rfl) (0) (by decide) ?_
      exact v_zret cx hB (tk_dc d_J_changeLateness 6 rfl) (by first | exact Or.inl rfl | exact Or.inr rfl | exact b01_01 _ | assumption) (by simp [h1, Int32.not_lt.mp h1, h7, Int32.not_le.mp h7]) (by simp [h1, Int32.not_lt.mp h1, h7, Int32.not_le.mp h7])

set_option maxHeartbeats 4000000 in
set_option maxRecDepth 100000 in
theorem c_J_earliestWanted {l : Launch} {E : tk_E} {M : tk_M} {j : Nat} {b x : Int32} (hj : j < 8) : tk_Mt l y_J_earliestWanted b_J_earliestWanted 3 (some .int) 1 E [.ref (E.1 + jN j), .int b, .int x] M M (some (.int (j_ew M j b x))) := by
  refine tk_ofV (by decide +kernel) [some (.ref (E.1 + jN j)), some (.int b), some (.int x)] rfl (Nat.le_of_ble_eq_true rfl) ?_
  intro p e s m args below meth c cx hB
  refine v_iload_n cx (tk_dc d_J_earliestWanted 0 rfl) rfl ?_
  refine v_iconst cx (tk_dc d_J_earliestWanted 1 rfl) (1) (by decide) ?_
  refine v_iadd cx (tk_dc d_J_earliestWanted 2 rfl) ?_
  refine v_aload_n cx (tk_dc d_J_earliestWanted 3 rfl) rfl ?_
  refine v_getI cx (tk_dc d_J_earliestWanted 4 rfl) f_J_34 (o_J (by assumption)) (by decide) (by rfl) ?_
  refine v_iconst cx (tk_dc d_J_earliestWanted 5 rfl) (2) (by decide) ?_
  refine v_icmp_ne cx (tk_dc d_J_earliestWanted 6 rfl) 15 (by decide) (fun h8 => ?_) (fun h8 => ?_)
  · refine v_iload_n cx (tk_dc d_J_earliestWanted 9 rfl) rfl ?_
    refine v_aload_n cx (tk_dc d_J_earliestWanted 10 rfl) rfl ?_
    refine v_getI cx (tk_dc d_J_earliestWanted 11 rfl) f_J_37 (o_J (by assumption)) (by decide) (by rfl) ?_
    refine v_isub cx (tk_dc d_J_earliestWanted 12 rfl) ?_
    refine v_callS (rest := _) cx (tk_dc d_J_earliestWanted 13 rfl) m_J_95 ks_Q_max k_Q_max (c_Q_max) rfl rfl (Nat.le_of_ble_eq_true rfl) (by decide) ?_
    exact v_iret cx hB (tk_dc d_J_earliestWanted 14 rfl) (by simp [j_ew, h8]) (rfl)
  · refine v_iload_n cx (tk_dc d_J_earliestWanted 7 rfl) rfl ?_
    refine v_goto cx (tk_dc d_J_earliestWanted 8 rfl) 21 (by decide) ?_
    refine v_callS (rest := _) cx (tk_dc d_J_earliestWanted 13 rfl) m_J_95 ks_Q_max k_Q_max (c_Q_max) rfl rfl (Nat.le_of_ble_eq_true rfl) (by decide) ?_
    exact v_iret cx hB (tk_dc d_J_earliestWanted 14 rfl) (by simp [j_ew, h8]) (rfl)
