/-! the other side's days; calls that may change the date's fields -/
def SC (M M' : tk_M) : Prop := M'.2 = M.2 ∧ ∀ a b, ¬ (a = 172 ∧ 39 ≤ b ∧ b ≤ 42) → M'.1 a b = M.1 a b
theorem SC.rf {M : tk_M} : SC M M := ⟨rfl, fun _ _ _ => rfl⟩
theorem SC.tr {M M1 M2 : tk_M} (h : SC M M1) (g : SC M1 M2) : SC M M2 := ⟨g.1.trans h.1, fun a b w => (g.2 a b w).trans (h.2 a b w)⟩
theorem SC.at {M M' : tk_M} (h : SC M M') {a : Nat} (b : Nat) (ha : (a == 172) = false) : M'.1 a b = M.1 a b := h.2 a b (fun w => by rw [w.1] at ha; exact absurd ha (by decide))
theorem SC.dt {M : tk_M} {n : Nat} : SC M (dt_m M n) := by
  refine ⟨rfl, fun a b h => ?_⟩
  unfold dt_m dt_w
  rw [wI_ne (by omega), wI_ne (by omega), wI_ne (by omega), wI_ne (by omega)]
def tk_QS (E : tk_E) (M : tk_M) (P : Int32 → Prop) : Array Value → State → Outcome → State → Prop := fun a st o t => ∃ (x : Int32) (M' : tk_M), P x ∧ SC M M' ∧ tk_Q E 209 (tk_ct E M') (some (.int x)) a st o t
def tk_MS (l : Launch) (y : MethodName) (b : ByteArray) (nL : Nat) (ret : Option FieldType) (d : Nat) (E : tk_E) (as : List Value) (M : tk_M) (P : Int32 → Prop) : Prop :=
  Met l y (tk_W y b nL ret) (tk_rm d 0 0) (va_Pc as (tk_U E 209 (tk_ct E M))) (tk_QS E M P) 0 0 (tk_A E)
theorem tk_ofVS {l : Launch} {y : MethodName} {b : ByteArray} {nL : Nat} {ret : Option FieldType} {d : Nat} {E : tk_E} {as : List Value} {M : tk_M} {P : Int32 → Prop} (hy : plainFor y = true) (lo : List (Option Value)) (hlo : tk_as 0 lo = lv_args 0 as) (hsz : (lg_sl as).length ≤ nL)
    (body : ∀ (p : Program) (e : Env) (s : State) (m : MethodId) (args : Array Value) (below : List Frame) (meth : Method) (c : Code), tk_X p s m args c b nL y.cls E 209 → tk_B meth ret y → tk_V p l e (tk_rm d 0 0) s m args below meth c (MQ below (tk_QS E M P) args s 0 0 (tk_A E)) E nL 209 (tk_ct E M) 0 0 0 lo []) : tk_MS l y b nL ret d E as M P := by
  refine va_MetF (cc := b) (maxL := nL) (ret := ret) hy rfl ?_
  intro p e s m args below meth c s₁ B hml hv
  obtain ⟨rfl, hz, hP, hN, hK, hZ⟩ := hv
  have hts := atoms_spec (ws := tk_W y b nL ret) B.pre
  have hown : s.vm.findClass y.cls = some m.cls := findClass_of_methodNamed B.named
  rw [lg_entry_eq]
  have hl := lv_entry as (n := nL) hsz
  refine body p e s m as.toArray below meth c ⟨B.exec, B.bytes, hml, hown, fun w hw => hts w (List.mem_cons_of_mem _ hw), hN, hK, hZ, hz⟩ ⟨B.returns, B.notSynchronized, (name_of_methodNamed B.named B.method).1⟩ s.heap [] _ hP va_S.rf ?_
  unfold tk_has
  rw [hlo]
  exact hl
section TKS
variable {p : Program} {l : Launch} {e : Env} {R : Room} {s : State} {m : MethodId} {args : Array Value} {below : List Frame} {meth : Method} {c : Code} {Q : State → Prop} {E : tk_E} {nL n n0 : Nat} {cells slots pc pc' : Nat} {lo lo' : List (Option Value)} {st : List Value} {cc : ByteArray} {own : String} {M M' : tk_M} {y : MethodName} {P : Int32 → Prop}
theorem v_iretS (cx : tk_X p s m args c cc nL own E 209) (hB : tk_B meth (some .int) y) {x : Int32} (d : tk_D cc pc .ireturn 1 pc') (hx : P x) (hM : SC M M') : tk_V p l e R s m args below meth c (MQ below (tk_QS E M P) args s 0 0 (tk_A E)) E nL 209 (tk_ct E M') 0 0 pc lo [.int x] :=
  fun H locs ls h2 h3 h4 => tk_size fun hz => W.iret cx.1 cx.2.1 hB.1 (fun t ht hW => ⟨x, M', hx, hM, tk_done cx h2 h3 hz rfl (by decide) (fun _ _ => rfl) ht⟩) h3.2.2 d.1 hB.2.1
theorem v_zretS (cx : tk_X p s m args c cc nL own E 209) (hB : tk_B meth (some .boolean) y) {x : Int32} (d : tk_D cc pc .ireturn 1 pc') (h01 : x = 0 ∨ x = 1) (hx : P x) (hM : SC M M') : tk_V p l e R s m args below meth c (MQ below (tk_QS E M P) args s 0 0 (tk_A E)) E nL 209 (tk_ct E M') 0 0 pc lo [.int x] :=
  fun H locs ls h2 h3 h4 => tk_size fun hz => W.zret cx.1 cx.2.1 hB.1 (by rcases h01 with rfl | rfl <;> decide +kernel) (fun t ht hW => ⟨x, M', hx, hM, tk_done cx h2 h3 hz rfl (by decide) (fun _ _ => rfl) ht⟩) h3.2.2 d.1 hB.2.1
variable {b : ByteArray} {mL d' np idx : Nat} {ret : Option FieldType} {as rest : List Value}
theorem tk_afterS (cx : tk_X p s m args c cc nL own E n0) {H : Heap} {locs : List Loc} {ls : Array Slot} {a : Array Value} (hr : va_Run p l e R s m args below meth c H locs cells slots 0 0 (F0 m pc ls st) rest (tk_QS E M P a) (tk_A E)) (h3 : va_S (tk_A E) s.heap H locs) (h4 : tk_has ls nL lo) (hn : n0 ≤ 209) (kk : ∀ (x : Int32) (M' : tk_M), P x → SC M M' → tk_V p l e R s m args below meth c Q E nL 209 (tk_ct E M') cells slots (pc + 3) lo (.int x :: rest)) : W p l e R s m args below meth c H locs cells slots Q (F0 m pc ls st) := by
  intro T hT X
  obtain ⟨v, st₀, t, T', L, e0, X', hL, e1, e2, ⟨x, M', hPx, hSC, hq⟩, hgo⟩ := hr T hT X
  obtain ⟨hv, hz, hP, hk⟩ := hq
  cases hv
  rw [e0] at hk
  have h6 := cx.2.2.2.2.2.2.2.2
  obtain ⟨t2, a1, b1⟩ := kk x M' hPx hSC T'.heap (locs ++ L) ls (by rw [e1]; exact hP) ⟨by rw [e1]; omega, fun q h7 h8 => by
      rw [e1, hk q (Nat.not_le.mp h8) (Nat.lt_of_lt_of_le h7 h3.1)]
      exact h3.2.1 q h7 h8, fun q hq => by
      rcases List.mem_append.mp hq with h | h
      · exact h3.2.2 q h
      · exact hL q h⟩ h4 T' rfl X'
  exact ⟨t2, hgo t2 a1, b1⟩
theorem v_callVS (cx : tk_X p s m args c cc nL own E n0) {i ci N : Nat} {kd : Nat → Nat ⊕ Nat} (d : tk_D cc pc (.invokevirtual idx) 3 pc') (hm : Cond.methodLink own idx y ∈ lw_tbl) (hn : Cond.instanceMethod y ∈ lw_tbl) (hv : Cond.selects y.cls y y ∈ lw_tbl) (hc : tk_Cs y b mL ret np) (ho : tk_O i ci N kd) (hci : ci < 10) (hcl : tk_R ci = y.cls) (hM : tk_MS l y b mL ret d' E (.ref (E.1 + i) :: as) M P) (hst : st = as.reverse ++ .ref (E.1 + i) :: rest) (hlen : as.length = np) (hcat : (rest.map fun v => v.category).sum ≤ 8) (hd : d' < R.frames ∧ 44 * R.frames ≤ R.locals ∧ cells ≤ R.cells ∧ slots ≤ R.slots ∧ n0 + cells = 209 ∧ n0 ≤ 209)
    (kk : ∀ (x : Int32) (M' : tk_M), P x → SC M M' → tk_V p l e R s m args below meth c Q E nL 209 (tk_ct E M') cells slots pc' lo (.int x :: rest)) : tk_V p l e R s m args below meth c Q E nL 209 (tk_ct E M) cells slots pc lo st := by
  obtain ⟨d1, rfl⟩ := d
  intro H locs ls h2 h3 h4
  refine tk_size fun hz => ?_
  have he : (tk_wl E.1 209 (tk_ct E M))[i]? = some (E.1 + i, .inr (ci, (List.range N).map (tk_v E.1 M i))) := tk_ct_at ho.2 (tk_ct_o ho hci)
  have hrecv := va_recv cx.2.2.2.2.2.2.1 h2 (tk_cl_at hci) he
  simp only [hcl] at hrecv
  exact tk_afterS cx (va_runV (As := as) (rest := rest) (b := E.1 + i) (C := y.cls) (g := F0 m pc ls st) ⟨cx.1, cx.2.1, cx.2.2.1, cx.2.2.2.1, cx.2.2.2.2.1⟩ hM ⟨tk_cb cx hm hc hd.1 hd.2.1, cx.2.2.2.2.1 _ (tk_g hn rfl), cx.2.2.2.2.1 _ (tk_g hv rfl)⟩ ⟨tk_blind, hrecv, fun U hU hW => ⟨rfl, tk_enter cx (tk_zz cx h2 hz hd.2.2.2.2.1 (by decide)) h2 h3 hU hW⟩⟩ rfl hlen h4.1 hst (lv_room hcat) d1 ⟨hd.2.2.1, hd.2.2.2.1⟩) h3 h4 hd.2.2.2.2.2 kk
end TKS
/-- what the memory holds of the other side's rule j -/
def m_rul (M : tk_M) (j : Nat) (r : ru) : Prop := j < 8 ∧ ru_ok r ∧ (∀ k, k < 24 → bt (M.1 179 j) k = (ru_hh r).testBit k) ∧ M.2.1 178 j = lN (ru_mn r) ∧ (∀ k, k < 32 → bt (M.1 180 j) k = (ru_dd r).testBit k) ∧ (∀ k, k < 13 → 1 ≤ k → bt (M.1 181 j) k = (ru_mo r).testBit k) ∧ (∀ k, k < 7 → bt (M.1 182 j) k = (ru_ww r).testBit k) ∧ M.1 183 j = nI (ru_nd r) ∧ M.1 184 j = nI (ru_np r)
theorem m_rul.sc {M M' : tk_M} {j : Nat} {r : ru} (h : m_rul M j r) (g : SC M M') : m_rul M' j r := by
  unfold m_rul at h ⊢
  rw [g.at _ rfl, g.at _ rfl, g.at _ rfl, g.at _ rfl, g.at _ rfl, g.at _ rfl, g.1]
  exact h
/-- and of its zone's holidays, whether it is moved -/
def m_zon (M : tk_M) (j z h : Nat) (mv : Bool) (hd : Nat → Int32) : Prop := z < 4 ∧ h ≤ 16 ∧ M.1 185 j = nI z ∧ M.1 177 z = nI h ∧ (∀ i, i < h → M.1 176 (16 * z + i) = hd i) ∧ M.1 191 j = b01 mv
theorem m_zon.sc {M M' : tk_M} {j z h : Nat} {mv : Bool} {hd : Nat → Int32} (H : m_zon M j z h mv hd) (g : SC M M') : m_zon M' j z h mv hd := by
  unfold m_zon at H ⊢
  rw [g.at _ rfl, g.at _ rfl, g.at _ rfl]
  exact ⟨H.1, H.2.1, H.2.2.1, H.2.2.2.1, fun i hi => by rw [g.at _ rfl]; exact H.2.2.2.2.1 i hi, H.2.2.2.2.2⟩
def fr_of (h : Nat) (hd : Nat → Int32) : Int → Bool := freeI (fun x => anyN (fun i => decide (hd i = iI x)) h)
theorem anyN_congr {f g : Nat → Bool} : ∀ {n : Nat}, (∀ i, i < n → f i = g i) → anyN f n = anyN g n
  | 0, _ => rfl
  | n + 1, h => by
    unfold anyN
    rw [anyN_congr (fun i hi => h i (by omega)), h n (by omega)]
theorem fit_eq {r : ru} {d : Int} (h1 : -365 ≤ d) : fitI r d = (((ru_ww r).testBit ((d + 1461) % 7).toNat && (decide (ru_np r = 0) || decide (((d + 1461) % 7).toNat = ru_nd r))) && ((ru_mo r).testBit (mth (d + 1461).toNat % 12 + 1) && (dB (ru_dd r) (mlen (mth (d + 1461).toNat)) ((d + 1461).toNat - (fday (mth (d + 1461).toNat) + 1461).toNat + 1) && nB (ru_np r) (mlen (mth (d + 1461).toNat)) ((d + 1461).toNat - (fday (mth (d + 1461).toNat) + 1461).toNat + 1)))) := by
  have hi := mth_in (d + 1461).toNat
  have hf : -1461 ≤ fday (mth (d + 1461).toNat) := by unfold fday; omega
  unfold fitI fitD
  generalize mth (d + 1461).toNat = k at hi hf ⊢
  have e1 : (d - fday k + 1).toNat = (d + 1461).toNat - (fday k + 1461).toNat + 1 := by omega
  have e2 : ((d + 1461).toNat - (fday k + 1461).toNat + 1 - 1 + ((fday k + 1461) % 7).toNat) % 7 = ((d + 1461) % 7).toNat := by omega
  have e3 : (d + 1461).toNat - (fday k + 1461).toNat + 1 ≤ mlen k := by omega
  rw [e1, e2, decide_eq_true (show 1 ≤ (d + 1461).toNat - (fday k + 1461).toNat + 1 by omega), decide_eq_true e3, Bool.true_and, Bool.true_and]
  cases (ru_ww r).testBit ((d + 1461) % 7).toNat <;> cases (decide (ru_np r = 0) || decide (((d + 1461) % 7).toNat = ru_nd r)) <;> cases (ru_mo r).testBit (k % 12 + 1) <;> cases dB (ru_dd r) (mlen k) ((d + 1461).toNat - (fday k + 1461).toNat + 1) <;> cases nB (ru_np r) (mlen k) ((d + 1461).toNat - (fday k + 1461).toNat + 1) <;> rfl
set_option maxHeartbeats 4000000 in
set_option maxRecDepth 100000 in
theorem c_M_fits {l : Launch} {E : tk_E} {M : tk_M} {j : Nat} {ρ : ru} {d : Int} (H : m_rul M j ρ) (h1 : -365 ≤ d) (h2 : d ≤ 36550) : tk_MS l y_M_fits b_M_fits 5 (some .boolean) 3 E [.ref (E.1 + 172), .int (nI j), .int (iI d)] M  (fun x => x = b01 (fitI ρ d)) := by
  refine tk_ofVS (by decide +kernel) [some (.ref (E.1 + 172)), some (.int (nI j)), some (.int (iI d)), none, none] rfl (Nat.le_of_ble_eq_true rfl) ?_
  intro p e s m args below meth c cx hB
  obtain ⟨hj, hr, -, -, hdd, hmo, hww, hnd, hnp⟩ := H
  obtain ⟨-, -, -, -, -, r6, r7⟩ := hr
  obtain ⟨w, hw⟩ : ∃ w, w = ((d + 1461) % 7).toNat := ⟨_, rfl⟩
  obtain ⟨n, hn⟩ : ∃ n, n = (d + 1461).toNat := ⟨_, rfl⟩
  have hfe := fit_eq (r := ρ) h1
  rw [← hw, ← hn] at hfe
  obtain ⟨da, hda⟩ : ∃ da, da = n - (fday (mth n) + 1461).toNat + 1 := ⟨_, rfl⟩
  rw [← hda] at hfe
  have hi := mth_in n
  have hfl : -1461 ≤ fday (mth n) := by unfold fday; omega
  have hlen := mlen_in (mth n)
  have hda1 : 1 ≤ da ∧ da ≤ mlen (mth n) := by omega
  have w7 : w < 7 := by omega
  have mm : mth n % 12 + 1 < 13 := by omega
  have eW := hww w w7
  have eMO := hmo _ mm (by omega)
  have eD := hdd da (by omega)
  have eD0 := hdd 0 (by decide)
  unfold dB at hfe
  generalize (ru_ww ρ).testBit w = W at hfe eW
  generalize (ru_mo ρ).testBit (mth n % 12 + 1) = MO at hfe eMO
  generalize (ru_dd ρ).testBit da = D at hfe eD
  generalize (ru_dd ρ).testBit 0 = D0 at hfe eD0
  generalize hL : decide (da = mlen (mth n)) = L at hfe
  refine v_iload_n cx (tk_dc d_M_fits 0 rfl) rfl ?_
  refine v_callS (rest := _) cx (tk_dc d_M_fits 1 rfl) m_M_170 ks_M_weekday k_M_weekday (c_M_weekday (by omega) (by omega)) rfl rfl (Nat.le_of_ble_eq_true rfl) (by decide) ?_
  refine v_eqi (nI w) (by rw [iI_nI, hw]; congr 1; omega) ?_
  refine v_istore_n (lo' := [_, _, _, _, _]) cx (tk_dc d_M_fits 2 rfl) (by decide) rfl ?_
  refine v_aload_n cx (tk_dc d_M_fits 3 rfl) rfl ?_
  refine v_getC cx 182 (tk_dc d_M_fits 4 rfl) f_M_38 o_M (by decide) (by rfl) ?_
  refine v_iload_n cx (tk_dc d_M_fits 5 rfl) rfl ?_
  refine w_iald cx (tk_dc d_M_fits 6 rfl) a_182 j (rfl) (by omega) (by decide) ?_
  refine v_iload_n cx (tk_dc d_M_fits 7 rfl) rfl ?_
  refine v_ishr cx (tk_dc d_M_fits 8 rfl) ?_
  refine v_iconst cx (tk_dc d_M_fits 9 rfl) (1) (by decide) ?_
  refine v_iand cx (tk_dc d_M_fits 10 rfl) ?_
  refine v_eqi (b01 W) (by rw [bt_is _ (by omega), eW]) ?_
  refine v_if_eq cx (tk_dc d_M_fits 11 rfl) 37 (by decide) (fun h15 => ?_) (fun h15 => ?_)
  · have g15 := b01_z h15
    refine v_iconst cx (tk_dc d_M_fits 23 rfl) (0) (by decide) ?_
    exact v_zretS cx hB (tk_dc d_M_fits 24 rfl) (by first | exact Or.inl rfl | exact Or.inr rfl | exact b01_01 _ | assumption) (by rw [hfe]; simp [nB, b01, g15]) (by first | exact SC.rf | exact SC.dt)
  · have g15 := b01_nz h15
    refine v_aload_n cx (tk_dc d_M_fits 12 rfl) rfl ?_
    refine v_getC cx 184 (tk_dc d_M_fits 13 rfl) f_M_44 o_M (by decide) (by rfl) ?_
    refine v_iload_n cx (tk_dc d_M_fits 14 rfl) rfl ?_
    refine w_iald cx (tk_dc d_M_fits 15 rfl) a_184 j (rfl) (by omega) (by decide) ?_
    refine v_eqi (nI (ru_np ρ)) (by exact hnp) ?_
    refine v_if_le cx (tk_dc d_M_fits 16 rfl) 39 (by decide) (fun h24 => ?_) (fun h24 => ?_)
    · have g24 : ru_np ρ = 0 := by rcases Nat.eq_zero_or_pos (ru_np ρ) with z | z; (exact z); exact absurd h24 (nI_nle z (by omega))
      refine v_aload_n cx (tk_dc d_M_fits 25 rfl) rfl ?_
      refine v_iload_n cx (tk_dc d_M_fits 26 rfl) rfl ?_
      refine v_callV (rest := _) cx (tk_dc d_M_fits 27 rfl) m_M_174 kn_M_dateOf kv_M_dateOf k_M_dateOf o_M (by decide) rfl (c_M_dateOf h1 h2) rfl rfl (Nat.le_of_ble_eq_true rfl) (by decide) ?_
      rw [← hn]
      refine v_aload_n cx (tk_dc d_M_fits 28 rfl) rfl ?_
      refine v_getC cx 181 (tk_dc d_M_fits 29 rfl) f_M_35 o_M (by decide) (by rfl) ?_
      refine v_iload_n cx (tk_dc d_M_fits 30 rfl) rfl ?_
      refine w_iald cx (tk_dc d_M_fits 31 rfl) a_181 j (rfl) (by omega) (by decide) ?_
      refine v_eqi (M.1 181 j) (SC.at (SC.dt (n := n)) _ rfl) ?_
      refine v_aload_n cx (tk_dc d_M_fits 32 rfl) rfl ?_
      refine v_getI cx (tk_dc d_M_fits 33 rfl) f_M_158 o_M (by decide) (by rfl) ?_
      refine v_eqi (nI (mth n % 12 + 1)) (by simp [dt_m, dt_w, wI]) ?_
      refine v_ishr cx (tk_dc d_M_fits 34 rfl) ?_
      refine v_iconst cx (tk_dc d_M_fits 35 rfl) (1) (by decide) ?_
      refine v_iand cx (tk_dc d_M_fits 36 rfl) ?_
      refine v_eqi (b01 MO) (by rw [bt_is _ (by omega), eMO]) ?_
      refine v_if_ne cx (tk_dc d_M_fits 37 rfl) 62 (by decide) (fun h57 => ?_) (fun h57 => ?_)
      · have g57 := b01_nz h57
        refine v_aload_n cx (tk_dc d_M_fits 40 rfl) rfl ?_
        refine v_getI cx (tk_dc d_M_fits 41 rfl) f_M_164 o_M (by decide) (by rfl) ?_
        refine v_eqi (nI da) (by simp [dt_m, dt_w, wI, hda]) ?_
        refine v_aload_n cx (tk_dc d_M_fits 42 rfl) rfl ?_
        refine v_getI cx (tk_dc d_M_fits 43 rfl) f_M_167 o_M (by decide) (by rfl) ?_
        refine v_eqi (nI (mlen (mth n))) (by simp [dt_m, dt_w, wI]) ?_
        refine v_icmp_ne cx (tk_dc d_M_fits 44 rfl) 77 (by decide) (fun h70 => ?_) (fun h70 => ?_)
        · have g70 : L = false := by rw [← hL]; exact decide_eq_false (fun z => h70 (by rw [z]))
          refine v_iconst cx (tk_dc d_M_fits 47 rfl) (0) (by decide) ?_
          refine v_istore (lo' := [_, _, _, _, _]) cx (tk_dc d_M_fits 48 rfl) (by decide) rfl ?_
          refine v_aload_n cx (tk_dc d_M_fits 49 rfl) rfl ?_
          refine v_getC cx 180 (tk_dc d_M_fits 50 rfl) f_M_32 o_M (by decide) (by rfl) ?_
          refine v_iload_n cx (tk_dc d_M_fits 51 rfl) rfl ?_
          refine w_iald cx (tk_dc d_M_fits 52 rfl) a_180 j (rfl) (by omega) (by decide) ?_
          refine v_eqi (M.1 180 j) (SC.at (SC.dt (n := n)) _ rfl) ?_
          refine v_aload_n cx (tk_dc d_M_fits 53 rfl) rfl ?_
          refine v_getI cx (tk_dc d_M_fits 54 rfl) f_M_164 o_M (by decide) (by rfl) ?_
          refine v_eqi (nI da) (by simp [dt_m, dt_w, wI, hda]) ?_
          refine v_ishr cx (tk_dc d_M_fits 55 rfl) ?_
          refine v_iconst cx (tk_dc d_M_fits 56 rfl) (1) (by decide) ?_
          refine v_iand cx (tk_dc d_M_fits 57 rfl) ?_
          refine v_eqi (b01 D) (by rw [bt_is _ (by omega), eD]) ?_
          refine v_if_ne cx (tk_dc d_M_fits 58 rfl) 115 (by decide) (fun h93 => ?_) (fun h93 => ?_)
          · have g93 := b01_nz h93
            refine v_aload_n cx (tk_dc d_M_fits 71 rfl) rfl ?_
            refine v_getC cx 184 (tk_dc d_M_fits 72 rfl) f_M_44 o_M (by decide) (by rfl) ?_
            refine v_iload_n cx (tk_dc d_M_fits 73 rfl) rfl ?_
            refine w_iald cx (tk_dc d_M_fits 74 rfl) a_184 j (rfl) (by omega) (by decide) ?_
            refine v_eqi (nI (ru_np ρ)) (by rw [SC.at (SC.dt (n := n)) _ rfl]; exact hnp) ?_
            refine v_if_eq cx (tk_dc d_M_fits 75 rfl) 171 (by decide) (fun _ => ?_) (fun h => absurd (by rw [g24]; rfl) h)
            refine v_iconst cx (tk_dc d_M_fits 101 rfl) (1) (by decide) ?_
            refine v_goto cx (tk_dc d_M_fits 102 rfl) 176 (by decide) ?_
            exact v_zretS cx hB (tk_dc d_M_fits 104 rfl) (by first | exact Or.inl rfl | exact Or.inr rfl | exact b01_01 _ | assumption) (by rw [hfe]; simp [nB, b01, g15, g24, g57, g70, g93]) (by first | exact SC.rf | exact SC.dt)
          · have g93 := b01_z h93
            refine v_iload cx (tk_dc d_M_fits 59 rfl) rfl ?_
            refine v_if_eq cx (tk_dc d_M_fits 60 rfl) 113 (by decide) (fun _ => ?_) (fun h => absurd (by decide) h)
            refine v_iconst cx (tk_dc d_M_fits 69 rfl) (0) (by decide) ?_
            exact v_zretS cx hB (tk_dc d_M_fits 70 rfl) (by first | exact Or.inl rfl | exact Or.inr rfl | exact b01_01 _ | assumption) (by rw [hfe]; simp [nB, b01, g15, g24, g57, g70, g93]) (by first | exact SC.rf | exact SC.dt)
        · have g70 : L = true := by rw [← hL]; exact decide_eq_true (nI_inj (by omega) (by omega) h70)
          refine v_iconst cx (tk_dc d_M_fits 45 rfl) (1) (by decide) ?_
          refine v_goto cx (tk_dc d_M_fits 46 rfl) 78 (by decide) ?_
          refine v_istore (lo' := [_, _, _, _, _]) cx (tk_dc d_M_fits 48 rfl) (by decide) rfl ?_
          refine v_aload_n cx (tk_dc d_M_fits 49 rfl) rfl ?_
          refine v_getC cx 180 (tk_dc d_M_fits 50 rfl) f_M_32 o_M (by decide) (by rfl) ?_
          refine v_iload_n cx (tk_dc d_M_fits 51 rfl) rfl ?_
          refine w_iald cx (tk_dc d_M_fits 52 rfl) a_180 j (rfl) (by omega) (by decide) ?_
          refine v_eqi (M.1 180 j) (SC.at (SC.dt (n := n)) _ rfl) ?_
          refine v_aload_n cx (tk_dc d_M_fits 53 rfl) rfl ?_
          refine v_getI cx (tk_dc d_M_fits 54 rfl) f_M_164 o_M (by decide) (by rfl) ?_
          refine v_eqi (nI da) (by simp [dt_m, dt_w, wI, hda]) ?_
          refine v_ishr cx (tk_dc d_M_fits 55 rfl) ?_
          refine v_iconst cx (tk_dc d_M_fits 56 rfl) (1) (by decide) ?_
          refine v_iand cx (tk_dc d_M_fits 57 rfl) ?_
          refine v_eqi (b01 D) (by rw [bt_is _ (by omega), eD]) ?_
          refine v_if_ne cx (tk_dc d_M_fits 58 rfl) 115 (by decide) (fun h93 => ?_) (fun h93 => ?_)
          · have g93 := b01_nz h93
            refine v_aload_n cx (tk_dc d_M_fits 71 rfl) rfl ?_
            refine v_getC cx 184 (tk_dc d_M_fits 72 rfl) f_M_44 o_M (by decide) (by rfl) ?_
            refine v_iload_n cx (tk_dc d_M_fits 73 rfl) rfl ?_
            refine w_iald cx (tk_dc d_M_fits 74 rfl) a_184 j (rfl) (by omega) (by decide) ?_
            refine v_eqi (nI (ru_np ρ)) (by rw [SC.at (SC.dt (n := n)) _ rfl]; exact hnp) ?_
            refine v_if_eq cx (tk_dc d_M_fits 75 rfl) 171 (by decide) (fun _ => ?_) (fun h => absurd (by rw [g24]; rfl) h)
            refine v_iconst cx (tk_dc d_M_fits 101 rfl) (1) (by decide) ?_
            refine v_goto cx (tk_dc d_M_fits 102 rfl) 176 (by decide) ?_
            exact v_zretS cx hB (tk_dc d_M_fits 104 rfl) (by first | exact Or.inl rfl | exact Or.inr rfl | exact b01_01 _ | assumption) (by rw [hfe]; simp [nB, b01, g15, g24, g57, g70, g93]) (by first | exact SC.rf | exact SC.dt)
          · have g93 := b01_z h93
            refine v_iload cx (tk_dc d_M_fits 59 rfl) rfl ?_
            refine v_if_eq cx (tk_dc d_M_fits 60 rfl) 113 (by decide) (fun h => absurd h (by decide)) (fun _ => ?_)
            refine v_aload_n cx (tk_dc d_M_fits 61 rfl) rfl ?_
            refine v_getC cx 180 (tk_dc d_M_fits 62 rfl) f_M_32 o_M (by decide) (by rfl) ?_
            refine v_iload_n cx (tk_dc d_M_fits 63 rfl) rfl ?_
            refine w_iald cx (tk_dc d_M_fits 64 rfl) a_180 j (rfl) (by omega) (by decide) ?_
            refine v_eqi (M.1 180 j) (SC.at (SC.dt (n := n)) _ rfl) ?_
            refine v_iconst cx (tk_dc d_M_fits 65 rfl) (1) (by decide) ?_
            refine v_iand cx (tk_dc d_M_fits 66 rfl) ?_
            refine v_eqi (b01 D0) (by rw [bt_0, eD0]) ?_
            refine v_iconst cx (tk_dc d_M_fits 67 rfl) (1) (by decide) ?_
            refine v_icmp_eq cx (tk_dc d_M_fits 68 rfl) 115 (by decide) (fun h110 => ?_) (fun h110 => ?_)
            · have g110 := (b01_1 _).mp h110
              refine v_aload_n cx (tk_dc d_M_fits 71 rfl) rfl ?_
              refine v_getC cx 184 (tk_dc d_M_fits 72 rfl) f_M_44 o_M (by decide) (by rfl) ?_
              refine v_iload_n cx (tk_dc d_M_fits 73 rfl) rfl ?_
              refine w_iald cx (tk_dc d_M_fits 74 rfl) a_184 j (rfl) (by omega) (by decide) ?_
              refine v_eqi (nI (ru_np ρ)) (by rw [SC.at (SC.dt (n := n)) _ rfl]; exact hnp) ?_
              refine v_if_eq cx (tk_dc d_M_fits 75 rfl) 171 (by decide) (fun _ => ?_) (fun h => absurd (by rw [g24]; rfl) h)
              refine v_iconst cx (tk_dc d_M_fits 101 rfl) (1) (by decide) ?_
              refine v_goto cx (tk_dc d_M_fits 102 rfl) 176 (by decide) ?_
              exact v_zretS cx hB (tk_dc d_M_fits 104 rfl) (by first | exact Or.inl rfl | exact Or.inr rfl | exact b01_01 _ | assumption) (by rw [hfe]; simp [nB, b01, g15, g24, g57, g70, g93, g110]) (by first | exact SC.rf | exact SC.dt)
            · have g110 : D0 = false := by cases hv : D0 with | false => rfl | true => (rw [hv] at h110; exact absurd rfl h110)
              refine v_iconst cx (tk_dc d_M_fits 69 rfl) (0) (by decide) ?_
              exact v_zretS cx hB (tk_dc d_M_fits 70 rfl) (by first | exact Or.inl rfl | exact Or.inr rfl | exact b01_01 _ | assumption) (by rw [hfe]; simp [nB, b01, g15, g24, g57, g70, g93, g110]) (by first | exact SC.rf | exact SC.dt)
      · have g57 := b01_z h57
        refine v_iconst cx (tk_dc d_M_fits 38 rfl) (0) (by decide) ?_
        exact v_zretS cx hB (tk_dc d_M_fits 39 rfl) (by first | exact Or.inl rfl | exact Or.inr rfl | exact b01_01 _ | assumption) (by rw [hfe]; simp [nB, b01, g15, g24, g57]) (by first | exact SC.rf | exact SC.dt)
    · have g24 : ¬ ru_np ρ = 0 := fun z => h24 (by rw [z]; decide)
      refine v_aload_n cx (tk_dc d_M_fits 17 rfl) rfl ?_
      refine v_getC cx 183 (tk_dc d_M_fits 18 rfl) f_M_41 o_M (by decide) (by rfl) ?_
      refine v_iload_n cx (tk_dc d_M_fits 19 rfl) rfl ?_
      refine w_iald cx (tk_dc d_M_fits 20 rfl) a_183 j (rfl) (by omega) (by decide) ?_
      refine v_eqi (nI (ru_nd ρ)) (by exact hnd) ?_
      refine v_iload_n cx (tk_dc d_M_fits 21 rfl) rfl ?_
      refine v_icmp_eq cx (tk_dc d_M_fits 22 rfl) 39 (by decide) (fun h34 => ?_) (fun h34 => ?_)
      · have g34 : w = ru_nd ρ := (nI_inj (by omega) (by omega) h34).symm
        refine v_aload_n cx (tk_dc d_M_fits 25 rfl) rfl ?_
        refine v_iload_n cx (tk_dc d_M_fits 26 rfl) rfl ?_
        refine v_callV (rest := _) cx (tk_dc d_M_fits 27 rfl) m_M_174 kn_M_dateOf kv_M_dateOf k_M_dateOf o_M (by decide) rfl (c_M_dateOf h1 h2) rfl rfl (Nat.le_of_ble_eq_true rfl) (by decide) ?_
        rw [← hn]
        refine v_aload_n cx (tk_dc d_M_fits 28 rfl) rfl ?_
        refine v_getC cx 181 (tk_dc d_M_fits 29 rfl) f_M_35 o_M (by decide) (by rfl) ?_
        refine v_iload_n cx (tk_dc d_M_fits 30 rfl) rfl ?_
        refine w_iald cx (tk_dc d_M_fits 31 rfl) a_181 j (rfl) (by omega) (by decide) ?_
        refine v_eqi (M.1 181 j) (SC.at (SC.dt (n := n)) _ rfl) ?_
        refine v_aload_n cx (tk_dc d_M_fits 32 rfl) rfl ?_
        refine v_getI cx (tk_dc d_M_fits 33 rfl) f_M_158 o_M (by decide) (by rfl) ?_
        refine v_eqi (nI (mth n % 12 + 1)) (by simp [dt_m, dt_w, wI]) ?_
        refine v_ishr cx (tk_dc d_M_fits 34 rfl) ?_
        refine v_iconst cx (tk_dc d_M_fits 35 rfl) (1) (by decide) ?_
        refine v_iand cx (tk_dc d_M_fits 36 rfl) ?_
        refine v_eqi (b01 MO) (by rw [bt_is _ (by omega), eMO]) ?_
        refine v_if_ne cx (tk_dc d_M_fits 37 rfl) 62 (by decide) (fun h57 => ?_) (fun h57 => ?_)
        · have g57 := b01_nz h57
          refine v_aload_n cx (tk_dc d_M_fits 40 rfl) rfl ?_
          refine v_getI cx (tk_dc d_M_fits 41 rfl) f_M_164 o_M (by decide) (by rfl) ?_
          refine v_eqi (nI da) (by simp [dt_m, dt_w, wI, hda]) ?_
          refine v_aload_n cx (tk_dc d_M_fits 42 rfl) rfl ?_
          refine v_getI cx (tk_dc d_M_fits 43 rfl) f_M_167 o_M (by decide) (by rfl) ?_
          refine v_eqi (nI (mlen (mth n))) (by simp [dt_m, dt_w, wI]) ?_
          refine v_icmp_ne cx (tk_dc d_M_fits 44 rfl) 77 (by decide) (fun h70 => ?_) (fun h70 => ?_)
          · have g70 : L = false := by rw [← hL]; exact decide_eq_false (fun z => h70 (by rw [z]))
            refine v_iconst cx (tk_dc d_M_fits 47 rfl) (0) (by decide) ?_
            refine v_istore (lo' := [_, _, _, _, _]) cx (tk_dc d_M_fits 48 rfl) (by decide) rfl ?_
            refine v_aload_n cx (tk_dc d_M_fits 49 rfl) rfl ?_
            refine v_getC cx 180 (tk_dc d_M_fits 50 rfl) f_M_32 o_M (by decide) (by rfl) ?_
            refine v_iload_n cx (tk_dc d_M_fits 51 rfl) rfl ?_
            refine w_iald cx (tk_dc d_M_fits 52 rfl) a_180 j (rfl) (by omega) (by decide) ?_
            refine v_eqi (M.1 180 j) (SC.at (SC.dt (n := n)) _ rfl) ?_
            refine v_aload_n cx (tk_dc d_M_fits 53 rfl) rfl ?_
            refine v_getI cx (tk_dc d_M_fits 54 rfl) f_M_164 o_M (by decide) (by rfl) ?_
            refine v_eqi (nI da) (by simp [dt_m, dt_w, wI, hda]) ?_
            refine v_ishr cx (tk_dc d_M_fits 55 rfl) ?_
            refine v_iconst cx (tk_dc d_M_fits 56 rfl) (1) (by decide) ?_
            refine v_iand cx (tk_dc d_M_fits 57 rfl) ?_
            refine v_eqi (b01 D) (by rw [bt_is _ (by omega), eD]) ?_
            refine v_if_ne cx (tk_dc d_M_fits 58 rfl) 115 (by decide) (fun h93 => ?_) (fun h93 => ?_)
            · have g93 := b01_nz h93
              refine v_aload_n cx (tk_dc d_M_fits 71 rfl) rfl ?_
              refine v_getC cx 184 (tk_dc d_M_fits 72 rfl) f_M_44 o_M (by decide) (by rfl) ?_
              refine v_iload_n cx (tk_dc d_M_fits 73 rfl) rfl ?_
              refine w_iald cx (tk_dc d_M_fits 74 rfl) a_184 j (rfl) (by omega) (by decide) ?_
              refine v_eqi (nI (ru_np ρ)) (by rw [SC.at (SC.dt (n := n)) _ rfl]; exact hnp) ?_
              refine v_if_eq cx (tk_dc d_M_fits 75 rfl) 171 (by decide) (fun h => absurd h (fun z => g24 (nI_inj (b := 0) (by omega) (by decide) z))) (fun _ => ?_)
              refine v_aload_n cx (tk_dc d_M_fits 76 rfl) rfl ?_
              refine v_getC cx 184 (tk_dc d_M_fits 77 rfl) f_M_44 o_M (by decide) (by rfl) ?_
              refine v_iload_n cx (tk_dc d_M_fits 78 rfl) rfl ?_
              refine w_iald cx (tk_dc d_M_fits 79 rfl) a_184 j (rfl) (by omega) (by decide) ?_
              refine v_eqi (nI (ru_np ρ)) (by rw [SC.at (SC.dt (n := n)) _ rfl]; exact hnp) ?_
              refine v_bipush cx (tk_dc d_M_fits 80 rfl) (6) (by decide) ?_
              refine v_icmp_ne cx (tk_dc d_M_fits 81 rfl) 152 (by decide) (fun h132 => ?_) (fun h132 => ?_)
              · have g132 : ¬ ru_np ρ = 6 := fun z => h132 (by rw [z]; rfl)
                refine v_aload_n cx (tk_dc d_M_fits 90 rfl) rfl ?_
                refine v_getI cx (tk_dc d_M_fits 91 rfl) f_M_164 o_M (by decide) (by rfl) ?_
                refine v_eqi (nI da) (by simp [dt_m, dt_w, wI, hda]) ?_
                refine v_bipush cx (tk_dc d_M_fits 92 rfl) (6) (by decide) ?_
                refine v_iadd cx (tk_dc d_M_fits 93 rfl) ?_
                refine v_bipush cx (tk_dc d_M_fits 94 rfl) (7) (by decide) ?_
                refine v_idiv cx (tk_dc d_M_fits 95 rfl) (by decide) ?_
                refine v_eqi (nI ((da + 6) / 7)) (by rw [show (6 : Int32) = nI 6 from rfl, nI_add, show (7 : Int32) = nI 7 from rfl, pk_div (by omega) (by decide) (by decide)]) ?_
                refine v_aload_n cx (tk_dc d_M_fits 96 rfl) rfl ?_
                refine v_getC cx 184 (tk_dc d_M_fits 97 rfl) f_M_44 o_M (by decide) (by rfl) ?_
                refine v_iload_n cx (tk_dc d_M_fits 98 rfl) rfl ?_
                refine w_iald cx (tk_dc d_M_fits 99 rfl) a_184 j (rfl) (by omega) (by decide) ?_
                refine v_eqi (nI (ru_np ρ)) (by rw [SC.at (SC.dt (n := n)) _ rfl]; exact hnp) ?_
                refine v_icmp_ne cx (tk_dc d_M_fits 100 rfl) 175 (by decide) (fun h168 => ?_) (fun h168 => ?_)
                · have g168 : ¬ (da + 6) / 7 = ru_np ρ := fun z => h168 (by rw [z])
                  refine v_iconst cx (tk_dc d_M_fits 103 rfl) (0) (by decide) ?_
                  exact v_zretS cx hB (tk_dc d_M_fits 104 rfl) (by first | exact Or.inl rfl | exact Or.inr rfl | exact b01_01 _ | assumption) (by rw [hfe]; simp [nB, b01, g15, g24, g34, g57, g70, g93, g132, g168]) (by first | exact SC.rf | exact SC.dt)
                · have g168 : (da + 6) / 7 = ru_np ρ := nI_inj (by omega) (by omega) h168
                  refine v_iconst cx (tk_dc d_M_fits 101 rfl) (1) (by decide) ?_
                  refine v_goto cx (tk_dc d_M_fits 102 rfl) 176 (by decide) ?_
                  exact v_zretS cx hB (tk_dc d_M_fits 104 rfl) (by first | exact Or.inl rfl | exact Or.inr rfl | exact b01_01 _ | assumption) (by rw [hfe]; simp [nB, b01, g15, g24, g34, g57, g70, g93, g132, g168]) (by first | exact SC.rf | exact SC.dt)
              · have g132 : ru_np ρ = 6 := nI_inj (by omega) (by decide) (show nI (ru_np ρ) = nI 6 from h132)
                refine v_aload_n cx (tk_dc d_M_fits 82 rfl) rfl ?_
                refine v_getI cx (tk_dc d_M_fits 83 rfl) f_M_164 o_M (by decide) (by rfl) ?_
                refine v_eqi (nI da) (by simp [dt_m, dt_w, wI, hda]) ?_
                refine v_bipush cx (tk_dc d_M_fits 84 rfl) (7) (by decide) ?_
                refine v_iadd cx (tk_dc d_M_fits 85 rfl) ?_
                refine v_eqi (nI (da + 7)) (by rw [show (7 : Int32) = nI 7 from rfl, nI_add]) ?_
                refine v_aload_n cx (tk_dc d_M_fits 86 rfl) rfl ?_
                refine v_getI cx (tk_dc d_M_fits 87 rfl) f_M_167 o_M (by decide) (by rfl) ?_
                refine v_eqi (nI (mlen (mth n))) (by simp [dt_m, dt_w, wI]) ?_
                refine v_icmp_le cx (tk_dc d_M_fits 88 rfl) 175 (by decide) (fun h146 => ?_) (fun h146 => ?_)
                · have g146 : ¬ mlen (mth n) < da + 7 := by have := (nI_leI (by omega) (by omega)).mp h146; omega
                  refine v_iconst cx (tk_dc d_M_fits 103 rfl) (0) (by decide) ?_
                  exact v_zretS cx hB (tk_dc d_M_fits 104 rfl) (by first | exact Or.inl rfl | exact Or.inr rfl | exact b01_01 _ | assumption) (by rw [hfe]; simp [nB, b01, g15, g24, g34, g57, g70, g93, g132, g146]) (by first | exact SC.rf | exact SC.dt)
                · have g146 : mlen (mth n) < da + 7 := Nat.not_le.mp (fun z => h146 (nI_le z (by omega)))
                  refine v_goto cx (tk_dc d_M_fits 89 rfl) 171 (by decide) ?_
                  refine v_iconst cx (tk_dc d_M_fits 101 rfl) (1) (by decide) ?_
                  refine v_goto cx (tk_dc d_M_fits 102 rfl) 176 (by decide) ?_
                  exact v_zretS cx hB (tk_dc d_M_fits 104 rfl) (by first | exact Or.inl rfl | exact Or.inr rfl | exact b01_01 _ | assumption) (by rw [hfe]; simp [nB, b01, g15, g24, g34, g57, g70, g93, g132, g146]) (by first | exact SC.rf | exact SC.dt)
            · have g93 := b01_z h93
              refine v_iload cx (tk_dc d_M_fits 59 rfl) rfl ?_
              refine v_if_eq cx (tk_dc d_M_fits 60 rfl) 113 (by decide) (fun _ => ?_) (fun h => absurd (by decide) h)
              refine v_iconst cx (tk_dc d_M_fits 69 rfl) (0) (by decide) ?_
              exact v_zretS cx hB (tk_dc d_M_fits 70 rfl) (by first | exact Or.inl rfl | exact Or.inr rfl | exact b01_01 _ | assumption) (by rw [hfe]; simp [nB, b01, g15, g24, g34, g57, g70, g93]) (by first | exact SC.rf | exact SC.dt)
          · have g70 : L = true := by rw [← hL]; exact decide_eq_true (nI_inj (by omega) (by omega) h70)
            refine v_iconst cx (tk_dc d_M_fits 45 rfl) (1) (by decide) ?_
            refine v_goto cx (tk_dc d_M_fits 46 rfl) 78 (by decide) ?_
            refine v_istore (lo' := [_, _, _, _, _]) cx (tk_dc d_M_fits 48 rfl) (by decide) rfl ?_
            refine v_aload_n cx (tk_dc d_M_fits 49 rfl) rfl ?_
            refine v_getC cx 180 (tk_dc d_M_fits 50 rfl) f_M_32 o_M (by decide) (by rfl) ?_
            refine v_iload_n cx (tk_dc d_M_fits 51 rfl) rfl ?_
            refine w_iald cx (tk_dc d_M_fits 52 rfl) a_180 j (rfl) (by omega) (by decide) ?_
            refine v_eqi (M.1 180 j) (SC.at (SC.dt (n := n)) _ rfl) ?_
            refine v_aload_n cx (tk_dc d_M_fits 53 rfl) rfl ?_
            refine v_getI cx (tk_dc d_M_fits 54 rfl) f_M_164 o_M (by decide) (by rfl) ?_
            refine v_eqi (nI da) (by simp [dt_m, dt_w, wI, hda]) ?_
            refine v_ishr cx (tk_dc d_M_fits 55 rfl) ?_
            refine v_iconst cx (tk_dc d_M_fits 56 rfl) (1) (by decide) ?_
            refine v_iand cx (tk_dc d_M_fits 57 rfl) ?_
            refine v_eqi (b01 D) (by rw [bt_is _ (by omega), eD]) ?_
            refine v_if_ne cx (tk_dc d_M_fits 58 rfl) 115 (by decide) (fun h93 => ?_) (fun h93 => ?_)
            · have g93 := b01_nz h93
              refine v_aload_n cx (tk_dc d_M_fits 71 rfl) rfl ?_
              refine v_getC cx 184 (tk_dc d_M_fits 72 rfl) f_M_44 o_M (by decide) (by rfl) ?_
              refine v_iload_n cx (tk_dc d_M_fits 73 rfl) rfl ?_
              refine w_iald cx (tk_dc d_M_fits 74 rfl) a_184 j (rfl) (by omega) (by decide) ?_
              refine v_eqi (nI (ru_np ρ)) (by rw [SC.at (SC.dt (n := n)) _ rfl]; exact hnp) ?_
              refine v_if_eq cx (tk_dc d_M_fits 75 rfl) 171 (by decide) (fun h => absurd h (fun z => g24 (nI_inj (b := 0) (by omega) (by decide) z))) (fun _ => ?_)
              refine v_aload_n cx (tk_dc d_M_fits 76 rfl) rfl ?_
              refine v_getC cx 184 (tk_dc d_M_fits 77 rfl) f_M_44 o_M (by decide) (by rfl) ?_
              refine v_iload_n cx (tk_dc d_M_fits 78 rfl) rfl ?_
              refine w_iald cx (tk_dc d_M_fits 79 rfl) a_184 j (rfl) (by omega) (by decide) ?_
              refine v_eqi (nI (ru_np ρ)) (by rw [SC.at (SC.dt (n := n)) _ rfl]; exact hnp) ?_
              refine v_bipush cx (tk_dc d_M_fits 80 rfl) (6) (by decide) ?_
              refine v_icmp_ne cx (tk_dc d_M_fits 81 rfl) 152 (by decide) (fun h132 => ?_) (fun h132 => ?_)
              · have g132 : ¬ ru_np ρ = 6 := fun z => h132 (by rw [z]; rfl)
                refine v_aload_n cx (tk_dc d_M_fits 90 rfl) rfl ?_
                refine v_getI cx (tk_dc d_M_fits 91 rfl) f_M_164 o_M (by decide) (by rfl) ?_
                refine v_eqi (nI da) (by simp [dt_m, dt_w, wI, hda]) ?_
                refine v_bipush cx (tk_dc d_M_fits 92 rfl) (6) (by decide) ?_
                refine v_iadd cx (tk_dc d_M_fits 93 rfl) ?_
                refine v_bipush cx (tk_dc d_M_fits 94 rfl) (7) (by decide) ?_
                refine v_idiv cx (tk_dc d_M_fits 95 rfl) (by decide) ?_
                refine v_eqi (nI ((da + 6) / 7)) (by rw [show (6 : Int32) = nI 6 from rfl, nI_add, show (7 : Int32) = nI 7 from rfl, pk_div (by omega) (by decide) (by decide)]) ?_
                refine v_aload_n cx (tk_dc d_M_fits 96 rfl) rfl ?_
                refine v_getC cx 184 (tk_dc d_M_fits 97 rfl) f_M_44 o_M (by decide) (by rfl) ?_
                refine v_iload_n cx (tk_dc d_M_fits 98 rfl) rfl ?_
                refine w_iald cx (tk_dc d_M_fits 99 rfl) a_184 j (rfl) (by omega) (by decide) ?_
                refine v_eqi (nI (ru_np ρ)) (by rw [SC.at (SC.dt (n := n)) _ rfl]; exact hnp) ?_
                refine v_icmp_ne cx (tk_dc d_M_fits 100 rfl) 175 (by decide) (fun h168 => ?_) (fun h168 => ?_)
                · have g168 : ¬ (da + 6) / 7 = ru_np ρ := fun z => h168 (by rw [z])
                  refine v_iconst cx (tk_dc d_M_fits 103 rfl) (0) (by decide) ?_
                  exact v_zretS cx hB (tk_dc d_M_fits 104 rfl) (by first | exact Or.inl rfl | exact Or.inr rfl | exact b01_01 _ | assumption) (by rw [hfe]; simp [nB, b01, g15, g24, g34, g57, g70, g93, g132, g168]) (by first | exact SC.rf | exact SC.dt)
                · have g168 : (da + 6) / 7 = ru_np ρ := nI_inj (by omega) (by omega) h168
                  refine v_iconst cx (tk_dc d_M_fits 101 rfl) (1) (by decide) ?_
                  refine v_goto cx (tk_dc d_M_fits 102 rfl) 176 (by decide) ?_
                  exact v_zretS cx hB (tk_dc d_M_fits 104 rfl) (by first | exact Or.inl rfl | exact Or.inr rfl | exact b01_01 _ | assumption) (by rw [hfe]; simp [nB, b01, g15, g24, g34, g57, g70, g93, g132, g168]) (by first | exact SC.rf | exact SC.dt)
              · have g132 : ru_np ρ = 6 := nI_inj (by omega) (by decide) (show nI (ru_np ρ) = nI 6 from h132)
                refine v_aload_n cx (tk_dc d_M_fits 82 rfl) rfl ?_
                refine v_getI cx (tk_dc d_M_fits 83 rfl) f_M_164 o_M (by decide) (by rfl) ?_
                refine v_eqi (nI da) (by simp [dt_m, dt_w, wI, hda]) ?_
                refine v_bipush cx (tk_dc d_M_fits 84 rfl) (7) (by decide) ?_
                refine v_iadd cx (tk_dc d_M_fits 85 rfl) ?_
                refine v_eqi (nI (da + 7)) (by rw [show (7 : Int32) = nI 7 from rfl, nI_add]) ?_
                refine v_aload_n cx (tk_dc d_M_fits 86 rfl) rfl ?_
                refine v_getI cx (tk_dc d_M_fits 87 rfl) f_M_167 o_M (by decide) (by rfl) ?_
                refine v_eqi (nI (mlen (mth n))) (by simp [dt_m, dt_w, wI]) ?_
                refine v_icmp_le cx (tk_dc d_M_fits 88 rfl) 175 (by decide) (fun h146 => ?_) (fun h146 => ?_)
                · have g146 : ¬ mlen (mth n) < da + 7 := by have := (nI_leI (by omega) (by omega)).mp h146; omega
                  refine v_iconst cx (tk_dc d_M_fits 103 rfl) (0) (by decide) ?_
                  exact v_zretS cx hB (tk_dc d_M_fits 104 rfl) (by first | exact Or.inl rfl | exact Or.inr rfl | exact b01_01 _ | assumption) (by rw [hfe]; simp [nB, b01, g15, g24, g34, g57, g70, g93, g132, g146]) (by first | exact SC.rf | exact SC.dt)
                · have g146 : mlen (mth n) < da + 7 := Nat.not_le.mp (fun z => h146 (nI_le z (by omega)))
                  refine v_goto cx (tk_dc d_M_fits 89 rfl) 171 (by decide) ?_
                  refine v_iconst cx (tk_dc d_M_fits 101 rfl) (1) (by decide) ?_
                  refine v_goto cx (tk_dc d_M_fits 102 rfl) 176 (by decide) ?_
                  exact v_zretS cx hB (tk_dc d_M_fits 104 rfl) (by first | exact Or.inl rfl | exact Or.inr rfl | exact b01_01 _ | assumption) (by rw [hfe]; simp [nB, b01, g15, g24, g34, g57, g70, g93, g132, g146]) (by first | exact SC.rf | exact SC.dt)
            · have g93 := b01_z h93
              refine v_iload cx (tk_dc d_M_fits 59 rfl) rfl ?_
              refine v_if_eq cx (tk_dc d_M_fits 60 rfl) 113 (by decide) (fun h => absurd h (by decide)) (fun _ => ?_)
              refine v_aload_n cx (tk_dc d_M_fits 61 rfl) rfl ?_
              refine v_getC cx 180 (tk_dc d_M_fits 62 rfl) f_M_32 o_M (by decide) (by rfl) ?_
              refine v_iload_n cx (tk_dc d_M_fits 63 rfl) rfl ?_
              refine w_iald cx (tk_dc d_M_fits 64 rfl) a_180 j (rfl) (by omega) (by decide) ?_
              refine v_eqi (M.1 180 j) (SC.at (SC.dt (n := n)) _ rfl) ?_
              refine v_iconst cx (tk_dc d_M_fits 65 rfl) (1) (by decide) ?_
              refine v_iand cx (tk_dc d_M_fits 66 rfl) ?_
              refine v_eqi (b01 D0) (by rw [bt_0, eD0]) ?_
              refine v_iconst cx (tk_dc d_M_fits 67 rfl) (1) (by decide) ?_
              refine v_icmp_eq cx (tk_dc d_M_fits 68 rfl) 115 (by decide) (fun h110 => ?_) (fun h110 => ?_)
              · have g110 := (b01_1 _).mp h110
                refine v_aload_n cx (tk_dc d_M_fits 71 rfl) rfl ?_
                refine v_getC cx 184 (tk_dc d_M_fits 72 rfl) f_M_44 o_M (by decide) (by rfl) ?_
                refine v_iload_n cx (tk_dc d_M_fits 73 rfl) rfl ?_
                refine w_iald cx (tk_dc d_M_fits 74 rfl) a_184 j (rfl) (by omega) (by decide) ?_
                refine v_eqi (nI (ru_np ρ)) (by rw [SC.at (SC.dt (n := n)) _ rfl]; exact hnp) ?_
                refine v_if_eq cx (tk_dc d_M_fits 75 rfl) 171 (by decide) (fun h => absurd h (fun z => g24 (nI_inj (b := 0) (by omega) (by decide) z))) (fun _ => ?_)
                refine v_aload_n cx (tk_dc d_M_fits 76 rfl) rfl ?_
                refine v_getC cx 184 (tk_dc d_M_fits 77 rfl) f_M_44 o_M (by decide) (by rfl) ?_
                refine v_iload_n cx (tk_dc d_M_fits 78 rfl) rfl ?_
                refine w_iald cx (tk_dc d_M_fits 79 rfl) a_184 j (rfl) (by omega) (by decide) ?_
                refine v_eqi (nI (ru_np ρ)) (by rw [SC.at (SC.dt (n := n)) _ rfl]; exact hnp) ?_
                refine v_bipush cx (tk_dc d_M_fits 80 rfl) (6) (by decide) ?_
                refine v_icmp_ne cx (tk_dc d_M_fits 81 rfl) 152 (by decide) (fun h132 => ?_) (fun h132 => ?_)
                · have g132 : ¬ ru_np ρ = 6 := fun z => h132 (by rw [z]; rfl)
                  refine v_aload_n cx (tk_dc d_M_fits 90 rfl) rfl ?_
                  refine v_getI cx (tk_dc d_M_fits 91 rfl) f_M_164 o_M (by decide) (by rfl) ?_
                  refine v_eqi (nI da) (by simp [dt_m, dt_w, wI, hda]) ?_
                  refine v_bipush cx (tk_dc d_M_fits 92 rfl) (6) (by decide) ?_
                  refine v_iadd cx (tk_dc d_M_fits 93 rfl) ?_
                  refine v_bipush cx (tk_dc d_M_fits 94 rfl) (7) (by decide) ?_
                  refine v_idiv cx (tk_dc d_M_fits 95 rfl) (by decide) ?_
                  refine v_eqi (nI ((da + 6) / 7)) (by rw [show (6 : Int32) = nI 6 from rfl, nI_add, show (7 : Int32) = nI 7 from rfl, pk_div (by omega) (by decide) (by decide)]) ?_
                  refine v_aload_n cx (tk_dc d_M_fits 96 rfl) rfl ?_
                  refine v_getC cx 184 (tk_dc d_M_fits 97 rfl) f_M_44 o_M (by decide) (by rfl) ?_
                  refine v_iload_n cx (tk_dc d_M_fits 98 rfl) rfl ?_
                  refine w_iald cx (tk_dc d_M_fits 99 rfl) a_184 j (rfl) (by omega) (by decide) ?_
                  refine v_eqi (nI (ru_np ρ)) (by rw [SC.at (SC.dt (n := n)) _ rfl]; exact hnp) ?_
                  refine v_icmp_ne cx (tk_dc d_M_fits 100 rfl) 175 (by decide) (fun h168 => ?_) (fun h168 => ?_)
                  · have g168 : ¬ (da + 6) / 7 = ru_np ρ := fun z => h168 (by rw [z])
                    refine v_iconst cx (tk_dc d_M_fits 103 rfl) (0) (by decide) ?_
                    exact v_zretS cx hB (tk_dc d_M_fits 104 rfl) (by first | exact Or.inl rfl | exact Or.inr rfl | exact b01_01 _ | assumption) (by rw [hfe]; simp [nB, b01, g15, g24, g34, g57, g70, g93, g110, g132, g168]) (by first | exact SC.rf | exact SC.dt)
                  · have g168 : (da + 6) / 7 = ru_np ρ := nI_inj (by omega) (by omega) h168
                    refine v_iconst cx (tk_dc d_M_fits 101 rfl) (1) (by decide) ?_
                    refine v_goto cx (tk_dc d_M_fits 102 rfl) 176 (by decide) ?_
                    exact v_zretS cx hB (tk_dc d_M_fits 104 rfl) (by first | exact Or.inl rfl | exact Or.inr rfl | exact b01_01 _ | assumption) (by rw [hfe]; simp [nB, b01, g15, g24, g34, g57, g70, g93, g110, g132, g168]) (by first | exact SC.rf | exact SC.dt)
                · have g132 : ru_np ρ = 6 := nI_inj (by omega) (by decide) (show nI (ru_np ρ) = nI 6 from h132)
                  refine v_aload_n cx (tk_dc d_M_fits 82 rfl) rfl ?_
                  refine v_getI cx (tk_dc d_M_fits 83 rfl) f_M_164 o_M (by decide) (by rfl) ?_
                  refine v_eqi (nI da) (by simp [dt_m, dt_w, wI, hda]) ?_
                  refine v_bipush cx (tk_dc d_M_fits 84 rfl) (7) (by decide) ?_
                  refine v_iadd cx (tk_dc d_M_fits 85 rfl) ?_
                  refine v_eqi (nI (da + 7)) (by rw [show (7 : Int32) = nI 7 from rfl, nI_add]) ?_
                  refine v_aload_n cx (tk_dc d_M_fits 86 rfl) rfl ?_
                  refine v_getI cx (tk_dc d_M_fits 87 rfl) f_M_167 o_M (by decide) (by rfl) ?_
                  refine v_eqi (nI (mlen (mth n))) (by simp [dt_m, dt_w, wI]) ?_
                  refine v_icmp_le cx (tk_dc d_M_fits 88 rfl) 175 (by decide) (fun h146 => ?_) (fun h146 => ?_)
                  · have g146 : ¬ mlen (mth n) < da + 7 := by have := (nI_leI (by omega) (by omega)).mp h146; omega
                    refine v_iconst cx (tk_dc d_M_fits 103 rfl) (0) (by decide) ?_
                    exact v_zretS cx hB (tk_dc d_M_fits 104 rfl) (by first | exact Or.inl rfl | exact Or.inr rfl | exact b01_01 _ | assumption) (by rw [hfe]; simp [nB, b01, g15, g24, g34, g57, g70, g93, g110, g132, g146]) (by first | exact SC.rf | exact SC.dt)
                  · have g146 : mlen (mth n) < da + 7 := Nat.not_le.mp (fun z => h146 (nI_le z (by omega)))
                    refine v_goto cx (tk_dc d_M_fits 89 rfl) 171 (by decide) ?_
                    refine v_iconst cx (tk_dc d_M_fits 101 rfl) (1) (by decide) ?_
                    refine v_goto cx (tk_dc d_M_fits 102 rfl) 176 (by decide) ?_
                    exact v_zretS cx hB (tk_dc d_M_fits 104 rfl) (by first | exact Or.inl rfl | exact Or.inr rfl | exact b01_01 _ | assumption) (by rw [hfe]; simp [nB, b01, g15, g24, g34, g57, g70, g93, g110, g132, g146]) (by first | exact SC.rf | exact SC.dt)
              · have g110 : D0 = false := by cases hv : D0 with | false => rfl | true => (rw [hv] at h110; exact absurd rfl h110)
                refine v_iconst cx (tk_dc d_M_fits 69 rfl) (0) (by decide) ?_
                exact v_zretS cx hB (tk_dc d_M_fits 70 rfl) (by first | exact Or.inl rfl | exact Or.inr rfl | exact b01_01 _ | assumption) (by rw [hfe]; simp [nB, b01, g15, g24, g34, g57, g70, g93, g110]) (by first | exact SC.rf | exact SC.dt)
        · have g57 := b01_z h57
          refine v_iconst cx (tk_dc d_M_fits 38 rfl) (0) (by decide) ?_
          exact v_zretS cx hB (tk_dc d_M_fits 39 rfl) (by first | exact Or.inl rfl | exact Or.inr rfl | exact b01_01 _ | assumption) (by rw [hfe]; simp [nB, b01, g15, g24, g34, g57]) (by first | exact SC.rf | exact SC.dt)
      · have g34 : ¬ w = ru_nd ρ := fun z => h34 (by rw [z])
        refine v_iconst cx (tk_dc d_M_fits 23 rfl) (0) (by decide) ?_
        exact v_zretS cx hB (tk_dc d_M_fits 24 rfl) (by first | exact Or.inl rfl | exact Or.inr rfl | exact b01_01 _ | assumption) (by rw [hfe]; simp [nB, b01, g15, g24, g34]) (by first | exact SC.rf | exact SC.dt)
