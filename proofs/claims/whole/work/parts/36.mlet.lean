/-! the other side: letters; calls that answer with a property of the memory -/
def tk_QR (E : tk_E) (P : Option Value → tk_M → Prop) : Array Value → State → Outcome → State → Prop := fun a st o t => ∃ (r : Option Value) (M' : tk_M), P r M' ∧ tk_Q E 209 (tk_ct E M') r a st o t
def tk_MR (l : Launch) (y : MethodName) (b : ByteArray) (nL : Nat) (ret : Option FieldType) (d : Nat) (E : tk_E) (as : List Value) (M : tk_M) (P : Option Value → tk_M → Prop) : Prop :=
  Met l y (tk_W y b nL ret) (tk_rm d 0 0) (va_Pc as (tk_U E 209 (tk_ct E M))) (tk_QR E P) 0 0 (tk_A E)
theorem tk_ofVR {l : Launch} {y : MethodName} {b : ByteArray} {nL : Nat} {ret : Option FieldType} {d : Nat} {E : tk_E} {as : List Value} {M : tk_M} {P : Option Value → tk_M → Prop} (hy : plainFor y = true) (lo : List (Option Value)) (hlo : tk_as 0 lo = lv_args 0 as) (hsz : (lg_sl as).length ≤ nL)
    (body : ∀ (p : Program) (e : Env) (s : State) (m : MethodId) (args : Array Value) (below : List Frame) (meth : Method) (c : Code), tk_X p s m args c b nL y.cls E 209 → tk_B meth ret y → tk_V p l e (tk_rm d 0 0) s m args below meth c (MQ below (tk_QR E P) args s 0 0 (tk_A E)) E nL 209 (tk_ct E M) 0 0 0 lo []) : tk_MR l y b nL ret d E as M P := by
  refine va_MetF (cc := b) (maxL := nL) (ret := ret) hy rfl ?_
  intro p e s m args below meth c s₁ B hml hv
  obtain ⟨rfl, hz, hP, hN, hK, hZ⟩ := hv
  have hts := atoms_spec (ws := tk_W y b nL ret) B.pre
  have hown : s.vm.findClass y.cls = some m.cls := findClass_of_methodNamed B.named
  rw [lg_entry_eq]
  have hl := lv_entry as (n := nL) hsz
  refine body p e s m as.toArray below meth c ⟨B.exec, B.bytes, hml, hown, fun w hw => hts w (List.mem_cons_of_mem _ hw), hN, hK, hZ, hz⟩ ⟨B.returns, B.notSynchronized, (name_of_methodNamed B.named B.method).1⟩ s.heap [] _ hP va_S.rf ?_
  unfold tk_has
  rw [hlo]
  exact hl
section TKR
variable {p : Program} {l : Launch} {e : Env} {R : Room} {s : State} {m : MethodId} {args : Array Value} {below : List Frame} {meth : Method} {c : Code} {Q : State → Prop} {E : tk_E} {nL n n0 : Nat} {cells slots pc pc' : Nat} {lo lo' : List (Option Value)} {st : List Value} {cc : ByteArray} {own : String} {M M' : tk_M} {y : MethodName} {P : Option Value → tk_M → Prop}
theorem v_iretR (cx : tk_X p s m args c cc nL own E 209) (hB : tk_B meth (some .int) y) {x : Int32} (d : tk_D cc pc .ireturn 1 pc') (hP : P (some (.int x)) M) : tk_V p l e R s m args below meth c (MQ below (tk_QR E P) args s 0 0 (tk_A E)) E nL 209 (tk_ct E M) 0 0 pc lo [.int x] :=
  fun H locs ls h2 h3 h4 => tk_size fun hz => W.iret cx.1 cx.2.1 hB.1 (fun t ht hW => ⟨some (.int x), M, hP, tk_done cx h2 h3 hz rfl (by decide) (fun _ _ => rfl) ht⟩) h3.2.2 d.1 hB.2.1
theorem v_zretR (cx : tk_X p s m args c cc nL own E 209) (hB : tk_B meth (some .boolean) y) {x : Int32} (d : tk_D cc pc .ireturn 1 pc') (h01 : x = 0 ∨ x = 1) (hP : P (some (.int x)) M) : tk_V p l e R s m args below meth c (MQ below (tk_QR E P) args s 0 0 (tk_A E)) E nL 209 (tk_ct E M) 0 0 pc lo [.int x] :=
  fun H locs ls h2 h3 h4 => tk_size fun hz => W.zret cx.1 cx.2.1 hB.1 (by rcases h01 with rfl | rfl <;> decide +kernel) (fun t ht hW => ⟨some (.int x), M, hP, tk_done cx h2 h3 hz rfl (by decide) (fun _ _ => rfl) ht⟩) h3.2.2 d.1 hB.2.1
theorem v_vretR (cx : tk_X p s m args c cc nL own E 209) (hB : tk_B meth none y) (d : tk_D cc pc .return_ 1 pc') (hP : P none M) : tk_V p l e R s m args below meth c (MQ below (tk_QR E P) args s 0 0 (tk_A E)) E nL 209 (tk_ct E M) 0 0 pc lo [] :=
  fun H locs ls h2 h3 h4 => tk_size fun hz => W.vret cx.1 cx.2.1 hB.1 (fun t ht hW => ⟨none, M, hP, tk_done cx h2 h3 hz rfl (by decide) (fun _ _ => rfl) ht⟩) h3.2.2 d.1 hB.2.1
theorem v_eqM (h : M = M') (kk : tk_V p l e R s m args below meth c Q E nL 209 (tk_ct E M') cells slots pc lo st) : tk_V p l e R s m args below meth c Q E nL 209 (tk_ct E M) cells slots pc lo st := by
  rw [h]
  exact kk
variable {b : ByteArray} {mL d' np idx : Nat} {ret : Option FieldType} {as rest : List Value}
theorem tk_afterR (cx : tk_X p s m args c cc nL own E n0) {H : Heap} {locs : List Loc} {ls : Array Slot} {a : Array Value} (hr : va_Run p l e R s m args below meth c H locs cells slots 0 0 (F0 m pc ls st) rest (tk_QR E P a) (tk_A E)) (h3 : va_S (tk_A E) s.heap H locs) (h4 : tk_has ls nL lo) (hn : n0 ≤ 209) (kk : ∀ (r : Option Value) (M' : tk_M), P r M' → tk_V p l e R s m args below meth c Q E nL 209 (tk_ct E M') cells slots (pc + 3) lo (r.toList ++ rest)) : W p l e R s m args below meth c H locs cells slots Q (F0 m pc ls st) := by
  intro T hT X
  obtain ⟨v, st₀, t, T', L, e0, X', hL, e1, e2, ⟨r, M', hPx, hq⟩, hgo⟩ := hr T hT X
  obtain ⟨hv, hz, hP, hk⟩ := hq
  cases hv
  rw [e0] at hk
  have h6 := cx.2.2.2.2.2.2.2.2
  obtain ⟨t2, a1, b1⟩ := kk _ M' hPx T'.heap (locs ++ L) ls (by rw [e1]; exact hP) ⟨by rw [e1]; omega, fun q h7 h8 => by
      rw [e1, hk q (Nat.not_le.mp h8) (Nat.lt_of_lt_of_le h7 h3.1)]
      exact h3.2.1 q h7 h8, fun q hq => by
      rcases List.mem_append.mp hq with h | h
      · exact h3.2.2 q h
      · exact hL q h⟩ h4 T' rfl X'
  exact ⟨t2, hgo t2 a1, b1⟩
theorem v_callVR (cx : tk_X p s m args c cc nL own E n0) {i ci N : Nat} {kd : Nat → Nat ⊕ Nat} (d : tk_D cc pc (.invokevirtual idx) 3 pc') (hm : Cond.methodLink own idx y ∈ lw_tbl) (hn : Cond.instanceMethod y ∈ lw_tbl) (hv : Cond.selects y.cls y y ∈ lw_tbl) (hc : tk_Cs y b mL ret np) (ho : tk_O i ci N kd) (hci : ci < 10) (hcl : tk_R ci = y.cls) (hM : tk_MR l y b mL ret d' E (.ref (E.1 + i) :: as) M P) (hst : st = as.reverse ++ .ref (E.1 + i) :: rest) (hlen : as.length = np) (hcat : (rest.map fun v => v.category).sum ≤ 8) (hd : d' < R.frames ∧ 44 * R.frames ≤ R.locals ∧ cells ≤ R.cells ∧ slots ≤ R.slots ∧ n0 + cells = 209 ∧ n0 ≤ 209)
    (kk : ∀ (r : Option Value) (M' : tk_M), P r M' → tk_V p l e R s m args below meth c Q E nL 209 (tk_ct E M') cells slots pc' lo (r.toList ++ rest)) : tk_V p l e R s m args below meth c Q E nL 209 (tk_ct E M) cells slots pc lo st := by
  obtain ⟨d1, rfl⟩ := d
  intro H locs ls h2 h3 h4
  refine tk_size fun hz => ?_
  have he : (tk_wl E.1 209 (tk_ct E M))[i]? = some (E.1 + i, .inr (ci, (List.range N).map (tk_v E.1 M i))) := tk_ct_at ho.2 (tk_ct_o ho hci)
  have hrecv := va_recv cx.2.2.2.2.2.2.1 h2 (tk_cl_at hci) he
  simp only [hcl] at hrecv
  exact tk_afterR cx (va_runV (As := as) (rest := rest) (b := E.1 + i) (C := y.cls) (g := F0 m pc ls st) ⟨cx.1, cx.2.1, cx.2.2.1, cx.2.2.2.1, cx.2.2.2.2.1⟩ hM ⟨tk_cb cx hm hc hd.1 hd.2.1, cx.2.2.2.2.1 _ (tk_g hn rfl), cx.2.2.2.2.1 _ (tk_g hv rfl)⟩ ⟨tk_blind, hrecv, fun U hU hW => ⟨rfl, tk_enter cx (tk_zz cx h2 hz hd.2.2.2.2.1 (by decide)) h2 h3 hU hW⟩⟩ rfl hlen h4.1 hst (lv_room hcat) d1 ⟨hd.2.2.1, hd.2.2.2.1⟩) h3 h4 hd.2.2.2.2.2 kk
end TKR
theorem wI_id {M : tk_M} {i k : Nat} {v : Int32} (h : M.1 i k = v) : wI M i k v = M := by
  refine Prod.ext ?_ rfl
  funext a b
  show (if a = i ∧ b = k then v else M.1 a b) = M.1 a b
  by_cases g : a = i ∧ b = k
  · rw [if_pos g, g.1, g.2, h]
  · rw [if_neg g]
theorem cz_id {M : tk_M} (h : M.1 172 0 = 0) : cz M = M := wI_id h
/-- answer v and memory N, up to the date's fields -/
def NR (v : Option Value) (N : tk_M) : Option Value → tk_M → Prop := fun r M' => r = v ∧ SC N M'
def m_let (M : tk_M) (c : Nat) (l : List Int32) : tk_M := (fun a b => if a = 208 ∧ 8 * c ≤ b ∧ b < 8 * c + 8 then l.getD (b - 8 * c) 0 else M.1 a b, M.2)
theorem m_let_8 (M : tk_M) (c : Nat) (v0 v1 v2 v3 v4 v5 v6 v7 : Int32) : wI (wI (wI (wI (wI (wI (wI (wI M 208 (8 * c) v0) 208 (8 * c + 1) v1) 208 (8 * c + 2) v2) 208 (8 * c + 3) v3) 208 (8 * c + 4) v4) 208 (8 * c + 5) v5) 208 (8 * c + 6) v6) 208 (8 * c + 7) v7 = m_let M c [v0, v1, v2, v3, v4, v5, v6, v7] := by
  unfold wI m_let
  congr 1
  funext a b
  by_cases ha : a = 208
  · subst ha
    by_cases hb : 8 * c ≤ b ∧ b < 8 * c + 8
    · obtain ⟨i, rfl⟩ : ∃ i, b = 8 * c + i := ⟨b - 8 * c, by omega⟩
      rcases (show i = 0 ∨ i = 1 ∨ i = 2 ∨ i = 3 ∨ i = 4 ∨ i = 5 ∨ i = 6 ∨ i = 7 by omega) with rfl | rfl | rfl | rfl | rfl | rfl | rfl | rfl <;> simp
    · simp only [show ¬ b = 8 * c by omega, show ¬ b = 8 * c + 1 by omega, show ¬ b = 8 * c + 2 by omega, show ¬ b = 8 * c + 3 by omega, show ¬ b = 8 * c + 4 by omega, show ¬ b = 8 * c + 5 by omega, show ¬ b = 8 * c + 6 by omega, show ¬ b = 8 * c + 7 by omega, hb, and_false, if_false]
  · simp [ha]
def m_snd (M : tk_M) (c : Nat) (l : List Int32) : tk_M := if c < 60 then wI (m_let M c l) 172 38 (nI (c + 1)) else M
def cup (c : Nat) : Nat := if c < 60 then c + 1 else c
theorem cup_le {c : Nat} (h : c ≤ 60) : cup c ≤ 60 := by unfold cup; split <;> omega
theorem m_snd_c {M : tk_M} {c : Nat} {l : List Int32} (h : M.1 172 38 = nI c) : (m_snd M c l).1 172 38 = nI (cup c) := by
  unfold m_snd cup
  by_cases g : c < 60
  · rw [if_pos g, if_pos g]; exact wI_at _ _ _ _
  · rw [if_neg g, if_neg g]; exact h
theorem m_snd_at {M : tk_M} {c : Nat} {l : List Int32} {a b : Nat} (h1 : a ≠ 208) (h2 : ¬ (a = 172 ∧ b = 38)) : (m_snd M c l).1 a b = M.1 a b := by
  unfold m_snd
  by_cases g : c < 60
  · rw [if_pos g, wI_ne h2]; simp [m_let, h1]
  · rw [if_neg g]
theorem m_snd_2 {M : tk_M} {c : Nat} {l : List Int32} : (m_snd M c l).2 = M.2 := by
  unfold m_snd
  by_cases g : c < 60
  · rw [if_pos g]; rfl
  · rw [if_neg g]
/-- letters to the others, up to t -/
def m_oth (M : tk_M) (c x : Nat) (f : Nat → List Int32) : Nat → tk_M × Nat
  | 0 => (M, c)
  | t + 1 => if t = x then m_oth M c x f t else (m_snd (m_oth M c x f t).1 (m_oth M c x f t).2 (f t), cup (m_oth M c x f t).2)
theorem m_oth_c {M : tk_M} {c x : Nat} {f : Nat → List Int32} (h : M.1 172 38 = nI c) (hc : c ≤ 60) : ∀ t, (m_oth M c x f t).2 ≤ 60 ∧ (m_oth M c x f t).1.1 172 38 = nI (m_oth M c x f t).2
  | 0 => ⟨hc, h⟩
  | t + 1 => by
    have ih := m_oth_c (x := x) (f := f) h hc t
    unfold m_oth
    by_cases g : t = x
    · rw [if_pos g]; exact ih
    · rw [if_neg g]; exact ⟨cup_le ih.1, m_snd_c ih.2⟩
theorem m_oth_at {M : tk_M} {c x : Nat} {f : Nat → List Int32} {a b : Nat} (h1 : a ≠ 208) (h2 : ¬ (a = 172 ∧ b = 38)) : ∀ t, (m_oth M c x f t).1.1 a b = M.1 a b
  | 0 => rfl
  | t + 1 => by
    have ih := m_oth_at (M := M) (c := c) (x := x) (f := f) h1 h2 t
    unfold m_oth
    by_cases g : t = x
    · rw [if_pos g]; exact ih
    · rw [if_neg g]; exact (m_snd_at h1 h2).trans ih
theorem m_oth_2 {M : tk_M} {c x : Nat} {f : Nat → List Int32} : ∀ t, (m_oth M c x f t).1.2 = M.2
  | 0 => rfl
  | t + 1 => by
    have ih := m_oth_2 (M := M) (c := c) (x := x) (f := f) t
    unfold m_oth
    by_cases g : t = x
    · rw [if_pos g]; exact ih
    · rw [if_neg g]; exact m_snd_2.trans ih
theorem m_oth_y {M : tk_M} {c x t : Nat} {f : Nat → List Int32} (h : t = x) : m_oth M c x f (t + 1) = m_oth M c x f t := by
  rw [m_oth, if_pos h]
theorem m_oth_n {M : tk_M} {c x t : Nat} {f : Nat → List Int32} (h : ¬ t = x) : m_oth M c x f (t + 1) = (m_snd (m_oth M c x f t).1 (m_oth M c x f t).2 (f t), cup (m_oth M c x f t).2) := by
  rw [m_oth, if_neg h]
theorem nI_subN {a b : Nat} (h : b ≤ a) : nI a - nI b = nI (a - b) := by
  rw [iI_nI, iI_nI, iI_sub, iI_nI]
  congr 1
  omega
def m_ovr (M : tk_M) (k : Nat) : tk_M := wI (wI (wI M 200 k 0) 201 k 0) 202 k (-1)
/-- the letters behind i, one place forward, up to place k -/
def m_shf (M : tk_M) (i k : Nat) : tk_M := (fun a b => if a = 208 ∧ 8 * i ≤ b ∧ b < k then M.1 208 (b + 8) else M.1 a b, M.2)
theorem m_shf_0 (M : tk_M) (i : Nat) : m_shf M i (8 * i) = M := by
  refine Prod.ext ?_ rfl
  funext a b
  show (if a = 208 ∧ 8 * i ≤ b ∧ b < 8 * i then M.1 208 (b + 8) else M.1 a b) = M.1 a b
  rw [if_neg (by omega)]
theorem m_shf_s {M : tk_M} {i k : Nat} (h : 8 * i ≤ k) : wI (m_shf M i k) 208 k (M.1 208 (k + 8)) = m_shf M i (k + 1) := by
  refine Prod.ext ?_ rfl
  funext a b
  show (if a = 208 ∧ b = k then M.1 208 (k + 8) else if a = 208 ∧ 8 * i ≤ b ∧ b < k then M.1 208 (b + 8) else M.1 a b) = if a = 208 ∧ 8 * i ≤ b ∧ b < k + 1 then M.1 208 (b + 8) else M.1 a b
  by_cases g : a = 208 ∧ b = k
  · rw [if_pos g, if_pos (by omega), g.2]
  · rw [if_neg g]
    by_cases g2 : a = 208 ∧ 8 * i ≤ b ∧ b < k
    · rw [if_pos g2, if_pos (by omega)]
    · rw [if_neg g2, if_neg (by omega)]
theorem m_shf_at {M : tk_M} {i k a b : Nat} (h : a ≠ 208 ∨ k ≤ b) : (m_shf M i k).1 a b = M.1 a b := by
  show (if a = 208 ∧ 8 * i ≤ b ∧ b < k then M.1 208 (b + 8) else M.1 a b) = M.1 a b
  rw [if_neg (by omega)]
def m_rem (M : tk_M) (i c : Nat) : tk_M := wI (m_shf M i (8 * c - 8)) 172 38 (nI (c - 1))
def m_up (M : tk_M) (x : Nat) : Nat → tk_M
  | 0 => M
  | j + 1 => m_ovr (wI (m_up M x j) 199 (8 * x + j) (-1)) (8 * x + j)
/-- which register -/
def m_reg (M : tk_M) (k : Nat) (w : Int32) : Int32 := if w < 0 then -1 else if nI 8 ≤ w then -1 else M.1 (195 + w.toNatClampNeg) k
set_option maxHeartbeats 4000000 in
set_option maxRecDepth 100000 in
theorem c_M_send {l : Launch} {E : tk_E} {M : tk_M} {cn k ab : Nat} {f t jj b mm g : Int32} (hc : cn ≤ 60) (hM : M.1 172 38 = nI cn) (hk : k < 10) (hab : ab < 100000000) : tk_Mt l y_M_send b_M_send 10 none 0 E [.ref (E.1 + 172), .int (nI (k + 10 * ab)), .int (f), .int (t), .int (jj), .int (b), .int (mm), .int (g)] M (m_snd M cn [nI k, f, t, jj, b, mm, g, nI ab]) none := by
  refine tk_ofV (by decide +kernel) [some (.ref (E.1 + 172)), some (.int (nI (k + 10 * ab))), some (.int (f)), some (.int (t)), some (.int (jj)), some (.int (b)), some (.int (mm)), some (.int (g)), none, none] rfl (Nat.le_of_ble_eq_true rfl) ?_
  intro p e s m args below meth c cx hB
  refine v_aload_n cx (tk_dc d_M_send 0 rfl) rfl ?_
  refine v_getI cx (tk_dc d_M_send 1 rfl) f_M_221 o_M (by decide) (by rfl) ?_
  refine v_eqi (nI cn) (hM) ?_
  refine v_bipush cx (tk_dc d_M_send 2 rfl) (60) (by decide) ?_
  refine v_icmp_ne cx (tk_dc d_M_send 3 rfl) 10 (by decide) (fun h6 => ?_) (fun h6 => ?_)
  · have g6 : cn < 60 := by rcases Nat.lt_or_ge cn 60 with w | w; (exact w); exact absurd (by rw [show cn = 60 by omega]; rfl) h6
    refine v_bipush cx (tk_dc d_M_send 5 rfl) (8) (by decide) ?_
    refine v_aload_n cx (tk_dc d_M_send 6 rfl) rfl ?_
    refine v_getI cx (tk_dc d_M_send 7 rfl) f_M_221 o_M (by decide) (by rfl) ?_
    refine v_eqi (nI cn) (hM) ?_
    refine v_imul cx (tk_dc d_M_send 8 rfl) ?_
    refine v_eqi (nI (8 * cn)) (by rw [show (8 : Int32) = nI 8 from rfl, pk_mul]) ?_
    refine v_istore (lo' := [_, _, _, _, _, _, _, _, _, _]) cx (tk_dc d_M_send 9 rfl) (by decide) rfl ?_
    refine v_iload_n cx (tk_dc d_M_send 10 rfl) rfl ?_
    refine v_bipush cx (tk_dc d_M_send 11 rfl) (10) (by decide) ?_
    refine v_idiv cx (tk_dc d_M_send 12 rfl) (by decide) ?_
    refine v_eqi (nI ab) (by rw [iI_nI, show (10 : Int32) = iI 10 from rfl, iI_divN (by omega) (by omega) (by omega) (by omega), iI_nI]; congr 1; omega) ?_
    refine v_istore (lo' := [_, _, _, _, _, _, _, _, _, _]) cx (tk_dc d_M_send 13 rfl) (by decide) rfl ?_
    refine v_aload_n cx (tk_dc d_M_send 14 rfl) rfl ?_
    refine v_getC cx 208 (tk_dc d_M_send 15 rfl) f_M_117 o_M (by decide) (by rfl) ?_
    refine v_iload cx (tk_dc d_M_send 16 rfl) rfl ?_
    refine v_iload_n cx (tk_dc d_M_send 17 rfl) rfl ?_
    refine v_bipush cx (tk_dc d_M_send 18 rfl) (10) (by decide) ?_
    refine v_irem cx (tk_dc d_M_send 19 rfl) (by decide) ?_
    refine v_eqi (nI k) (by rw [iI_nI, show (10 : Int32) = iI 10 from rfl, iI_remN (by omega) (by omega) (by omega) (by omega), iI_nI]; congr 1; omega) ?_
    refine w_iast cx (tk_dc d_M_send 20 rfl) a_208 (8 * cn) (rfl) (by omega) (by decide) ?_
    refine v_aload_n cx (tk_dc d_M_send 21 rfl) rfl ?_
    refine v_getC cx 208 (tk_dc d_M_send 22 rfl) f_M_117 o_M (by decide) (by rfl) ?_
    refine v_iload cx (tk_dc d_M_send 23 rfl) rfl ?_
    refine v_iconst cx (tk_dc d_M_send 24 rfl) (1) (by decide) ?_
    refine v_iadd cx (tk_dc d_M_send 25 rfl) ?_
    refine v_iload_n cx (tk_dc d_M_send 26 rfl) rfl ?_
    refine w_iast cx (tk_dc d_M_send 27 rfl) a_208 (8 * cn + 1) (by rw [show (1 : Int32) = nI 1 from rfl, nI_add]) (by omega) (by decide) ?_
    refine v_aload_n cx (tk_dc d_M_send 28 rfl) rfl ?_
    refine v_getC cx 208 (tk_dc d_M_send 29 rfl) f_M_117 o_M (by decide) (by rfl) ?_
    refine v_iload cx (tk_dc d_M_send 30 rfl) rfl ?_
    refine v_iconst cx (tk_dc d_M_send 31 rfl) (2) (by decide) ?_
    refine v_iadd cx (tk_dc d_M_send 32 rfl) ?_
    refine v_iload_n cx (tk_dc d_M_send 33 rfl) rfl ?_
    refine w_iast cx (tk_dc d_M_send 34 rfl) a_208 (8 * cn + 2) (by rw [show (2 : Int32) = nI 2 from rfl, nI_add]) (by omega) (by decide) ?_
    refine v_aload_n cx (tk_dc d_M_send 35 rfl) rfl ?_
    refine v_getC cx 208 (tk_dc d_M_send 36 rfl) f_M_117 o_M (by decide) (by rfl) ?_
    refine v_iload cx (tk_dc d_M_send 37 rfl) rfl ?_
    refine v_iconst cx (tk_dc d_M_send 38 rfl) (3) (by decide) ?_
    refine v_iadd cx (tk_dc d_M_send 39 rfl) ?_
    refine v_iload cx (tk_dc d_M_send 40 rfl) rfl ?_
    refine w_iast cx (tk_dc d_M_send 41 rfl) a_208 (8 * cn + 3) (by rw [show (3 : Int32) = nI 3 from rfl, nI_add]) (by omega) (by decide) ?_
    refine v_aload_n cx (tk_dc d_M_send 42 rfl) rfl ?_
    refine v_getC cx 208 (tk_dc d_M_send 43 rfl) f_M_117 o_M (by decide) (by rfl) ?_
    refine v_iload cx (tk_dc d_M_send 44 rfl) rfl ?_
    refine v_iconst cx (tk_dc d_M_send 45 rfl) (4) (by decide) ?_
    refine v_iadd cx (tk_dc d_M_send 46 rfl) ?_
    refine v_iload cx (tk_dc d_M_send 47 rfl) rfl ?_
    refine w_iast cx (tk_dc d_M_send 48 rfl) a_208 (8 * cn + 4) (by rw [show (4 : Int32) = nI 4 from rfl, nI_add]) (by omega) (by decide) ?_
    refine v_aload_n cx (tk_dc d_M_send 49 rfl) rfl ?_
    refine v_getC cx 208 (tk_dc d_M_send 50 rfl) f_M_117 o_M (by decide) (by rfl) ?_
    refine v_iload cx (tk_dc d_M_send 51 rfl) rfl ?_
    refine v_iconst cx (tk_dc d_M_send 52 rfl) (5) (by decide) ?_
    refine v_iadd cx (tk_dc d_M_send 53 rfl) ?_
    refine v_iload cx (tk_dc d_M_send 54 rfl) rfl ?_
    refine w_iast cx (tk_dc d_M_send 55 rfl) a_208 (8 * cn + 5) (by rw [show (5 : Int32) = nI 5 from rfl, nI_add]) (by omega) (by decide) ?_
    refine v_aload_n cx (tk_dc d_M_send 56 rfl) rfl ?_
    refine v_getC cx 208 (tk_dc d_M_send 57 rfl) f_M_117 o_M (by decide) (by rfl) ?_
    refine v_iload cx (tk_dc d_M_send 58 rfl) rfl ?_
    refine v_bipush cx (tk_dc d_M_send 59 rfl) (6) (by decide) ?_
    refine v_iadd cx (tk_dc d_M_send 60 rfl) ?_
    refine v_iload cx (tk_dc d_M_send 61 rfl) rfl ?_
    refine w_iast cx (tk_dc d_M_send 62 rfl) a_208 (8 * cn + 6) (by rw [show (6 : Int32) = nI 6 from rfl, nI_add]) (by omega) (by decide) ?_
    refine v_aload_n cx (tk_dc d_M_send 63 rfl) rfl ?_
    refine v_getC cx 208 (tk_dc d_M_send 64 rfl) f_M_117 o_M (by decide) (by rfl) ?_
    refine v_iload cx (tk_dc d_M_send 65 rfl) rfl ?_
    refine v_bipush cx (tk_dc d_M_send 66 rfl) (7) (by decide) ?_
    refine v_iadd cx (tk_dc d_M_send 67 rfl) ?_
    refine v_iload cx (tk_dc d_M_send 68 rfl) rfl ?_
    refine w_iast cx (tk_dc d_M_send 69 rfl) a_208 (8 * cn + 7) (by rw [show (7 : Int32) = nI 7 from rfl, nI_add]) (by omega) (by decide) ?_
    refine v_aload_n cx (tk_dc d_M_send 70 rfl) rfl ?_
    refine v_dup cx (tk_dc d_M_send 71 rfl) rfl ?_
    refine v_getI cx (tk_dc d_M_send 72 rfl) f_M_221 o_M (by decide) (by rfl) ?_
    refine v_eqi (nI cn) (by simp [wI, hM]) ?_
    refine v_iconst cx (tk_dc d_M_send 73 rfl) (1) (by decide) ?_
    refine v_iadd cx (tk_dc d_M_send 74 rfl) ?_
    refine v_eqi (nI (cn + 1)) ((nI_succ cn).symm) ?_
    refine v_putI cx (tk_dc d_M_send 75 rfl) f_M_221 o_M (by decide) (by rfl) ⟨rfl, rfl⟩ ?_
    exact v_vret cx hB (tk_dc d_M_send 76 rfl) (by unfold m_snd; rw [if_pos g6, ← m_let_8])
  · have g6 : ¬ cn < 60 := fun w => absurd (nI_inj (b := 60) (by omega) (by decide) h6) (by omega)
    exact v_vret cx hB (tk_dc d_M_send 4 rfl) (by unfold m_snd; rw [if_neg g6])

set_option maxHeartbeats 4000000 in
set_option maxRecDepth 100000 in
theorem c_M_toOthers {l : Launch} {E : tk_E} {M : tk_M} {cn k x : Nat} {jj b mm g : Int32} (hc : cn ≤ 60) (hM : M.1 172 38 = nI cn) (hk : k < 10) (hx : x < 3) : tk_Mt l y_M_toOthers b_M_toOthers 8 none 1 E [.ref (E.1 + 172), .int (nI k), .int (nI x), .int jj, .int b, .int mm, .int g] M (m_oth M cn x (fun t => [nI k, nI x, nI t, jj, b, mm, g, 0]) 3).1 none := by
  refine tk_ofV (by decide +kernel) [some (.ref (E.1 + 172)), some (.int (nI k)), some (.int (nI x)), some (.int jj), some (.int b), some (.int mm), some (.int g), none] rfl (Nat.le_of_ble_eq_true rfl) ?_
  intro p e s m args below meth c cx hB
  have loop : ∀ (r t : Nat), t + r = 3 → tk_V p l e (tk_rm 1 0 0) s m args below meth c (MQ below (tk_Q E 209 (tk_ct E (m_oth M cn x (fun t => [nI k, nI x, nI t, jj, b, mm, g, 0]) 3).1) none) args s 0 0 (tk_A E)) E 8 209 (tk_ct E (m_oth M cn x (fun t => [nI k, nI x, nI t, jj, b, mm, g, 0]) t).1) 0 0 3 [some (.ref (E.1 + 172)), some (.int (nI k)), some (.int (nI x)), some (.int jj), some (.int b), some (.int mm), some (.int g), some (.int (nI t))] [] := by
    intro r
    induction r with
    | zero =>
      intro t ht
      have : t = 3 := by omega
      subst this
      refine v_iload cx (tk_dc d_M_toOthers 2 rfl) rfl ?_
      refine v_iconst cx (tk_dc d_M_toOthers 3 rfl) (3) (by decide) ?_
      refine v_icmp_ge cx (tk_dc d_M_toOthers 4 rfl) 36 (by decide) (fun _ => ?_) (fun h => absurd (by decide) h)
      exact v_vret cx hB (tk_dc d_M_toOthers 19 rfl) (rfl)
    | succ r ih =>
      intro t ht
      have hq := m_oth_c (x := x) (f := (fun t => [nI k, nI x, nI t, jj, b, mm, g, 0])) hM hc t
      refine v_iload cx (tk_dc d_M_toOthers 2 rfl) rfl ?_
      refine v_iconst cx (tk_dc d_M_toOthers 3 rfl) (3) (by decide) ?_
      refine v_icmp_ge cx (tk_dc d_M_toOthers 4 rfl) 36 (by decide) (fun h => absurd h (Int32.not_le.mpr (nI_lt (b := 3) (by omega) (by decide)))) (fun _ => ?_)
      refine v_iload cx (tk_dc d_M_toOthers 5 rfl) rfl ?_
      refine v_iload_n cx (tk_dc d_M_toOthers 6 rfl) rfl ?_
      refine v_icmp_eq cx (tk_dc d_M_toOthers 7 rfl) 30 (by decide) (fun h12 => ?_) (fun h12 => ?_)
      · have g12 : t = x := nI_inj (by omega) (by omega) h12
        refine v_iinc (lo' := [_, _, _, _, _, _, _, _]) cx (tk_dc d_M_toOthers 17 rfl) rfl (nI (t + 1)) ((nI_succ t).symm) (by decide) rfl ?_
        refine v_goto cx (tk_dc d_M_toOthers 18 rfl) 3 (by decide) ?_
        exact v_eqM (show _ = (m_oth M cn x (fun t => [nI k, nI x, nI t, jj, b, mm, g, 0]) (t + 1)).1 from by rw [m_oth_y g12]) (ih (t + 1) (by omega))
      · have g12 : ¬ t = x := fun w => h12 (by rw [w])
        refine v_aload_n cx (tk_dc d_M_toOthers 8 rfl) rfl ?_
        refine v_iload_n cx (tk_dc d_M_toOthers 9 rfl) rfl ?_
        refine v_iload_n cx (tk_dc d_M_toOthers 10 rfl) rfl ?_
        refine v_iload cx (tk_dc d_M_toOthers 11 rfl) rfl ?_
        refine v_iload_n cx (tk_dc d_M_toOthers 12 rfl) rfl ?_
        refine v_iload cx (tk_dc d_M_toOthers 13 rfl) rfl ?_
        refine v_iload cx (tk_dc d_M_toOthers 14 rfl) rfl ?_
        refine v_iload cx (tk_dc d_M_toOthers 15 rfl) rfl ?_
        refine v_callV (rest := _) cx (tk_dc d_M_toOthers 16 rfl) m_M_224 kn_M_send kv_M_send k_M_send o_M (by decide) rfl (c_M_send (k := k) (ab := 0) hq.1 hq.2 hk (by decide)) rfl rfl (Nat.le_of_ble_eq_true rfl) (by decide) ?_
        refine v_iinc (lo' := [_, _, _, _, _, _, _, _]) cx (tk_dc d_M_toOthers 17 rfl) rfl (nI (t + 1)) ((nI_succ t).symm) (by decide) rfl ?_
        refine v_goto cx (tk_dc d_M_toOthers 18 rfl) 3 (by decide) ?_
        exact v_eqM (show _ = (m_oth M cn x (fun t => [nI k, nI x, nI t, jj, b, mm, g, 0]) (t + 1)).1 from by rw [m_oth_n g12]; rfl) (ih (t + 1) (by omega))
  have h0 := loop 3 0 rfl
  refine v_iconst cx (tk_dc d_M_toOthers 0 rfl) (0) (by decide) ?_
  refine v_istore (lo' := [_, _, _, _, _, _, _, _]) cx (tk_dc d_M_toOthers 1 rfl) (by decide) rfl ?_
  exact h0

set_option maxHeartbeats 4000000 in
set_option maxRecDepth 100000 in
theorem c_M_over {l : Launch} {E : tk_E} {M : tk_M} {k : Nat} (hk : k < 24) : tk_Mt l y_M_over b_M_over 2 none 0 E [.ref (E.1 + 172), .int (nI k)] M (m_ovr M k) none := by
  refine tk_ofV (by decide +kernel) [some (.ref (E.1 + 172)), some (.int (nI k))] rfl (Nat.le_of_ble_eq_true rfl) ?_
  intro p e s m args below meth c cx hB
  refine v_aload_n cx (tk_dc d_M_over 0 rfl) rfl ?_
  refine v_getC cx 200 (tk_dc d_M_over 1 rfl) f_M_93 o_M (by decide) (by rfl) ?_
  refine v_iload_n cx (tk_dc d_M_over 2 rfl) rfl ?_
  refine v_iconst cx (tk_dc d_M_over 3 rfl) (0) (by decide) ?_
  refine w_iast cx (tk_dc d_M_over 4 rfl) a_200 k (rfl) (by omega) (by decide) ?_
  refine v_aload_n cx (tk_dc d_M_over 5 rfl) rfl ?_
  refine v_getC cx 201 (tk_dc d_M_over 6 rfl) f_M_96 o_M (by decide) (by rfl) ?_
  refine v_iload_n cx (tk_dc d_M_over 7 rfl) rfl ?_
  refine v_iconst cx (tk_dc d_M_over 8 rfl) (0) (by decide) ?_
  refine w_iast cx (tk_dc d_M_over 9 rfl) a_201 k (rfl) (by omega) (by decide) ?_
  refine v_aload_n cx (tk_dc d_M_over 10 rfl) rfl ?_
  refine v_getC cx 202 (tk_dc d_M_over 11 rfl) f_M_99 o_M (by decide) (by rfl) ?_
  refine v_iload_n cx (tk_dc d_M_over 12 rfl) rfl ?_
  refine v_iconst cx (tk_dc d_M_over 13 rfl) (-1) (by decide) ?_
  refine w_iast cx (tk_dc d_M_over 14 rfl) a_202 k (rfl) (by omega) (by decide) ?_
  exact v_vret cx hB (tk_dc d_M_over 15 rfl) (rfl)

set_option maxHeartbeats 4000000 in
set_option maxRecDepth 100000 in
theorem c_M_remove {l : Launch} {E : tk_E} {M : tk_M} {i cn : Nat} (hc : cn ≤ 60) (hi : i < cn) (hM : M.1 172 38 = nI cn) : tk_Mt l y_M_remove b_M_remove 3 none 0 E [.ref (E.1 + 172), .int (nI i)] M (m_rem M i cn) none := by
  refine tk_ofV (by decide +kernel) [some (.ref (E.1 + 172)), some (.int (nI i)), none] rfl (Nat.le_of_ble_eq_true rfl) ?_
  intro p e s m args below meth c cx hB
  have loop : ∀ (r k : Nat), k + r = 8 * cn - 8 → 8 * i ≤ k → tk_V p l e (tk_rm 0 0 0) s m args below meth c (MQ below (tk_Q E 209 (tk_ct E (m_rem M i cn)) none) args s 0 0 (tk_A E)) E 3 209 (tk_ct E (m_shf M i k)) 0 0 5 [some (.ref (E.1 + 172)), some (.int (nI i)), some (.int (nI k))] [] := by
    intro r
    induction r with
    | zero =>
      intro k hk hik
      have : k = 8 * cn - 8 := by omega
      subst this
      refine v_iload_n cx (tk_dc d_M_remove 4 rfl) rfl ?_
      refine v_bipush cx (tk_dc d_M_remove 5 rfl) (8) (by decide) ?_
      refine v_aload_n cx (tk_dc d_M_remove 6 rfl) rfl ?_
      refine v_getI cx (tk_dc d_M_remove 7 rfl) f_M_221 o_M (by decide) (by rfl) ?_
      refine v_eqi (nI cn) (by rw [m_shf_at (Or.inl (by decide))]; exact hM) ?_
      refine v_imul cx (tk_dc d_M_remove 8 rfl) ?_
      refine v_eqi (nI (8 * cn)) (by rw [show (8 : Int32) = nI 8 from rfl, pk_mul]) ?_
      refine v_bipush cx (tk_dc d_M_remove 9 rfl) (8) (by decide) ?_
      refine v_isub cx (tk_dc d_M_remove 10 rfl) ?_
      refine v_eqi (nI (8 * cn - 8)) (by rw [show (8 : Int32) = nI 8 from rfl, nI_subN (by omega)]) ?_
      refine v_icmp_ge cx (tk_dc d_M_remove 11 rfl) 40 (by decide) (fun _ => ?_) (fun h => absurd (nI_le (by omega) (by omega)) h)
      refine v_aload_n cx (tk_dc d_M_remove 24 rfl) rfl ?_
      refine v_dup cx (tk_dc d_M_remove 25 rfl) rfl ?_
      refine v_getI cx (tk_dc d_M_remove 26 rfl) f_M_221 o_M (by decide) (by rfl) ?_
      refine v_eqi (nI cn) (by rw [m_shf_at (Or.inl (by decide))]; exact hM) ?_
      refine v_iconst cx (tk_dc d_M_remove 27 rfl) (1) (by decide) ?_
      refine v_isub cx (tk_dc d_M_remove 28 rfl) ?_
      refine v_eqi (nI (cn - 1)) (nI_sub1 (by omega)) ?_
      refine v_putI cx (tk_dc d_M_remove 29 rfl) f_M_221 o_M (by decide) (by rfl) ⟨rfl, rfl⟩ ?_
      exact v_vret cx hB (tk_dc d_M_remove 30 rfl) (rfl)
    | succ r ih =>
      intro k hk hik
      refine v_iload_n cx (tk_dc d_M_remove 4 rfl) rfl ?_
      refine v_bipush cx (tk_dc d_M_remove 5 rfl) (8) (by decide) ?_
      refine v_aload_n cx (tk_dc d_M_remove 6 rfl) rfl ?_
      refine v_getI cx (tk_dc d_M_remove 7 rfl) f_M_221 o_M (by decide) (by rfl) ?_
      refine v_eqi (nI cn) (by rw [m_shf_at (Or.inl (by decide))]; exact hM) ?_
      refine v_imul cx (tk_dc d_M_remove 8 rfl) ?_
      refine v_eqi (nI (8 * cn)) (by rw [show (8 : Int32) = nI 8 from rfl, pk_mul]) ?_
      refine v_bipush cx (tk_dc d_M_remove 9 rfl) (8) (by decide) ?_
      refine v_isub cx (tk_dc d_M_remove 10 rfl) ?_
      refine v_eqi (nI (8 * cn - 8)) (by rw [show (8 : Int32) = nI 8 from rfl, nI_subN (by omega)]) ?_
      refine v_icmp_ge cx (tk_dc d_M_remove 11 rfl) 40 (by decide) (fun h => absurd h (Int32.not_le.mpr (nI_lt (by omega) (by omega)))) (fun _ => ?_)
      refine v_aload_n cx (tk_dc d_M_remove 12 rfl) rfl ?_
      refine v_getC cx 208 (tk_dc d_M_remove 13 rfl) f_M_117 o_M (by decide) (by rfl) ?_
      refine v_iload_n cx (tk_dc d_M_remove 14 rfl) rfl ?_
      refine v_aload_n cx (tk_dc d_M_remove 15 rfl) rfl ?_
      refine v_getC cx 208 (tk_dc d_M_remove 16 rfl) f_M_117 o_M (by decide) (by rfl) ?_
      refine v_iload_n cx (tk_dc d_M_remove 17 rfl) rfl ?_
      refine v_bipush cx (tk_dc d_M_remove 18 rfl) (8) (by decide) ?_
      refine v_iadd cx (tk_dc d_M_remove 19 rfl) ?_
      refine w_iald cx (tk_dc d_M_remove 20 rfl) a_208 (k + 8) (by rw [show (8 : Int32) = nI 8 from rfl, nI_add]) (by omega) (by decide) ?_
      refine v_eqi (M.1 208 (k + 8)) (m_shf_at (Or.inr (by omega))) ?_
      refine w_iast cx (tk_dc d_M_remove 21 rfl) a_208 k (rfl) (by omega) (by decide) ?_
      refine v_iinc (lo' := [_, _, _]) cx (tk_dc d_M_remove 22 rfl) rfl (nI (k + 1)) ((nI_succ k).symm) (by decide) rfl ?_
      refine v_goto cx (tk_dc d_M_remove 23 rfl) 5 (by decide) ?_
      exact v_eqM (m_shf_s hik) (ih (k + 1) (by omega) (by omega))
  have h0 := loop (8 * cn - 8 - 8 * i) (8 * i) (by omega) (Nat.le_refl _)
  rw [m_shf_0] at h0
  refine v_bipush cx (tk_dc d_M_remove 0 rfl) (8) (by decide) ?_
  refine v_iload_n cx (tk_dc d_M_remove 1 rfl) rfl ?_
  refine v_imul cx (tk_dc d_M_remove 2 rfl) ?_
  refine v_eqi (nI (8 * i)) (by rw [show (8 : Int32) = nI 8 from rfl, pk_mul]) ?_
  refine v_istore_n (lo' := [_, _, _]) cx (tk_dc d_M_remove 3 rfl) (by decide) rfl ?_
  exact h0

set_option maxHeartbeats 4000000 in
set_option maxRecDepth 100000 in
theorem n_M_lose {l : Launch} {E : tk_E} {M : tk_M} {cn : Nat} {x : Int32} (hz0 : M.1 172 0 = 0) (hM : M.1 172 38 = nI cn) (hc : cn ≤ 60) (hb : ¬ (¬ x < 0 ∧ x < nI cn)) : tk_Mt l y_M_lose b_M_lose 2 (some .boolean) 1 E [.ref (E.1 + 172), .int (x)] M M (some (.int 0)) := by
  refine tk_ofV (by decide +kernel) [some (.ref (E.1 + 172)), some (.int (x))] rfl (Nat.le_of_ble_eq_true rfl) ?_
  intro p e s m args below meth c cx hB
  refine v_aload_n cx (tk_dc d_M_lose 0 rfl) rfl ?_
  refine v_iconst cx (tk_dc d_M_lose 1 rfl) (0) (by decide) ?_
  refine v_putI cx (tk_dc d_M_lose 2 rfl) f_M_120 o_M (by decide) (by rfl) ⟨rfl, rfl⟩ ?_
  refine v_eqM (cz_id hz0) ?_
  refine v_iload_n cx (tk_dc d_M_lose 3 rfl) rfl ?_
  refine v_if_lt cx (tk_dc d_M_lose 4 rfl) 17 (by decide) (fun h6 => ?_) (fun h6 => ?_)
  · refine v_iconst cx (tk_dc d_M_lose 9 rfl) (0) (by decide) ?_
    exact v_zret cx hB (tk_dc d_M_lose 10 rfl) (by first | exact Or.inl rfl | exact Or.inr rfl | exact b01_01 _ | assumption) (rfl) (rfl)
  · refine v_iload_n cx (tk_dc d_M_lose 5 rfl) rfl ?_
    refine v_aload_n cx (tk_dc d_M_lose 6 rfl) rfl ?_
    refine v_getI cx (tk_dc d_M_lose 7 rfl) f_M_221 o_M (by decide) (by rfl) ?_
    refine v_eqi (nI cn) (hM) ?_
    refine v_icmp_lt cx (tk_dc d_M_lose 8 rfl) 19 (by decide) (fun h14 => ?_) (fun h14 => ?_)
    · exact absurd ⟨h6, h14⟩ hb
    · refine v_iconst cx (tk_dc d_M_lose 9 rfl) (0) (by decide) ?_
      exact v_zret cx hB (tk_dc d_M_lose 10 rfl) (by first | exact Or.inl rfl | exact Or.inr rfl | exact b01_01 _ | assumption) (rfl) (rfl)

set_option maxHeartbeats 4000000 in
set_option maxRecDepth 100000 in
theorem c_M_lose {l : Launch} {E : tk_E} {M : tk_M} {cn i : Nat} (hz0 : M.1 172 0 = 0) (hM : M.1 172 38 = nI cn) (hc : cn ≤ 60) (hi : i < cn) : tk_Mt l y_M_lose b_M_lose 2 (some .boolean) 1 E [.ref (E.1 + 172), .int (nI i)] M (m_rem M i cn) (some (.int 1)) := by
  refine tk_ofV (by decide +kernel) [some (.ref (E.1 + 172)), some (.int (nI i))] rfl (Nat.le_of_ble_eq_true rfl) ?_
  intro p e s m args below meth c cx hB
  refine v_aload_n cx (tk_dc d_M_lose 0 rfl) rfl ?_
  refine v_iconst cx (tk_dc d_M_lose 1 rfl) (0) (by decide) ?_
  refine v_putI cx (tk_dc d_M_lose 2 rfl) f_M_120 o_M (by decide) (by rfl) ⟨rfl, rfl⟩ ?_
  refine v_eqM (cz_id hz0) ?_
  refine v_iload_n cx (tk_dc d_M_lose 3 rfl) rfl ?_
  refine v_if_lt cx (tk_dc d_M_lose 4 rfl) 17 (by decide) (fun h => absurd h (nI_pos (by omega))) (fun _ => ?_)
  refine v_iload_n cx (tk_dc d_M_lose 5 rfl) rfl ?_
  refine v_aload_n cx (tk_dc d_M_lose 6 rfl) rfl ?_
  refine v_getI cx (tk_dc d_M_lose 7 rfl) f_M_221 o_M (by decide) (by rfl) ?_
  refine v_eqi (nI cn) (hM) ?_
  refine v_icmp_lt cx (tk_dc d_M_lose 8 rfl) 19 (by decide) (fun _ => ?_) (fun h => absurd (nI_lt hi (by omega)) h)
  refine v_aload_n cx (tk_dc d_M_lose 11 rfl) rfl ?_
  refine v_iload_n cx (tk_dc d_M_lose 12 rfl) rfl ?_
  refine v_callV (rest := _) cx (tk_dc d_M_lose 13 rfl) m_M_242 kn_M_remove kv_M_remove k_M_remove o_M (by decide) rfl (c_M_remove hc hi hM) rfl rfl (Nat.le_of_ble_eq_true rfl) (by decide) ?_
  refine v_iconst cx (tk_dc d_M_lose 14 rfl) (1) (by decide) ?_
  exact v_zret cx hB (tk_dc d_M_lose 15 rfl) (by first | exact Or.inl rfl | exact Or.inr rfl | exact b01_01 _ | assumption) (rfl) (rfl)

set_option maxHeartbeats 4000000 in
set_option maxRecDepth 100000 in
theorem c_M_letters {l : Launch} {E : tk_E} {M : tk_M}  (hz0 : M.1 172 0 = 0)  : tk_Mt l y_M_letters b_M_letters 1 (some .int) 0 E [.ref (E.1 + 172)] M M (some (.int (M.1 172 38))) := by
  refine tk_ofV (by decide +kernel) [some (.ref (E.1 + 172))] rfl (Nat.le_of_ble_eq_true rfl) ?_
  intro p e s m args below meth c cx hB
  refine v_aload_n cx (tk_dc d_M_letters 0 rfl) rfl ?_
  refine v_iconst cx (tk_dc d_M_letters 1 rfl) (0) (by decide) ?_
  refine v_putI cx (tk_dc d_M_letters 2 rfl) f_M_120 o_M (by decide) (by rfl) ⟨rfl, rfl⟩ ?_
  refine v_eqM (cz_id hz0) ?_
  refine v_aload_n cx (tk_dc d_M_letters 3 rfl) rfl ?_
  refine v_getI cx (tk_dc d_M_letters 4 rfl) f_M_221 o_M (by decide) (by rfl) ?_
  exact v_iret cx hB (tk_dc d_M_letters 5 rfl) (rfl) (rfl)

set_option maxHeartbeats 4000000 in
set_option maxRecDepth 100000 in
theorem n_M_letter {l : Launch} {E : tk_E} {M : tk_M} {cn : Nat} {x y : Int32} (hz0 : M.1 172 0 = 0) (hM : M.1 172 38 = nI cn) (hc : cn ≤ 60) (hb : ¬ ((¬ x < 0 ∧ x < nI cn) ∧ ¬ y < 0 ∧ y ≤ 7)) : tk_Mt l y_M_letter b_M_letter 3 (some .int) 0 E [.ref (E.1 + 172), .int (x), .int (y)] M M (some (.int (-1))) := by
  refine tk_ofV (by decide +kernel) [some (.ref (E.1 + 172)), some (.int (x)), some (.int (y))] rfl (Nat.le_of_ble_eq_true rfl) ?_
  intro p e s m args below meth c cx hB
  refine v_aload_n cx (tk_dc d_M_letter 0 rfl) rfl ?_
  refine v_iconst cx (tk_dc d_M_letter 1 rfl) (0) (by decide) ?_
  refine v_putI cx (tk_dc d_M_letter 2 rfl) f_M_120 o_M (by decide) (by rfl) ⟨rfl, rfl⟩ ?_
  refine v_eqM (cz_id hz0) ?_
  refine v_iload_n cx (tk_dc d_M_letter 3 rfl) rfl ?_
  refine v_if_lt cx (tk_dc d_M_letter 4 rfl) 27 (by decide) (fun h6 => ?_) (fun h6 => ?_)
  · refine v_iconst cx (tk_dc d_M_letter 14 rfl) (-1) (by decide) ?_
    refine v_goto cx (tk_dc d_M_letter 15 rfl) 42 (by decide) ?_
    exact v_iret cx hB (tk_dc d_M_letter 24 rfl) (rfl) (rfl)
  · refine v_iload_n cx (tk_dc d_M_letter 5 rfl) rfl ?_
    refine v_aload_n cx (tk_dc d_M_letter 6 rfl) rfl ?_
    refine v_getI cx (tk_dc d_M_letter 7 rfl) f_M_221 o_M (by decide) (by rfl) ?_
    refine v_eqi (nI cn) (hM) ?_
    refine v_icmp_ge cx (tk_dc d_M_letter 8 rfl) 27 (by decide) (fun h14 => ?_) (fun h14 => ?_)
    · refine v_iconst cx (tk_dc d_M_letter 14 rfl) (-1) (by decide) ?_
      refine v_goto cx (tk_dc d_M_letter 15 rfl) 42 (by decide) ?_
      exact v_iret cx hB (tk_dc d_M_letter 24 rfl) (rfl) (rfl)
    · refine v_iload_n cx (tk_dc d_M_letter 9 rfl) rfl ?_
      refine v_if_lt cx (tk_dc d_M_letter 10 rfl) 27 (by decide) (fun h18 => ?_) (fun h18 => ?_)
      · refine v_iconst cx (tk_dc d_M_letter 14 rfl) (-1) (by decide) ?_
        refine v_goto cx (tk_dc d_M_letter 15 rfl) 42 (by decide) ?_
        exact v_iret cx hB (tk_dc d_M_letter 24 rfl) (rfl) (rfl)
      · refine v_iload_n cx (tk_dc d_M_letter 11 rfl) rfl ?_
        refine v_bipush cx (tk_dc d_M_letter 12 rfl) (7) (by decide) ?_
        refine v_icmp_le cx (tk_dc d_M_letter 13 rfl) 31 (by decide) (fun h24 => ?_) (fun h24 => ?_)
        · exact absurd ⟨⟨h6, Int32.not_le.mp h14⟩, h18, h24⟩ hb
        · refine v_iconst cx (tk_dc d_M_letter 14 rfl) (-1) (by decide) ?_
          refine v_goto cx (tk_dc d_M_letter 15 rfl) 42 (by decide) ?_
          exact v_iret cx hB (tk_dc d_M_letter 24 rfl) (rfl) (rfl)

set_option maxHeartbeats 4000000 in
set_option maxRecDepth 100000 in
theorem c_M_letter {l : Launch} {E : tk_E} {M : tk_M} {cn i w : Nat} (hz0 : M.1 172 0 = 0) (hM : M.1 172 38 = nI cn) (hc : cn ≤ 60) (hi : i < cn) (hw : w < 8) : tk_Mt l y_M_letter b_M_letter 3 (some .int) 0 E [.ref (E.1 + 172), .int (nI i), .int (nI w)] M M (some (.int (M.1 208 (8 * i + w)))) := by
  refine tk_ofV (by decide +kernel) [some (.ref (E.1 + 172)), some (.int (nI i)), some (.int (nI w))] rfl (Nat.le_of_ble_eq_true rfl) ?_
  intro p e s m args below meth c cx hB
  refine v_aload_n cx (tk_dc d_M_letter 0 rfl) rfl ?_
  refine v_iconst cx (tk_dc d_M_letter 1 rfl) (0) (by decide) ?_
  refine v_putI cx (tk_dc d_M_letter 2 rfl) f_M_120 o_M (by decide) (by rfl) ⟨rfl, rfl⟩ ?_
  refine v_eqM (cz_id hz0) ?_
  refine v_iload_n cx (tk_dc d_M_letter 3 rfl) rfl ?_
  refine v_if_lt cx (tk_dc d_M_letter 4 rfl) 27 (by decide) (fun h => absurd h (nI_pos (by omega))) (fun _ => ?_)
  refine v_iload_n cx (tk_dc d_M_letter 5 rfl) rfl ?_
  refine v_aload_n cx (tk_dc d_M_letter 6 rfl) rfl ?_
  refine v_getI cx (tk_dc d_M_letter 7 rfl) f_M_221 o_M (by decide) (by rfl) ?_
  refine v_eqi (nI cn) (hM) ?_
  refine v_icmp_ge cx (tk_dc d_M_letter 8 rfl) 27 (by decide) (fun h => absurd h (Int32.not_le.mpr (nI_lt hi (by omega)))) (fun _ => ?_)
  refine v_iload_n cx (tk_dc d_M_letter 9 rfl) rfl ?_
  refine v_if_lt cx (tk_dc d_M_letter 10 rfl) 27 (by decide) (fun h => absurd h (nI_pos (by omega))) (fun _ => ?_)
  refine v_iload_n cx (tk_dc d_M_letter 11 rfl) rfl ?_
  refine v_bipush cx (tk_dc d_M_letter 12 rfl) (7) (by decide) ?_
  refine v_icmp_le cx (tk_dc d_M_letter 13 rfl) 31 (by decide) (fun _ => ?_) (fun h => absurd (nI_le (b := 7) (by omega) (by decide)) h)
  refine v_aload_n cx (tk_dc d_M_letter 16 rfl) rfl ?_
  refine v_getC cx 208 (tk_dc d_M_letter 17 rfl) f_M_117 o_M (by decide) (by rfl) ?_
  refine v_bipush cx (tk_dc d_M_letter 18 rfl) (8) (by decide) ?_
  refine v_iload_n cx (tk_dc d_M_letter 19 rfl) rfl ?_
  refine v_imul cx (tk_dc d_M_letter 20 rfl) ?_
  refine v_iload_n cx (tk_dc d_M_letter 21 rfl) rfl ?_
  refine v_iadd cx (tk_dc d_M_letter 22 rfl) ?_
  refine w_iald cx (tk_dc d_M_letter 23 rfl) a_208 (8 * i + w) (by rw [show (8 : Int32) = nI 8 from rfl, pk_mul, nI_add]) (by omega) (by decide) ?_
  exact v_iret cx hB (tk_dc d_M_letter 24 rfl) (rfl) (rfl)

def m_cpy (M : tk_M) (i c t : Nat) : tk_M := (fun a b => if a = 208 ∧ 8 * c ≤ b ∧ b < 8 * c + t then M.1 208 (b - 8 * c + 8 * i) else M.1 a b, M.2)
theorem m_cpy_0 (M : tk_M) (i c : Nat) : m_cpy M i c 0 = M := by
  refine Prod.ext ?_ rfl
  funext a b
  show (if a = 208 ∧ 8 * c ≤ b ∧ b < 8 * c + 0 then M.1 208 (b - 8 * c + 8 * i) else M.1 a b) = M.1 a b
  rw [if_neg (by omega)]
theorem m_cpy_s {M : tk_M} {i c t : Nat} : wI (m_cpy M i c t) 208 (8 * c + t) (M.1 208 (8 * i + t)) = m_cpy M i c (t + 1) := by
  refine Prod.ext ?_ rfl
  funext a b
  show (if a = 208 ∧ b = 8 * c + t then M.1 208 (8 * i + t) else if a = 208 ∧ 8 * c ≤ b ∧ b < 8 * c + t then M.1 208 (b - 8 * c + 8 * i) else M.1 a b) = if a = 208 ∧ 8 * c ≤ b ∧ b < 8 * c + (t + 1) then M.1 208 (b - 8 * c + 8 * i) else M.1 a b
  by_cases g : a = 208 ∧ b = 8 * c + t
  · rw [if_pos g, if_pos (by omega), g.2, show 8 * c + t - 8 * c + 8 * i = 8 * i + t by omega]
  · rw [if_neg g]
    by_cases g2 : a = 208 ∧ 8 * c ≤ b ∧ b < 8 * c + t
    · rw [if_pos g2, if_pos (by omega)]
    · rw [if_neg g2, if_neg (by omega)]
theorem m_cpy_at {M : tk_M} {i c t a b : Nat} (h : a ≠ 208 ∨ b < 8 * c) : (m_cpy M i c t).1 a b = M.1 a b := by
  show (if a = 208 ∧ 8 * c ≤ b ∧ b < 8 * c + t then M.1 208 (b - 8 * c + 8 * i) else M.1 a b) = M.1 a b
  rw [if_neg (by omega)]
theorem m_cpy_8 (M : tk_M) (i c : Nat) : m_cpy M i c 8 = m_let M c [M.1 208 (8 * i), M.1 208 (8 * i + 1), M.1 208 (8 * i + 2), M.1 208 (8 * i + 3), M.1 208 (8 * i + 4), M.1 208 (8 * i + 5), M.1 208 (8 * i + 6), M.1 208 (8 * i + 7)] := by
  unfold m_cpy m_let
  congr 1
  funext a b
  by_cases g : a = 208 ∧ 8 * c ≤ b ∧ b < 8 * c + 8
  · rw [if_pos g, if_pos g]
    obtain ⟨q, rfl⟩ : ∃ q, b = 8 * c + q := ⟨b - 8 * c, by omega⟩
    rw [show 8 * c + q - 8 * c = q by omega]
    rcases (show q = 0 ∨ q = 1 ∨ q = 2 ∨ q = 3 ∨ q = 4 ∨ q = 5 ∨ q = 6 ∨ q = 7 by omega) with rfl | rfl | rfl | rfl | rfl | rfl | rfl | rfl <;> simp [Nat.add_comm]
  · rw [if_neg g, if_neg g]
set_option maxHeartbeats 4000000 in
set_option maxRecDepth 100000 in
theorem n_M_twin {l : Launch} {E : tk_E} {M : tk_M} {cn : Nat} {x : Int32} (hz0 : M.1 172 0 = 0) (hM : M.1 172 38 = nI cn) (hc : cn ≤ 60) (hb : ¬ ((¬ x < 0 ∧ x < nI cn) ∧ cn < 60)) : tk_Mt l y_M_twin b_M_twin 3 (some .boolean) 0 E [.ref (E.1 + 172), .int (x)] M M (some (.int 0)) := by
  refine tk_ofV (by decide +kernel) [some (.ref (E.1 + 172)), some (.int (x)), none] rfl (Nat.le_of_ble_eq_true rfl) ?_
  intro p e s m args below meth c cx hB
  refine v_aload_n cx (tk_dc d_M_twin 0 rfl) rfl ?_
  refine v_iconst cx (tk_dc d_M_twin 1 rfl) (0) (by decide) ?_
  refine v_putI cx (tk_dc d_M_twin 2 rfl) f_M_120 o_M (by decide) (by rfl) ⟨rfl, rfl⟩ ?_
  refine v_eqM (cz_id hz0) ?_
  refine v_iload_n cx (tk_dc d_M_twin 3 rfl) rfl ?_
  refine v_if_lt cx (tk_dc d_M_twin 4 rfl) 26 (by decide) (fun h6 => ?_) (fun h6 => ?_)
  · refine v_iconst cx (tk_dc d_M_twin 13 rfl) (0) (by decide) ?_
    exact v_zret cx hB (tk_dc d_M_twin 14 rfl) (by first | exact Or.inl rfl | exact Or.inr rfl | exact b01_01 _ | assumption) (rfl) (rfl)
  · refine v_iload_n cx (tk_dc d_M_twin 5 rfl) rfl ?_
    refine v_aload_n cx (tk_dc d_M_twin 6 rfl) rfl ?_
    refine v_getI cx (tk_dc d_M_twin 7 rfl) f_M_221 o_M (by decide) (by rfl) ?_
    refine v_eqi (nI cn) (hM) ?_
    refine v_icmp_ge cx (tk_dc d_M_twin 8 rfl) 26 (by decide) (fun h14 => ?_) (fun h14 => ?_)
    · refine v_iconst cx (tk_dc d_M_twin 13 rfl) (0) (by decide) ?_
      exact v_zret cx hB (tk_dc d_M_twin 14 rfl) (by first | exact Or.inl rfl | exact Or.inr rfl | exact b01_01 _ | assumption) (rfl) (rfl)
    · refine v_aload_n cx (tk_dc d_M_twin 9 rfl) rfl ?_
      refine v_getI cx (tk_dc d_M_twin 10 rfl) f_M_221 o_M (by decide) (by rfl) ?_
      refine v_eqi (nI cn) (hM) ?_
      refine v_bipush cx (tk_dc d_M_twin 11 rfl) (60) (by decide) ?_
      refine v_icmp_ne cx (tk_dc d_M_twin 12 rfl) 28 (by decide) (fun h23 => ?_) (fun h23 => ?_)
      · exact absurd ⟨⟨h6, Int32.not_le.mp h14⟩, by rcases Nat.lt_or_ge cn 60 with w | w; (exact w); exact absurd (by rw [show cn = 60 by omega]; rfl) h23⟩ hb
      · refine v_iconst cx (tk_dc d_M_twin 13 rfl) (0) (by decide) ?_
        exact v_zret cx hB (tk_dc d_M_twin 14 rfl) (by first | exact Or.inl rfl | exact Or.inr rfl | exact b01_01 _ | assumption) (rfl) (rfl)

set_option maxHeartbeats 4000000 in
set_option maxRecDepth 100000 in
theorem c_M_twin {l : Launch} {E : tk_E} {M : tk_M} {cn i : Nat} (hz0 : M.1 172 0 = 0) (hM : M.1 172 38 = nI cn) (hc : cn ≤ 60) (hi : i < cn) (hc6 : cn < 60) : tk_Mt l y_M_twin b_M_twin 3 (some .boolean) 0 E [.ref (E.1 + 172), .int (nI i)] M (wI (m_cpy M i cn 8) 172 38 (nI (cn + 1))) (some (.int 1)) := by
  refine tk_ofV (by decide +kernel) [some (.ref (E.1 + 172)), some (.int (nI i)), none] rfl (Nat.le_of_ble_eq_true rfl) ?_
  intro p e s m args below meth c cx hB
  have loop : ∀ (r t : Nat), t + r = 8 → tk_V p l e (tk_rm 0 0 0) s m args below meth c (MQ below (tk_Q E 209 (tk_ct E (wI (m_cpy M i cn 8) 172 38 (nI (cn + 1)))) (some (.int 1))) args s 0 0 (tk_A E)) E 3 209 (tk_ct E (m_cpy M i cn t)) 0 0 30 [some (.ref (E.1 + 172)), some (.int (nI i)), some (.int (nI t))] [] := by
    intro r
    induction r with
    | zero =>
      intro t ht
      have : t = 8 := by omega
      subst this
      refine v_iload_n cx (tk_dc d_M_twin 17 rfl) rfl ?_
      refine v_bipush cx (tk_dc d_M_twin 18 rfl) (8) (by decide) ?_
      refine v_icmp_ge cx (tk_dc d_M_twin 19 rfl) 67 (by decide) (fun _ => ?_) (fun h => absurd (by decide) h)
      refine v_aload_n cx (tk_dc d_M_twin 39 rfl) rfl ?_
      refine v_dup cx (tk_dc d_M_twin 40 rfl) rfl ?_
      refine v_getI cx (tk_dc d_M_twin 41 rfl) f_M_221 o_M (by decide) (by rfl) ?_
      refine v_eqi (nI cn) (by rw [m_cpy_at (Or.inl (by decide))]; exact hM) ?_
      refine v_iconst cx (tk_dc d_M_twin 42 rfl) (1) (by decide) ?_
      refine v_iadd cx (tk_dc d_M_twin 43 rfl) ?_
      refine v_eqi (nI (cn + 1)) ((nI_succ cn).symm) ?_
      refine v_putI cx (tk_dc d_M_twin 44 rfl) f_M_221 o_M (by decide) (by rfl) ⟨rfl, rfl⟩ ?_
      refine v_iconst cx (tk_dc d_M_twin 45 rfl) (1) (by decide) ?_
      exact v_zret cx hB (tk_dc d_M_twin 46 rfl) (by first | exact Or.inl rfl | exact Or.inr rfl | exact b01_01 _ | assumption) (rfl) (rfl)
    | succ r ih =>
      intro t ht
      refine v_iload_n cx (tk_dc d_M_twin 17 rfl) rfl ?_
      refine v_bipush cx (tk_dc d_M_twin 18 rfl) (8) (by decide) ?_
      refine v_icmp_ge cx (tk_dc d_M_twin 19 rfl) 67 (by decide) (fun h => absurd h (Int32.not_le.mpr (nI_lt (b := 8) (by omega) (by decide)))) (fun _ => ?_)
      refine v_aload_n cx (tk_dc d_M_twin 20 rfl) rfl ?_
      refine v_getC cx 208 (tk_dc d_M_twin 21 rfl) f_M_117 o_M (by decide) (by rfl) ?_
      refine v_bipush cx (tk_dc d_M_twin 22 rfl) (8) (by decide) ?_
      refine v_aload_n cx (tk_dc d_M_twin 23 rfl) rfl ?_
      refine v_getI cx (tk_dc d_M_twin 24 rfl) f_M_221 o_M (by decide) (by rfl) ?_
      refine v_eqi (nI cn) (by rw [m_cpy_at (Or.inl (by decide))]; exact hM) ?_
      refine v_imul cx (tk_dc d_M_twin 25 rfl) ?_
      refine v_iload_n cx (tk_dc d_M_twin 26 rfl) rfl ?_
      refine v_iadd cx (tk_dc d_M_twin 27 rfl) ?_
      refine v_aload_n cx (tk_dc d_M_twin 28 rfl) rfl ?_
      refine v_getC cx 208 (tk_dc d_M_twin 29 rfl) f_M_117 o_M (by decide) (by rfl) ?_
      refine v_bipush cx (tk_dc d_M_twin 30 rfl) (8) (by decide) ?_
      refine v_iload_n cx (tk_dc d_M_twin 31 rfl) rfl ?_
      refine v_imul cx (tk_dc d_M_twin 32 rfl) ?_
      refine v_iload_n cx (tk_dc d_M_twin 33 rfl) rfl ?_
      refine v_iadd cx (tk_dc d_M_twin 34 rfl) ?_
      refine w_iald cx (tk_dc d_M_twin 35 rfl) a_208 (8 * i + t) (by rw [show (8 : Int32) = nI 8 from rfl, pk_mul, nI_add]) (by omega) (by decide) ?_
      refine v_eqi (M.1 208 (8 * i + t)) (m_cpy_at (Or.inr (by omega))) ?_
      refine w_iast cx (tk_dc d_M_twin 36 rfl) a_208 (8 * cn + t) (by rw [show (8 : Int32) = nI 8 from rfl, pk_mul, nI_add]) (by omega) (by decide) ?_
      refine v_iinc (lo' := [_, _, _]) cx (tk_dc d_M_twin 37 rfl) rfl (nI (t + 1)) ((nI_succ t).symm) (by decide) rfl ?_
      refine v_goto cx (tk_dc d_M_twin 38 rfl) 30 (by decide) ?_
      exact v_eqM m_cpy_s (ih (t + 1) (by omega))
  have h0 := loop 8 0 rfl
  rw [m_cpy_0] at h0
  refine v_aload_n cx (tk_dc d_M_twin 0 rfl) rfl ?_
  refine v_iconst cx (tk_dc d_M_twin 1 rfl) (0) (by decide) ?_
  refine v_putI cx (tk_dc d_M_twin 2 rfl) f_M_120 o_M (by decide) (by rfl) ⟨rfl, rfl⟩ ?_
  refine v_eqM (cz_id hz0) ?_
  refine v_iload_n cx (tk_dc d_M_twin 3 rfl) rfl ?_
  refine v_if_lt cx (tk_dc d_M_twin 4 rfl) 26 (by decide) (fun h => absurd h (nI_pos (by omega))) (fun _ => ?_)
  refine v_iload_n cx (tk_dc d_M_twin 5 rfl) rfl ?_
  refine v_aload_n cx (tk_dc d_M_twin 6 rfl) rfl ?_
  refine v_getI cx (tk_dc d_M_twin 7 rfl) f_M_221 o_M (by decide) (by rfl) ?_
  refine v_eqi (nI cn) (hM) ?_
  refine v_icmp_ge cx (tk_dc d_M_twin 8 rfl) 26 (by decide) (fun h => absurd h (Int32.not_le.mpr (nI_lt hi (by omega)))) (fun _ => ?_)
  refine v_aload_n cx (tk_dc d_M_twin 9 rfl) rfl ?_
  refine v_getI cx (tk_dc d_M_twin 10 rfl) f_M_221 o_M (by decide) (by rfl) ?_
  refine v_eqi (nI cn) (hM) ?_
  refine v_bipush cx (tk_dc d_M_twin 11 rfl) (60) (by decide) ?_
  refine v_icmp_ne cx (tk_dc d_M_twin 12 rfl) 28 (by decide) (fun _ => ?_) (fun h => absurd h (fun w => absurd (nI_inj (b := 60) (by omega) (by decide) w) (by omega)))
  refine v_iconst cx (tk_dc d_M_twin 15 rfl) (0) (by decide) ?_
  refine v_istore_n (lo' := [_, _, _]) cx (tk_dc d_M_twin 16 rfl) (by decide) rfl ?_
  exact h0

set_option maxHeartbeats 4000000 in
set_option maxRecDepth 100000 in
theorem n_M_register {l : Launch} {E : tk_E} {M : tk_M} {x y w : Int32} (hz0 : M.1 172 0 = 0) (hb : ¬ ((¬ x < 0 ∧ x < 3) ∧ ¬ y < 0 ∧ y < 8)) : tk_Mt l y_M_register b_M_register 5 (some .int) 1 E [.ref (E.1 + 172), .int (x), .int (y), .int (w)] M M (some (.int (-1))) := by
  refine tk_ofV (by decide +kernel) [some (.ref (E.1 + 172)), some (.int (x)), some (.int (y)), some (.int (w)), none] rfl (Nat.le_of_ble_eq_true rfl) ?_
  intro p e s m args below meth c cx hB
  refine v_aload_n cx (tk_dc d_M_register 0 rfl) rfl ?_
  refine v_iconst cx (tk_dc d_M_register 1 rfl) (0) (by decide) ?_
  refine v_putI cx (tk_dc d_M_register 2 rfl) f_M_120 o_M (by decide) (by rfl) ⟨rfl, rfl⟩ ?_
  refine v_eqM (cz_id hz0) ?_
  refine v_iload_n cx (tk_dc d_M_register 3 rfl) rfl ?_
  refine v_if_lt cx (tk_dc d_M_register 4 rfl) 21 (by decide) (fun h6 => ?_) (fun h6 => ?_)
  · refine v_iconst cx (tk_dc d_M_register 11 rfl) (-1) (by decide) ?_
    exact v_iret cx hB (tk_dc d_M_register 12 rfl) (rfl) (rfl)
  · refine v_iload_n cx (tk_dc d_M_register 5 rfl) rfl ?_
    refine v_iconst cx (tk_dc d_M_register 6 rfl) (3) (by decide) ?_
    refine v_icmp_ge cx (tk_dc d_M_register 7 rfl) 21 (by decide) (fun h11 => ?_) (fun h11 => ?_)
    · refine v_iconst cx (tk_dc d_M_register 11 rfl) (-1) (by decide) ?_
      exact v_iret cx hB (tk_dc d_M_register 12 rfl) (rfl) (rfl)
    · refine v_iload_n cx (tk_dc d_M_register 8 rfl) rfl ?_
      refine v_callS (rest := _) cx (tk_dc d_M_register 9 rfl) m_M_144 ks_M_isJob k_M_isJob (c_M_isJob) rfl rfl (Nat.le_of_ble_eq_true rfl) (by decide) ?_
      refine v_if_ne cx (tk_dc d_M_register 10 rfl) 23 (by decide) (fun h18 => ?_) (fun h18 => ?_)
      · exact absurd ⟨⟨h6, Int32.not_le.mp h11⟩, of_decide_eq_true (b01_nz h18)⟩ hb
      · refine v_iconst cx (tk_dc d_M_register 11 rfl) (-1) (by decide) ?_
        exact v_iret cx hB (tk_dc d_M_register 12 rfl) (rfl) (rfl)

set_option maxHeartbeats 4000000 in
set_option maxRecDepth 100000 in
theorem c_M_register {l : Launch} {E : tk_E} {M : tk_M} {x j : Nat} {w : Int32} (hz0 : M.1 172 0 = 0) (hx : x < 3) (hj : j < 8) : tk_Mt l y_M_register b_M_register 5 (some .int) 1 E [.ref (E.1 + 172), .int (nI x), .int (nI j), .int (w)] M M (some (.int (m_reg M (8 * x + j) w))) := by
  refine tk_ofV (by decide +kernel) [some (.ref (E.1 + 172)), some (.int (nI x)), some (.int (nI j)), some (.int (w)), none] rfl (Nat.le_of_ble_eq_true rfl) ?_
  intro p e s m args below meth c cx hB
  refine v_aload_n cx (tk_dc d_M_register 0 rfl) rfl ?_
  refine v_iconst cx (tk_dc d_M_register 1 rfl) (0) (by decide) ?_
  refine v_putI cx (tk_dc d_M_register 2 rfl) f_M_120 o_M (by decide) (by rfl) ⟨rfl, rfl⟩ ?_
  refine v_eqM (cz_id hz0) ?_
  refine v_iload_n cx (tk_dc d_M_register 3 rfl) rfl ?_
  refine v_if_lt cx (tk_dc d_M_register 4 rfl) 21 (by decide) (fun h => absurd h (nI_pos (by omega))) (fun _ => ?_)
  refine v_iload_n cx (tk_dc d_M_register 5 rfl) rfl ?_
  refine v_iconst cx (tk_dc d_M_register 6 rfl) (3) (by decide) ?_
  refine v_icmp_ge cx (tk_dc d_M_register 7 rfl) 21 (by decide) (fun h => absurd h (Int32.not_le.mpr (nI_lt (b := 3) hx (by decide)))) (fun _ => ?_)
  refine v_iload_n cx (tk_dc d_M_register 8 rfl) rfl ?_
  refine v_callS (rest := _) cx (tk_dc d_M_register 9 rfl) m_M_144 ks_M_isJob k_M_isJob (c_M_isJob) rfl rfl (Nat.le_of_ble_eq_true rfl) (by decide) ?_
  refine v_if_ne cx (tk_dc d_M_register 10 rfl) 23 (by decide) (fun _ => ?_) (fun h => absurd h (b01_d (inN (n := 8) (by decide) hj)))
  refine v_bipush cx (tk_dc d_M_register 13 rfl) (8) (by decide) ?_
  refine v_iload_n cx (tk_dc d_M_register 14 rfl) rfl ?_
  refine v_imul cx (tk_dc d_M_register 15 rfl) ?_
  refine v_iload_n cx (tk_dc d_M_register 16 rfl) rfl ?_
  refine v_iadd cx (tk_dc d_M_register 17 rfl) ?_
  refine v_eqi (nI (8 * x + j)) (by rw [show (8 : Int32) = nI 8 from rfl, pk_mul, nI_add]) ?_
  refine v_istore (lo' := [_, _, _, _, _]) cx (tk_dc d_M_register 18 rfl) (by decide) rfl ?_
  refine v_iload_n cx (tk_dc d_M_register 19 rfl) rfl ?_
  rcases pk_ix w (n := 8) (by decide) with hsw | hsw | ⟨jsw, hj, hsw⟩
  · refine v_tout cx (tk_dc d_M_register 20 rfl) 144 (Or.inl (tk_neg hsw)) (by decide) ?_
    refine v_iconst cx (tk_dc d_M_register 61 rfl) (-1) (by decide) ?_
    exact v_iret cx hB (tk_dc d_M_register 62 rfl) (by first | rfl | (unfold m_reg; rw [if_pos hsw]; done) | (unfold m_reg; rw [if_pos hsw]; split <;> rfl)) (rfl)
  · refine v_tout cx (tk_dc d_M_register 20 rfl) 144 (Or.inr (tk_big hsw (by decide))) (by decide) ?_
    refine v_iconst cx (tk_dc d_M_register 61 rfl) (-1) (by decide) ?_
    exact v_iret cx hB (tk_dc d_M_register 62 rfl) (by first | rfl | (unfold m_reg; rw [if_pos hsw]; done) | (unfold m_reg; rw [if_pos hsw]; split <;> rfl)) (rfl)
  · rcases (show jsw = 0 ∨ jsw = 1 ∨ jsw = 2 ∨ jsw = 3 ∨ jsw = 4 ∨ jsw = 5 ∨ jsw = 6 ∨ jsw = 7 by omega) with rfl | rfl | rfl | rfl | rfl | rfl | rfl | rfl <;> subst hsw
    · refine v_tin cx (tk_dc d_M_register 20 rfl) 80 (by decide) (by decide) rfl (by decide) ?_
      refine v_aload_n cx (tk_dc d_M_register 21 rfl) rfl ?_
      refine v_getC cx 195 (tk_dc d_M_register 22 rfl) f_M_78 o_M (by decide) (by rfl) ?_
      refine v_iload cx (tk_dc d_M_register 23 rfl) rfl ?_
      refine w_iald cx (tk_dc d_M_register 24 rfl) a_195 (8 * x + j) (rfl) (by omega) (by decide) ?_
      exact v_iret cx hB (tk_dc d_M_register 25 rfl) (by first | rfl | (unfold m_reg; rw [if_pos hsw]; done) | (unfold m_reg; rw [if_pos hsw]; split <;> rfl)) (rfl)
    · refine v_tin cx (tk_dc d_M_register 20 rfl) 88 (by decide) (by decide) rfl (by decide) ?_
      refine v_aload_n cx (tk_dc d_M_register 26 rfl) rfl ?_
      refine v_getC cx 196 (tk_dc d_M_register 27 rfl) f_M_81 o_M (by decide) (by rfl) ?_
      refine v_iload cx (tk_dc d_M_register 28 rfl) rfl ?_
      refine w_iald cx (tk_dc d_M_register 29 rfl) a_196 (8 * x + j) (rfl) (by omega) (by decide) ?_
      exact v_iret cx hB (tk_dc d_M_register 30 rfl) (by first | rfl | (unfold m_reg; rw [if_pos hsw]; done) | (unfold m_reg; rw [if_pos hsw]; split <;> rfl)) (rfl)
    · refine v_tin cx (tk_dc d_M_register 20 rfl) 96 (by decide) (by decide) rfl (by decide) ?_
      refine v_aload_n cx (tk_dc d_M_register 31 rfl) rfl ?_
      refine v_getC cx 197 (tk_dc d_M_register 32 rfl) f_M_84 o_M (by decide) (by rfl) ?_
      refine v_iload cx (tk_dc d_M_register 33 rfl) rfl ?_
      refine w_iald cx (tk_dc d_M_register 34 rfl) a_197 (8 * x + j) (rfl) (by omega) (by decide) ?_
      exact v_iret cx hB (tk_dc d_M_register 35 rfl) (by first | rfl | (unfold m_reg; rw [if_pos hsw]; done) | (unfold m_reg; rw [if_pos hsw]; split <;> rfl)) (rfl)
    · refine v_tin cx (tk_dc d_M_register 20 rfl) 104 (by decide) (by decide) rfl (by decide) ?_
      refine v_aload_n cx (tk_dc d_M_register 36 rfl) rfl ?_
      refine v_getC cx 198 (tk_dc d_M_register 37 rfl) f_M_87 o_M (by decide) (by rfl) ?_
      refine v_iload cx (tk_dc d_M_register 38 rfl) rfl ?_
      refine w_iald cx (tk_dc d_M_register 39 rfl) a_198 (8 * x + j) (rfl) (by omega) (by decide) ?_
      exact v_iret cx hB (tk_dc d_M_register 40 rfl) (by first | rfl | (unfold m_reg; rw [if_pos hsw]; done) | (unfold m_reg; rw [if_pos hsw]; split <;> rfl)) (rfl)
    · refine v_tin cx (tk_dc d_M_register 20 rfl) 112 (by decide) (by decide) rfl (by decide) ?_
      refine v_aload_n cx (tk_dc d_M_register 41 rfl) rfl ?_
      refine v_getC cx 199 (tk_dc d_M_register 42 rfl) f_M_90 o_M (by decide) (by rfl) ?_
      refine v_iload cx (tk_dc d_M_register 43 rfl) rfl ?_
      refine w_iald cx (tk_dc d_M_register 44 rfl) a_199 (8 * x + j) (rfl) (by omega) (by decide) ?_
      exact v_iret cx hB (tk_dc d_M_register 45 rfl) (by first | rfl | (unfold m_reg; rw [if_pos hsw]; done) | (unfold m_reg; rw [if_pos hsw]; split <;> rfl)) (rfl)
    · refine v_tin cx (tk_dc d_M_register 20 rfl) 120 (by decide) (by decide) rfl (by decide) ?_
      refine v_aload_n cx (tk_dc d_M_register 46 rfl) rfl ?_
      refine v_getC cx 200 (tk_dc d_M_register 47 rfl) f_M_93 o_M (by decide) (by rfl) ?_
      refine v_iload cx (tk_dc d_M_register 48 rfl) rfl ?_
      refine w_iald cx (tk_dc d_M_register 49 rfl) a_200 (8 * x + j) (rfl) (by omega) (by decide) ?_
      exact v_iret cx hB (tk_dc d_M_register 50 rfl) (by first | rfl | (unfold m_reg; rw [if_pos hsw]; done) | (unfold m_reg; rw [if_pos hsw]; split <;> rfl)) (rfl)
    · refine v_tin cx (tk_dc d_M_register 20 rfl) 128 (by decide) (by decide) rfl (by decide) ?_
      refine v_aload_n cx (tk_dc d_M_register 51 rfl) rfl ?_
      refine v_getC cx 201 (tk_dc d_M_register 52 rfl) f_M_96 o_M (by decide) (by rfl) ?_
      refine v_iload cx (tk_dc d_M_register 53 rfl) rfl ?_
      refine w_iald cx (tk_dc d_M_register 54 rfl) a_201 (8 * x + j) (rfl) (by omega) (by decide) ?_
      exact v_iret cx hB (tk_dc d_M_register 55 rfl) (by first | rfl | (unfold m_reg; rw [if_pos hsw]; done) | (unfold m_reg; rw [if_pos hsw]; split <;> rfl)) (rfl)
    · refine v_tin cx (tk_dc d_M_register 20 rfl) 136 (by decide) (by decide) rfl (by decide) ?_
      refine v_aload_n cx (tk_dc d_M_register 56 rfl) rfl ?_
      refine v_getC cx 202 (tk_dc d_M_register 57 rfl) f_M_99 o_M (by decide) (by rfl) ?_
      refine v_iload cx (tk_dc d_M_register 58 rfl) rfl ?_
      refine w_iald cx (tk_dc d_M_register 59 rfl) a_202 (8 * x + j) (rfl) (by omega) (by decide) ?_
      exact v_iret cx hB (tk_dc d_M_register 60 rfl) (by first | rfl | (unfold m_reg; rw [if_pos hsw]; done) | (unfold m_reg; rw [if_pos hsw]; split <;> rfl)) (rfl)

set_option maxHeartbeats 4000000 in
set_option maxRecDepth 100000 in
theorem n_M_effects {l : Launch} {E : tk_E} {M : tk_M} {x : Int32} (hz0 : M.1 172 0 = 0) (hb : ¬ (¬ x < 0 ∧ x < 8)) : tk_Mt l y_M_effects b_M_effects 2 (some .int) 1 E [.ref (E.1 + 172), .int (x)] M M (some (.int (-1))) := by
  refine tk_ofV (by decide +kernel) [some (.ref (E.1 + 172)), some (.int (x))] rfl (Nat.le_of_ble_eq_true rfl) ?_
  intro p e s m args below meth c cx hB
  refine v_aload_n cx (tk_dc d_M_effects 0 rfl) rfl ?_
  refine v_iconst cx (tk_dc d_M_effects 1 rfl) (0) (by decide) ?_
  refine v_putI cx (tk_dc d_M_effects 2 rfl) f_M_120 o_M (by decide) (by rfl) ⟨rfl, rfl⟩ ?_
  refine v_eqM (cz_id hz0) ?_
  refine v_iload_n cx (tk_dc d_M_effects 3 rfl) rfl ?_
  refine v_callS (rest := _) cx (tk_dc d_M_effects 4 rfl) m_M_144 ks_M_isJob k_M_isJob (c_M_isJob) rfl rfl (Nat.le_of_ble_eq_true rfl) (by decide) ?_
  refine v_if_eq cx (tk_dc d_M_effects 5 rfl) 21 (by decide) (fun _ => ?_) (fun h => absurd (by rw [decide_eq_false hb]; rfl) h)
  refine v_iconst cx (tk_dc d_M_effects 11 rfl) (-1) (by decide) ?_
  exact v_iret cx hB (tk_dc d_M_effects 12 rfl) (rfl) (rfl)

set_option maxHeartbeats 4000000 in
set_option maxRecDepth 100000 in
theorem c_M_effects {l : Launch} {E : tk_E} {M : tk_M} {j : Nat} (hz0 : M.1 172 0 = 0) (hj : j < 8) : tk_Mt l y_M_effects b_M_effects 2 (some .int) 1 E [.ref (E.1 + 172), .int (nI j)] M M (some (.int (M.1 205 j))) := by
  refine tk_ofV (by decide +kernel) [some (.ref (E.1 + 172)), some (.int (nI j))] rfl (Nat.le_of_ble_eq_true rfl) ?_
  intro p e s m args below meth c cx hB
  refine v_aload_n cx (tk_dc d_M_effects 0 rfl) rfl ?_
  refine v_iconst cx (tk_dc d_M_effects 1 rfl) (0) (by decide) ?_
  refine v_putI cx (tk_dc d_M_effects 2 rfl) f_M_120 o_M (by decide) (by rfl) ⟨rfl, rfl⟩ ?_
  refine v_eqM (cz_id hz0) ?_
  refine v_iload_n cx (tk_dc d_M_effects 3 rfl) rfl ?_
  refine v_callS (rest := _) cx (tk_dc d_M_effects 4 rfl) m_M_144 ks_M_isJob k_M_isJob (c_M_isJob) rfl rfl (Nat.le_of_ble_eq_true rfl) (by decide) ?_
  refine v_if_eq cx (tk_dc d_M_effects 5 rfl) 21 (by decide) (fun h => absurd h (b01_d (inN (n := 8) (by decide) hj))) (fun _ => ?_)
  refine v_aload_n cx (tk_dc d_M_effects 6 rfl) rfl ?_
  refine v_getC cx 205 (tk_dc d_M_effects 7 rfl) f_M_108 o_M (by decide) (by rfl) ?_
  refine v_iload_n cx (tk_dc d_M_effects 8 rfl) rfl ?_
  refine w_iald cx (tk_dc d_M_effects 9 rfl) a_205 j (rfl) (by omega) (by decide) ?_
  refine v_goto cx (tk_dc d_M_effects 10 rfl) 22 (by decide) ?_
  exact v_iret cx hB (tk_dc d_M_effects 12 rfl) (rfl) (rfl)

set_option maxHeartbeats 4000000 in
set_option maxRecDepth 100000 in
theorem n_M_effectj {l : Launch} {E : tk_E} {M : tk_M} {x y w : Int32} (hz0 : M.1 172 0 = 0) (hb : ¬ (¬ x < 0 ∧ x < 8)) : tk_Mt l y_M_effect b_M_effect 4 (some .int) 1 E [.ref (E.1 + 172), .int (x), .int (y), .int (w)] M M (some (.int (-1))) := by
  refine tk_ofV (by decide +kernel) [some (.ref (E.1 + 172)), some (.int (x)), some (.int (y)), some (.int (w))] rfl (Nat.le_of_ble_eq_true rfl) ?_
  intro p e s m args below meth c cx hB
  refine v_aload_n cx (tk_dc d_M_effect 0 rfl) rfl ?_
  refine v_iconst cx (tk_dc d_M_effect 1 rfl) (0) (by decide) ?_
  refine v_putI cx (tk_dc d_M_effect 2 rfl) f_M_120 o_M (by decide) (by rfl) ⟨rfl, rfl⟩ ?_
  refine v_eqM (cz_id hz0) ?_
  refine v_iload_n cx (tk_dc d_M_effect 3 rfl) rfl ?_
  refine v_callS (rest := _) cx (tk_dc d_M_effect 4 rfl) m_M_144 ks_M_isJob k_M_isJob (c_M_isJob) rfl rfl (Nat.le_of_ble_eq_true rfl) (by decide) ?_
  refine v_if_eq cx (tk_dc d_M_effect 5 rfl) 26 (by decide) (fun _ => ?_) (fun h => absurd (by rw [decide_eq_false hb]; rfl) h)
  refine v_iconst cx (tk_dc d_M_effect 14 rfl) (-1) (by decide) ?_
  exact v_iret cx hB (tk_dc d_M_effect 15 rfl) (rfl) (rfl)

set_option maxHeartbeats 4000000 in
set_option maxRecDepth 100000 in
theorem n_M_effect {l : Launch} {E : tk_E} {M : tk_M} {j k : Nat} {y w : Int32} (hz0 : M.1 172 0 = 0) (hj : j < 8) (hk : M.1 205 j = nI k) (hb : ¬ (¬ y < 0 ∧ y < nI k)) : tk_Mt l y_M_effect b_M_effect 4 (some .int) 1 E [.ref (E.1 + 172), .int (nI j), .int (y), .int (w)] M M (some (.int (-1))) := by
  refine tk_ofV (by decide +kernel) [some (.ref (E.1 + 172)), some (.int (nI j)), some (.int (y)), some (.int (w))] rfl (Nat.le_of_ble_eq_true rfl) ?_
  intro p e s m args below meth c cx hB
  refine v_aload_n cx (tk_dc d_M_effect 0 rfl) rfl ?_
  refine v_iconst cx (tk_dc d_M_effect 1 rfl) (0) (by decide) ?_
  refine v_putI cx (tk_dc d_M_effect 2 rfl) f_M_120 o_M (by decide) (by rfl) ⟨rfl, rfl⟩ ?_
  refine v_eqM (cz_id hz0) ?_
  refine v_iload_n cx (tk_dc d_M_effect 3 rfl) rfl ?_
  refine v_callS (rest := _) cx (tk_dc d_M_effect 4 rfl) m_M_144 ks_M_isJob k_M_isJob (c_M_isJob) rfl rfl (Nat.le_of_ble_eq_true rfl) (by decide) ?_
  refine v_if_eq cx (tk_dc d_M_effect 5 rfl) 26 (by decide) (fun h => absurd h (b01_d (inN (n := 8) (by decide) hj))) (fun _ => ?_)
  refine v_iload_n cx (tk_dc d_M_effect 6 rfl) rfl ?_
  refine v_if_lt cx (tk_dc d_M_effect 7 rfl) 26 (by decide) (fun h13 => ?_) (fun h13 => ?_)
  · refine v_iconst cx (tk_dc d_M_effect 14 rfl) (-1) (by decide) ?_
    exact v_iret cx hB (tk_dc d_M_effect 15 rfl) (rfl) (rfl)
  · refine v_iload_n cx (tk_dc d_M_effect 8 rfl) rfl ?_
    refine v_aload_n cx (tk_dc d_M_effect 9 rfl) rfl ?_
    refine v_getC cx 205 (tk_dc d_M_effect 10 rfl) f_M_108 o_M (by decide) (by rfl) ?_
    refine v_iload_n cx (tk_dc d_M_effect 11 rfl) rfl ?_
    refine w_iald cx (tk_dc d_M_effect 12 rfl) a_205 j (rfl) (by omega) (by decide) ?_
    refine v_eqi (nI k) (hk) ?_
    refine v_icmp_lt cx (tk_dc d_M_effect 13 rfl) 28 (by decide) (fun h23 => ?_) (fun h23 => ?_)
    · exact absurd ⟨h13, h23⟩ hb
    · refine v_iconst cx (tk_dc d_M_effect 14 rfl) (-1) (by decide) ?_
      exact v_iret cx hB (tk_dc d_M_effect 15 rfl) (rfl) (rfl)

set_option maxHeartbeats 4000000 in
set_option maxRecDepth 100000 in
theorem c_M_effect {l : Launch} {E : tk_E} {M : tk_M} {j k i : Nat} {w : Int32} (hz0 : M.1 172 0 = 0) (hj : j < 8) (hk : M.1 205 j = nI k) (hk4 : k ≤ 40) (hi : i < k) : tk_Mt l y_M_effect b_M_effect 4 (some .int) 1 E [.ref (E.1 + 172), .int (nI j), .int (nI i), .int (w)] M M (some (.int (if w = 0 then M.1 206 (40 * j + i) else if w = 1 then M.1 207 (40 * j + i) else -1))) := by
  refine tk_ofV (by decide +kernel) [some (.ref (E.1 + 172)), some (.int (nI j)), some (.int (nI i)), some (.int (w))] rfl (Nat.le_of_ble_eq_true rfl) ?_
  intro p e s m args below meth c cx hB
  refine v_aload_n cx (tk_dc d_M_effect 0 rfl) rfl ?_
  refine v_iconst cx (tk_dc d_M_effect 1 rfl) (0) (by decide) ?_
  refine v_putI cx (tk_dc d_M_effect 2 rfl) f_M_120 o_M (by decide) (by rfl) ⟨rfl, rfl⟩ ?_
  refine v_eqM (cz_id hz0) ?_
  refine v_iload_n cx (tk_dc d_M_effect 3 rfl) rfl ?_
  refine v_callS (rest := _) cx (tk_dc d_M_effect 4 rfl) m_M_144 ks_M_isJob k_M_isJob (c_M_isJob) rfl rfl (Nat.le_of_ble_eq_true rfl) (by decide) ?_
  refine v_if_eq cx (tk_dc d_M_effect 5 rfl) 26 (by decide) (fun h => absurd h (b01_d (inN (n := 8) (by decide) hj))) (fun _ => ?_)
  refine v_iload_n cx (tk_dc d_M_effect 6 rfl) rfl ?_
  refine v_if_lt cx (tk_dc d_M_effect 7 rfl) 26 (by decide) (fun h => absurd h (nI_pos (by omega))) (fun _ => ?_)
  refine v_iload_n cx (tk_dc d_M_effect 8 rfl) rfl ?_
  refine v_aload_n cx (tk_dc d_M_effect 9 rfl) rfl ?_
  refine v_getC cx 205 (tk_dc d_M_effect 10 rfl) f_M_108 o_M (by decide) (by rfl) ?_
  refine v_iload_n cx (tk_dc d_M_effect 11 rfl) rfl ?_
  refine w_iald cx (tk_dc d_M_effect 12 rfl) a_205 j (rfl) (by omega) (by decide) ?_
  refine v_eqi (nI k) (hk) ?_
  refine v_icmp_lt cx (tk_dc d_M_effect 13 rfl) 28 (by decide) (fun _ => ?_) (fun h => absurd (nI_lt hi (by omega)) h)
  refine v_iload_n cx (tk_dc d_M_effect 16 rfl) rfl ?_
  refine v_if_ne cx (tk_dc d_M_effect 17 rfl) 46 (by decide) (fun h29 => ?_) (fun h29 => ?_)
  · refine v_iload_n cx (tk_dc d_M_effect 27 rfl) rfl ?_
    refine v_iconst cx (tk_dc d_M_effect 28 rfl) (1) (by decide) ?_
    refine v_icmp_ne cx (tk_dc d_M_effect 29 rfl) 65 (by decide) (fun h48 => ?_) (fun h48 => ?_)
    · refine v_iconst cx (tk_dc d_M_effect 39 rfl) (-1) (by decide) ?_
      exact v_iret cx hB (tk_dc d_M_effect 40 rfl) (by simp [h29, h48]) (rfl)
    · refine v_aload_n cx (tk_dc d_M_effect 30 rfl) rfl ?_
      refine v_getC cx 207 (tk_dc d_M_effect 31 rfl) f_M_114 o_M (by decide) (by rfl) ?_
      refine v_bipush cx (tk_dc d_M_effect 32 rfl) (40) (by decide) ?_
      refine v_iload_n cx (tk_dc d_M_effect 33 rfl) rfl ?_
      refine v_imul cx (tk_dc d_M_effect 34 rfl) ?_
      refine v_iload_n cx (tk_dc d_M_effect 35 rfl) rfl ?_
      refine v_iadd cx (tk_dc d_M_effect 36 rfl) ?_
      refine w_iald cx (tk_dc d_M_effect 37 rfl) a_207 (40 * j + i) (by rw [show (40 : Int32) = nI 40 from rfl, pk_mul, nI_add]) (by omega) (by decide) ?_
      refine v_goto cx (tk_dc d_M_effect 38 rfl) 66 (by decide) ?_
      exact v_iret cx hB (tk_dc d_M_effect 40 rfl) (by simp [h29, h48]) (rfl)
  · refine v_aload_n cx (tk_dc d_M_effect 18 rfl) rfl ?_
    refine v_getC cx 206 (tk_dc d_M_effect 19 rfl) f_M_111 o_M (by decide) (by rfl) ?_
    refine v_bipush cx (tk_dc d_M_effect 20 rfl) (40) (by decide) ?_
    refine v_iload_n cx (tk_dc d_M_effect 21 rfl) rfl ?_
    refine v_imul cx (tk_dc d_M_effect 22 rfl) ?_
    refine v_iload_n cx (tk_dc d_M_effect 23 rfl) rfl ?_
    refine v_iadd cx (tk_dc d_M_effect 24 rfl) ?_
    refine w_iald cx (tk_dc d_M_effect 25 rfl) a_206 (40 * j + i) (by rw [show (40 : Int32) = nI 40 from rfl, pk_mul, nI_add]) (by omega) (by decide) ?_
    refine v_goto cx (tk_dc d_M_effect 26 rfl) 66 (by decide) ?_
    exact v_iret cx hB (tk_dc d_M_effect 40 rfl) (by simp [h29]) (rfl)

set_option maxHeartbeats 4000000 in
set_option maxRecDepth 100000 in
theorem n_M_ups {l : Launch} {E : tk_E} {M : tk_M} {x y : Int32} (hz0 : M.1 172 0 = 0) (hb : ¬ (¬ x < 0 ∧ x < 3)) : tk_Mt l y_M_up b_M_up 4 (some .boolean) 1 E [.ref (E.1 + 172), .int (x), .int (y)] M M (some (.int 0)) := by
  refine tk_ofV (by decide +kernel) [some (.ref (E.1 + 172)), some (.int (x)), some (.int (y)), none] rfl (Nat.le_of_ble_eq_true rfl) ?_
  intro p e s m args below meth c cx hB
  refine v_aload_n cx (tk_dc d_M_up 0 rfl) rfl ?_
  refine v_iconst cx (tk_dc d_M_up 1 rfl) (0) (by decide) ?_
  refine v_putI cx (tk_dc d_M_up 2 rfl) f_M_120 o_M (by decide) (by rfl) ⟨rfl, rfl⟩ ?_
  refine v_eqM (cz_id hz0) ?_
  refine v_iload_n cx (tk_dc d_M_up 3 rfl) rfl ?_
  refine v_if_lt cx (tk_dc d_M_up 4 rfl) 24 (by decide) (fun h6 => ?_) (fun h6 => ?_)
  · refine v_iconst cx (tk_dc d_M_up 14 rfl) (0) (by decide) ?_
    exact v_zret cx hB (tk_dc d_M_up 15 rfl) (by first | exact Or.inl rfl | exact Or.inr rfl | exact b01_01 _ | assumption) (rfl) (rfl)
  · refine v_iload_n cx (tk_dc d_M_up 5 rfl) rfl ?_
    refine v_iconst cx (tk_dc d_M_up 6 rfl) (3) (by decide) ?_
    refine v_icmp_ge cx (tk_dc d_M_up 7 rfl) 24 (by decide) (fun h11 => ?_) (fun h11 => ?_)
    · refine v_iconst cx (tk_dc d_M_up 14 rfl) (0) (by decide) ?_
      exact v_zret cx hB (tk_dc d_M_up 15 rfl) (by first | exact Or.inl rfl | exact Or.inr rfl | exact b01_01 _ | assumption) (rfl) (rfl)
    · exact absurd ⟨h6, Int32.not_le.mp h11⟩ hb

set_option maxHeartbeats 4000000 in
set_option maxRecDepth 100000 in
theorem n_M_up {l : Launch} {E : tk_E} {M : tk_M} {x : Nat} {y : Int32} (hz0 : M.1 172 0 = 0) (hx : x < 3) (hy : M.1 193 x = y) : tk_Mt l y_M_up b_M_up 4 (some .boolean) 1 E [.ref (E.1 + 172), .int (nI x), .int (y)] M M (some (.int 0)) := by
  refine tk_ofV (by decide +kernel) [some (.ref (E.1 + 172)), some (.int (nI x)), some (.int (y)), none] rfl (Nat.le_of_ble_eq_true rfl) ?_
  intro p e s m args below meth c cx hB
  refine v_aload_n cx (tk_dc d_M_up 0 rfl) rfl ?_
  refine v_iconst cx (tk_dc d_M_up 1 rfl) (0) (by decide) ?_
  refine v_putI cx (tk_dc d_M_up 2 rfl) f_M_120 o_M (by decide) (by rfl) ⟨rfl, rfl⟩ ?_
  refine v_eqM (cz_id hz0) ?_
  refine v_iload_n cx (tk_dc d_M_up 3 rfl) rfl ?_
  refine v_if_lt cx (tk_dc d_M_up 4 rfl) 24 (by decide) (fun h => absurd h (nI_pos (by omega))) (fun _ => ?_)
  refine v_iload_n cx (tk_dc d_M_up 5 rfl) rfl ?_
  refine v_iconst cx (tk_dc d_M_up 6 rfl) (3) (by decide) ?_
  refine v_icmp_ge cx (tk_dc d_M_up 7 rfl) 24 (by decide) (fun h => absurd h (Int32.not_le.mpr (nI_lt (b := 3) hx (by decide)))) (fun _ => ?_)
  refine v_aload_n cx (tk_dc d_M_up 8 rfl) rfl ?_
  refine v_getC cx 193 (tk_dc d_M_up 9 rfl) f_M_72 o_M (by decide) (by rfl) ?_
  refine v_iload_n cx (tk_dc d_M_up 10 rfl) rfl ?_
  refine w_zald cx (tk_dc d_M_up 11 rfl) a_193 x (rfl) (by omega) (by decide) ?_
  refine v_iload_n cx (tk_dc d_M_up 12 rfl) rfl ?_
  refine v_icmp_ne cx (tk_dc d_M_up 13 rfl) 26 (by decide) (fun h => absurd (hy) h) (fun _ => ?_)
  refine v_iconst cx (tk_dc d_M_up 14 rfl) (0) (by decide) ?_
  exact v_zret cx hB (tk_dc d_M_up 15 rfl) (by first | exact Or.inl rfl | exact Or.inr rfl | exact b01_01 _ | assumption) (rfl) (rfl)

set_option maxHeartbeats 4000000 in
set_option maxRecDepth 100000 in
theorem c_M_up {l : Launch} {E : tk_E} {M : tk_M} {x : Nat} {y : Int32} (hz0 : M.1 172 0 = 0) (hx : x < 3) (hy : ¬ M.1 193 x = y) (hy1 : y = 0 ∨ y = 1) : tk_Mt l y_M_up b_M_up 4 (some .boolean) 1 E [.ref (E.1 + 172), .int (nI x), .int y] M (m_up (wI M 193 x y) x 8) (some (.int 1)) := by
  refine tk_ofV (by decide +kernel) [some (.ref (E.1 + 172)), some (.int (nI x)), some (.int y), none] rfl (Nat.le_of_ble_eq_true rfl) ?_
  intro p e s m args below meth c cx hB
  have loop : ∀ (r j : Nat), j + r = 8 → tk_V p l e (tk_rm 1 0 0) s m args below meth c (MQ below (tk_Q E 209 (tk_ct E (m_up (wI M 193 x y) x 8)) (some (.int 1))) args s 0 0 (tk_A E)) E 4 209 (tk_ct E (m_up (wI M 193 x y) x j)) 0 0 35 [some (.ref (E.1 + 172)), some (.int (nI x)), some (.int y), some (.int (nI j))] [] := by
    intro r
    induction r with
    | zero =>
      intro j hj
      have : j = 8 := by omega
      subst this
      refine v_iload_n cx (tk_dc d_M_up 23 rfl) rfl ?_
      refine v_bipush cx (tk_dc d_M_up 24 rfl) (8) (by decide) ?_
      refine v_icmp_ge cx (tk_dc d_M_up 25 rfl) 69 (by decide) (fun _ => ?_) (fun h => absurd (by decide) h)
      refine v_iconst cx (tk_dc d_M_up 44 rfl) (1) (by decide) ?_
      exact v_zret cx hB (tk_dc d_M_up 45 rfl) (by first | exact Or.inl rfl | exact Or.inr rfl | exact b01_01 _ | assumption) (rfl) (rfl)
    | succ r ih =>
      intro j hj
      refine v_iload_n cx (tk_dc d_M_up 23 rfl) rfl ?_
      refine v_bipush cx (tk_dc d_M_up 24 rfl) (8) (by decide) ?_
      refine v_icmp_ge cx (tk_dc d_M_up 25 rfl) 69 (by decide) (fun h => absurd h (Int32.not_le.mpr (nI_lt (b := 8) (by omega) (by decide)))) (fun _ => ?_)
      refine v_aload_n cx (tk_dc d_M_up 26 rfl) rfl ?_
      refine v_getC cx 199 (tk_dc d_M_up 27 rfl) f_M_90 o_M (by decide) (by rfl) ?_
      refine v_bipush cx (tk_dc d_M_up 28 rfl) (8) (by decide) ?_
      refine v_iload_n cx (tk_dc d_M_up 29 rfl) rfl ?_
      refine v_imul cx (tk_dc d_M_up 30 rfl) ?_
      refine v_iload_n cx (tk_dc d_M_up 31 rfl) rfl ?_
      refine v_iadd cx (tk_dc d_M_up 32 rfl) ?_
      refine v_iconst cx (tk_dc d_M_up 33 rfl) (-1) (by decide) ?_
      refine w_iast cx (tk_dc d_M_up 34 rfl) a_199 (8 * x + j) (by rw [show (8 : Int32) = nI 8 from rfl, pk_mul, nI_add]) (by omega) (by decide) ?_
      refine v_aload_n cx (tk_dc d_M_up 35 rfl) rfl ?_
      refine v_bipush cx (tk_dc d_M_up 36 rfl) (8) (by decide) ?_
      refine v_iload_n cx (tk_dc d_M_up 37 rfl) rfl ?_
      refine v_imul cx (tk_dc d_M_up 38 rfl) ?_
      refine v_iload_n cx (tk_dc d_M_up 39 rfl) rfl ?_
      refine v_iadd cx (tk_dc d_M_up 40 rfl) ?_
      refine v_eqi (nI (8 * x + j)) (by rw [show (8 : Int32) = nI 8 from rfl, pk_mul, nI_add]) ?_
      refine v_callV (rest := _) cx (tk_dc d_M_up 41 rfl) m_M_235 kn_M_over kv_M_over k_M_over o_M (by decide) rfl (c_M_over (by omega)) rfl rfl (Nat.le_of_ble_eq_true rfl) (by decide) ?_
      refine v_iinc (lo' := [_, _, _, _]) cx (tk_dc d_M_up 42 rfl) rfl (nI (j + 1)) ((nI_succ j).symm) (by decide) rfl ?_
      refine v_goto cx (tk_dc d_M_up 43 rfl) 35 (by decide) ?_
      exact ih (j + 1) (by omega)
  have h0 := loop 8 0 rfl
  refine v_aload_n cx (tk_dc d_M_up 0 rfl) rfl ?_
  refine v_iconst cx (tk_dc d_M_up 1 rfl) (0) (by decide) ?_
  refine v_putI cx (tk_dc d_M_up 2 rfl) f_M_120 o_M (by decide) (by rfl) ⟨rfl, rfl⟩ ?_
  refine v_eqM (cz_id hz0) ?_
  refine v_iload_n cx (tk_dc d_M_up 3 rfl) rfl ?_
  refine v_if_lt cx (tk_dc d_M_up 4 rfl) 24 (by decide) (fun h => absurd h (nI_pos (by omega))) (fun _ => ?_)
  refine v_iload_n cx (tk_dc d_M_up 5 rfl) rfl ?_
  refine v_iconst cx (tk_dc d_M_up 6 rfl) (3) (by decide) ?_
  refine v_icmp_ge cx (tk_dc d_M_up 7 rfl) 24 (by decide) (fun h => absurd h (Int32.not_le.mpr (nI_lt (b := 3) hx (by decide)))) (fun _ => ?_)
  refine v_aload_n cx (tk_dc d_M_up 8 rfl) rfl ?_
  refine v_getC cx 193 (tk_dc d_M_up 9 rfl) f_M_72 o_M (by decide) (by rfl) ?_
  refine v_iload_n cx (tk_dc d_M_up 10 rfl) rfl ?_
  refine w_zald cx (tk_dc d_M_up 11 rfl) a_193 x (rfl) (by omega) (by decide) ?_
  refine v_iload_n cx (tk_dc d_M_up 12 rfl) rfl ?_
  refine v_icmp_ne cx (tk_dc d_M_up 13 rfl) 26 (by decide) (fun _ => ?_) (fun h => absurd h (hy))
  refine v_aload_n cx (tk_dc d_M_up 16 rfl) rfl ?_
  refine v_getC cx 193 (tk_dc d_M_up 17 rfl) f_M_72 o_M (by decide) (by rfl) ?_
  refine v_iload_n cx (tk_dc d_M_up 18 rfl) rfl ?_
  refine v_iload_n cx (tk_dc d_M_up 19 rfl) rfl ?_
  refine w_zast cx (tk_dc d_M_up 20 rfl) a_193 x (rfl) (by omega) (by decide) (by first | exact Or.inl rfl | exact Or.inr rfl | assumption) ?_
  refine v_iconst cx (tk_dc d_M_up 21 rfl) (0) (by decide) ?_
  refine v_istore_n (lo' := [_, _, _, _]) cx (tk_dc d_M_up 22 rfl) (by decide) rfl ?_
  exact h0

set_option maxHeartbeats 4000000 in
set_option maxRecDepth 100000 in
theorem n_M_desks {l : Launch} {E : tk_E} {M : tk_M} {x y : Int32} (hz0 : M.1 172 0 = 0) (hb : ¬ (¬ x < 0 ∧ x < 2)) : tk_Mt l y_M_desk b_M_desk 3 (some .boolean) 0 E [.ref (E.1 + 172), .int (x), .int (y)] M M (some (.int 0)) := by
  refine tk_ofV (by decide +kernel) [some (.ref (E.1 + 172)), some (.int (x)), some (.int (y))] rfl (Nat.le_of_ble_eq_true rfl) ?_
  intro p e s m args below meth c cx hB
  refine v_aload_n cx (tk_dc d_M_desk 0 rfl) rfl ?_
  refine v_iconst cx (tk_dc d_M_desk 1 rfl) (0) (by decide) ?_
  refine v_putI cx (tk_dc d_M_desk 2 rfl) f_M_120 o_M (by decide) (by rfl) ⟨rfl, rfl⟩ ?_
  refine v_eqM (cz_id hz0) ?_
  refine v_iload_n cx (tk_dc d_M_desk 3 rfl) rfl ?_
  refine v_if_lt cx (tk_dc d_M_desk 4 rfl) 24 (by decide) (fun h6 => ?_) (fun h6 => ?_)
  · refine v_iconst cx (tk_dc d_M_desk 14 rfl) (0) (by decide) ?_
    exact v_zret cx hB (tk_dc d_M_desk 15 rfl) (by first | exact Or.inl rfl | exact Or.inr rfl | exact b01_01 _ | assumption) (rfl) (rfl)
  · refine v_iload_n cx (tk_dc d_M_desk 5 rfl) rfl ?_
    refine v_iconst cx (tk_dc d_M_desk 6 rfl) (1) (by decide) ?_
    refine v_icmp_gt cx (tk_dc d_M_desk 7 rfl) 24 (by decide) (fun h11 => ?_) (fun h11 => ?_)
    · refine v_iconst cx (tk_dc d_M_desk 14 rfl) (0) (by decide) ?_
      exact v_zret cx hB (tk_dc d_M_desk 15 rfl) (by first | exact Or.inl rfl | exact Or.inr rfl | exact b01_01 _ | assumption) (rfl) (rfl)
    · exact absurd ⟨h6, by rw [Int32.lt_iff_toInt_lt]; have w := h11; rw [Int32.not_lt, Int32.le_iff_toInt_le] at w; exact Int.lt_of_le_of_lt w (by decide)⟩ hb

set_option maxHeartbeats 4000000 in
set_option maxRecDepth 100000 in
theorem n_M_desk {l : Launch} {E : tk_E} {M : tk_M} {x : Nat} {y : Int32} (hz0 : M.1 172 0 = 0) (hx : x < 2) (hy : M.1 194 x = y) : tk_Mt l y_M_desk b_M_desk 3 (some .boolean) 0 E [.ref (E.1 + 172), .int (nI x), .int (y)] M M (some (.int 0)) := by
  refine tk_ofV (by decide +kernel) [some (.ref (E.1 + 172)), some (.int (nI x)), some (.int (y))] rfl (Nat.le_of_ble_eq_true rfl) ?_
  intro p e s m args below meth c cx hB
  refine v_aload_n cx (tk_dc d_M_desk 0 rfl) rfl ?_
  refine v_iconst cx (tk_dc d_M_desk 1 rfl) (0) (by decide) ?_
  refine v_putI cx (tk_dc d_M_desk 2 rfl) f_M_120 o_M (by decide) (by rfl) ⟨rfl, rfl⟩ ?_
  refine v_eqM (cz_id hz0) ?_
  refine v_iload_n cx (tk_dc d_M_desk 3 rfl) rfl ?_
  refine v_if_lt cx (tk_dc d_M_desk 4 rfl) 24 (by decide) (fun h => absurd h (nI_pos (by omega))) (fun _ => ?_)
  refine v_iload_n cx (tk_dc d_M_desk 5 rfl) rfl ?_
  refine v_iconst cx (tk_dc d_M_desk 6 rfl) (1) (by decide) ?_
  refine v_icmp_gt cx (tk_dc d_M_desk 7 rfl) 24 (by decide) (fun h => absurd h (Int32.not_lt.mpr (nI_le (b := 1) (by omega) (by decide)))) (fun _ => ?_)
  refine v_aload_n cx (tk_dc d_M_desk 8 rfl) rfl ?_
  refine v_getC cx 194 (tk_dc d_M_desk 9 rfl) f_M_75 o_M (by decide) (by rfl) ?_
  refine v_iload_n cx (tk_dc d_M_desk 10 rfl) rfl ?_
  refine w_zald cx (tk_dc d_M_desk 11 rfl) a_194 x (rfl) (by omega) (by decide) ?_
  refine v_iload_n cx (tk_dc d_M_desk 12 rfl) rfl ?_
  refine v_icmp_ne cx (tk_dc d_M_desk 13 rfl) 26 (by decide) (fun h => absurd (hy) h) (fun _ => ?_)
  refine v_iconst cx (tk_dc d_M_desk 14 rfl) (0) (by decide) ?_
  exact v_zret cx hB (tk_dc d_M_desk 15 rfl) (by first | exact Or.inl rfl | exact Or.inr rfl | exact b01_01 _ | assumption) (rfl) (rfl)

set_option maxHeartbeats 4000000 in
set_option maxRecDepth 100000 in
theorem c_M_desk {l : Launch} {E : tk_E} {M : tk_M} {x : Nat} {y : Int32} (hz0 : M.1 172 0 = 0) (hx : x < 2) (hy : ¬ M.1 194 x = y) (hy1 : y = 0 ∨ y = 1) : tk_Mt l y_M_desk b_M_desk 3 (some .boolean) 0 E [.ref (E.1 + 172), .int (nI x), .int (y)] M (wI M 194 x y) (some (.int 1)) := by
  refine tk_ofV (by decide +kernel) [some (.ref (E.1 + 172)), some (.int (nI x)), some (.int (y))] rfl (Nat.le_of_ble_eq_true rfl) ?_
  intro p e s m args below meth c cx hB
  refine v_aload_n cx (tk_dc d_M_desk 0 rfl) rfl ?_
  refine v_iconst cx (tk_dc d_M_desk 1 rfl) (0) (by decide) ?_
  refine v_putI cx (tk_dc d_M_desk 2 rfl) f_M_120 o_M (by decide) (by rfl) ⟨rfl, rfl⟩ ?_
  refine v_eqM (cz_id hz0) ?_
  refine v_iload_n cx (tk_dc d_M_desk 3 rfl) rfl ?_
  refine v_if_lt cx (tk_dc d_M_desk 4 rfl) 24 (by decide) (fun h => absurd h (nI_pos (by omega))) (fun _ => ?_)
  refine v_iload_n cx (tk_dc d_M_desk 5 rfl) rfl ?_
  refine v_iconst cx (tk_dc d_M_desk 6 rfl) (1) (by decide) ?_
  refine v_icmp_gt cx (tk_dc d_M_desk 7 rfl) 24 (by decide) (fun h => absurd h (Int32.not_lt.mpr (nI_le (b := 1) (by omega) (by decide)))) (fun _ => ?_)
  refine v_aload_n cx (tk_dc d_M_desk 8 rfl) rfl ?_
  refine v_getC cx 194 (tk_dc d_M_desk 9 rfl) f_M_75 o_M (by decide) (by rfl) ?_
  refine v_iload_n cx (tk_dc d_M_desk 10 rfl) rfl ?_
  refine w_zald cx (tk_dc d_M_desk 11 rfl) a_194 x (rfl) (by omega) (by decide) ?_
  refine v_iload_n cx (tk_dc d_M_desk 12 rfl) rfl ?_
  refine v_icmp_ne cx (tk_dc d_M_desk 13 rfl) 26 (by decide) (fun _ => ?_) (fun h => absurd h (hy))
  refine v_aload_n cx (tk_dc d_M_desk 16 rfl) rfl ?_
  refine v_getC cx 194 (tk_dc d_M_desk 17 rfl) f_M_75 o_M (by decide) (by rfl) ?_
  refine v_iload_n cx (tk_dc d_M_desk 18 rfl) rfl ?_
  refine v_iload_n cx (tk_dc d_M_desk 19 rfl) rfl ?_
  refine w_zast cx (tk_dc d_M_desk 20 rfl) a_194 x (rfl) (by omega) (by decide) (by first | exact Or.inl rfl | exact Or.inr rfl | assumption) ?_
  refine v_iconst cx (tk_dc d_M_desk 21 rfl) (1) (by decide) ?_
  exact v_zret cx hB (tk_dc d_M_desk 22 rfl) (by first | exact Or.inl rfl | exact Or.inr rfl | exact b01_01 _ | assumption) (rfl) (rfl)
