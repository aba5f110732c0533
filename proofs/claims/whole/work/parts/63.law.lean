/-! the law: its loop, its end -/
theorem law_gt {L i : Nat} (hL : L ≤ 2560) (hi : i ≤ L) : nI L - 5 < nI i ↔ L < i + 5 := by
  rw [iI_nI L, iI_nI i, show (5 : Int32) = iI 5 from rfl, iI_sub, iI_lt (by omega) (by omega) (by omega) (by omega)]
  omega
theorem law_out {p : Program} {l : Launch} {e : Env} {s : State} {m : MethodId} {below : List Frame} {meth : Method} {c : Code} {E : tk_E} {b : Nat} (cx : tk_X p s m #[Value.ref b] c code 4 R_W E 0) (hr : meth.sig.returnType = ret) (hlk : meth.locks = false) {i : Nat} {M : tk_M} : tk_V p l e room_1 s m #[Value.ref b] below meth c (lw_Z below #[Value.ref b] s) E 4 209 (tk_ct E M) 209 3634 916 [some (.ref b), some (.ref (E.1 + 0)), some (.ref (E.1 + 172)), some (.int (nI (i)))] [] := by
  refine v_iconst cx (tk_dc d_W_13 44 rfl) (1) (by decide) ?_
  have hz := cx.2.2.2.2.2.2.2.2
  intro H locs ls h2 h3 h4
  refine va_forget (fun q hq => ?_) (W.widen (k := 600000) (n := 7302250) (by decide) (by decide) (lw_ret cx.1 cx.2.1 hr hlk (tk_dc d_W_13 45 rfl).1))
  have h5 : E.1 ≤ q.base := h3.2.2 q hq
  omega
set_option maxHeartbeats 4000000 in
set_option maxRecDepth 100000 in
theorem law_loop {p : Program} {l : Launch} {e : Env} {s : State} {m : MethodId} {below : List Frame} {meth : Method} {c : Code} {E : tk_E} {b L : Nat} {xs : Nat → Int32} (cx : tk_X p s m #[Value.ref b] c code 4 R_W E 0) (hX : va_X b L xs s s.heap) (hb : b < E.1) (hL : L ≤ 2560) (hr : meth.sig.returnType = ret) (hlk : meth.locks = false) : ∀ (k i T : Nat) (M : tk_M), i = 5 * T → i ≤ L → L < i + k → (∃ c, RR M M T c) → tk_V p l e room_1 s m #[Value.ref b] below meth c (lw_Z below #[Value.ref b] s) E 4 209 (tk_ct E M) 209 3634 18 [some (.ref b), some (.ref (E.1 + 0)), some (.ref (E.1 + 172)), some (.int (nI (i)))] [] := by
  intro k
  induction k with
  | zero =>
    intro i T M h1 h2 h3 h4
    omega
  | succ k ih =>
    intro i T M h1 h2 h3 h4
    refine v_iload_n cx (tk_dc d_W_0 10 rfl) rfl ?_
    refine v_aload_n cx (tk_dc d_W_0 11 rfl) rfl ?_
    refine v_slen cx hX hb (tk_dc d_W_0 12 rfl) ?_
    refine v_iconst cx (tk_dc d_W_0 13 rfl) (5) (by decide) ?_
    refine v_isub cx (tk_dc d_W_0 14 rfl) ?_
    refine v_icmp_gt cx (tk_dc d_W_0 15 rfl) 916 (by decide) (fun _ => law_out cx hr hlk) (fun hg => ?_)
    rw [law_gt hL h2] at hg
    have hi : i + 5 ≤ L := by omega
    have hT : T ≤ 1000 := by omega
    have tl : ∀ M2, (∃ c, RR M2 M2 (T + 1) c) → tk_V p l e room_1 s m #[Value.ref b] below meth c (lw_Z below #[Value.ref b] s) E 4 209 (tk_ct E M2) 209 3634 910 [some (.ref b), some (.ref (E.1 + 0)), some (.ref (E.1 + 172)), some (.int (nI (i)))] [] := by
      intro M2 h5
      refine v_iinc (lo' := [_, _, _, _]) cx (tk_dc d_W_13 42 rfl) rfl (nI (i + 5)) (nI_add i 5) (by decide) rfl ?_
      refine v_goto cx (tk_dc d_W_13 43 rfl) 18 (by decide) ?_
      exact ih (i + 5) (T + 1) M2 (by omega) (by omega) (by omega) h5
    have tl0 : ∃ c, RR M M (T + 1) c := by
      obtain ⟨c0, hc⟩ := h4
      exact ⟨c0, hc.mono (by omega)⟩
    refine v_aload_n cx (tk_dc d_W_0 16 rfl) rfl ?_
    refine v_iload_n cx (tk_dc d_W_0 17 rfl) rfl ?_
    refine v_sld cx hX hb hL (tk_dc d_W_0 18 rfl) i rfl (by omega) ?_
    refine v_bipush cx (tk_dc d_W_0 19 rfl) (31) (by decide) ?_
    refine v_iand cx (tk_dc d_W_0 20 rfl) ?_
    generalize xs i &&& 31 = z
    rcases pk_ix z (n := 22) (by decide) with hsw | hsw | ⟨jsw, hj, hsw⟩
    · exact v_tout cx (tk_dc d_W_0 21 rfl) 910 (Or.inl (tk_neg hsw)) (by decide) (tl M tl0)
    · exact v_tout cx (tk_dc d_W_0 21 rfl) 910 (Or.inr (tk_big hsw (by decide))) (by decide) (tl M tl0)
    · rcases (show jsw = 0 ∨ jsw = 1 ∨ jsw = 2 ∨ jsw = 3 ∨ jsw = 4 ∨ jsw = 5 ∨ jsw = 6 ∨ jsw = 7 ∨ jsw = 8 ∨ jsw = 9 ∨ jsw = 10 ∨ jsw = 11 ∨ jsw = 12 ∨ jsw = 13 ∨ jsw = 14 ∨ jsw = 15 ∨ jsw = 16 ∨ jsw = 17 ∨ jsw = 18 ∨ jsw = 19 ∨ jsw = 20 ∨ jsw = 21 by omega) with rfl | rfl | rfl | rfl | rfl | rfl | rfl | rfl | rfl | rfl | rfl | rfl | rfl | rfl | rfl | rfl | rfl | rfl | rfl | rfl | rfl | rfl <;> subst hsw
      · exact v_tin cx (tk_dc d_W_0 21 rfl) 136 (by decide) (by decide) rfl (by decide) (lc_time cx hX hb hL hi hT h4 tl)
      · exact v_tin cx (tk_dc d_W_0 21 rfl) 159 (by decide) (by decide) rfl (by decide) (lc_shift cx hX hb hL hi hT h4 tl)
      · exact v_tin cx (tk_dc d_W_0 21 rfl) 202 (by decide) (by decide) rfl (by decide) (lc_holiday cx hX hb hL hi hT h4 tl)
      · exact v_tin cx (tk_dc d_W_0 21 rfl) 235 (by decide) (by decide) rfl (by decide) (lc_mask cx hX hb hL hi hT h4 tl)
      · exact v_tin cx (tk_dc d_W_0 21 rfl) 288 (by decide) (by decide) rfl (by decide) (lc_nth cx hX hb hL hi hT h4 tl)
      · exact v_tin cx (tk_dc d_W_0 21 rfl) 331 (by decide) (by decide) rfl (by decide) (lc_set cx hX hb hL hi hT h4 tl)
      · exact v_tin cx (tk_dc d_W_0 21 rfl) 374 (by decide) (by decide) rfl (by decide) (lc_except cx hX hb hL hi hT h4 tl)
      · exact v_tin cx (tk_dc d_W_0 21 rfl) 407 (by decide) (by decide) rfl (by decide) (lc_after cx hX hb hL hi hT h4 tl)
      · exact v_tin cx (tk_dc d_W_0 21 rfl) 466 (by decide) (by decide) rfl (by decide) (lc_isDue cx hX hb hL hi hT h4 tl)
      · exact v_tin cx (tk_dc d_W_0 21 rfl) 499 (by decide) (by decide) rfl (by decide) (lc_due cx hX hb hL hi hT h4 tl)
      · exact v_tin cx (tk_dc d_W_0 21 rfl) 532 (by decide) (by decide) rfl (by decide) (lc_local cx hX hb hL hi hT h4 tl)
      · exact v_tin cx (tk_dc d_W_0 21 rfl) 565 (by decide) (by decide) rfl (by decide) (lc_wake cx hX hb hL hi hT h4 tl)
      · exact v_tin cx (tk_dc d_W_0 21 rfl) 588 (by decide) (by decide) rfl (by decide) (lc_up cx hX hb hL hi hT h4 tl)
      · exact v_tin cx (tk_dc d_W_0 21 rfl) 637 (by decide) (by decide) rfl (by decide) (lc_desk cx hX hb hL hi hT h4 tl)
      · exact v_tin cx (tk_dc d_W_0 21 rfl) 686 (by decide) (by decide) rfl (by decide) (lc_letters cx hX hb hL hi hT h4 tl)
      · exact v_tin cx (tk_dc d_W_0 21 rfl) 699 (by decide) (by decide) rfl (by decide) (lc_deliver cx hX hb hL hi hT h4 tl)
      · exact v_tin cx (tk_dc d_W_0 21 rfl) 722 (by decide) (by decide) rfl (by decide) (lc_lose cx hX hb hL hi hT h4 tl)
      · exact v_tin cx (tk_dc d_W_0 21 rfl) 745 (by decide) (by decide) rfl (by decide) (lc_twin cx hX hb hL hi hT h4 tl)
      · exact v_tin cx (tk_dc d_W_0 21 rfl) 768 (by decide) (by decide) rfl (by decide) (lc_letter cx hX hb hL hi hT h4 tl)
      · exact v_tin cx (tk_dc d_W_0 21 rfl) 801 (by decide) (by decide) rfl (by decide) (lc_register cx hX hb hL hi hT h4 tl)
      · exact v_tin cx (tk_dc d_W_0 21 rfl) 844 (by decide) (by decide) rfl (by decide) (lc_effects cx hX hb hL hi hT h4 tl)
      · exact v_tin cx (tk_dc d_W_0 21 rfl) 867 (by decide) (by decide) rfl (by decide) (lc_effect cx hX hb hL hi hT h4 tl)
set_option maxHeartbeats 4000000 in
set_option maxRecDepth 100000 in
/-- YOUR PART: from the entry, for every script of at most 2560 ints, the law comes to its end with true -/
theorem whole_start {p : Program} {e : Env} {s : State} {m : MethodId} {below : List Frame} {meth : Method} {c : Code} (l : Launch) {b L : Nat} {xs : Nat → Int32} (hL : L ≤ 2560) (C0 : lw_At p s m meth c b L xs) : W p l e room_1 s m #[Value.ref b] below meth c s.heap [] 0 0 (lw_Z below #[Value.ref b] s) (entryFrame m ([Value.ref b] : List Value).toArray 4) := by
  obtain ⟨E, hE, cx⟩ := law_E C0
  obtain ⟨hx, hb, hr, hml, hown, hts, hX, hbl, hlk, hgv⟩ := C0
  rw [lg_entry_eq]
  have hl := lv_entry ([.ref b]) (n := 4) (Nat.le_of_ble_eq_true rfl)
  have key : tk_V p l e room_1 s m #[Value.ref b] below meth c (lw_Z below #[Value.ref b] s) E 4 0 (tk_ct E MA) 0 0 0 [some (.ref b), none, none, none] [] := by
    refine v_new2 cx dv_K (tk_dc d_W_0 0 rfl) cl_W_7 (by decide) it_K dk_K ⟨by decide, by decide⟩ (by decide) ?_
    refine v_dup cx (tk_dc d_W_0 1 rfl) rfl ?_
    refine v_callI1 (as := []) cx (tk_dc d_W_0 2 rfl) (.inl m_W_9) kn_K_init rfl k_K_init i_K rfl rfl (Nat.le_of_ble_eq_true rfl) (by decide) (by decide) ⟨by decide, by decide⟩ (by decide) (by decide) (by decide) ?_
    refine v_astore_n (lo' := [_, _, _, _]) cx (tk_dc d_W_0 3 rfl) (by decide) rfl ?_
    refine v_new2 cx dv_M (tk_dc d_W_0 4 rfl) cl_W_10 (by decide) it_M dk_M ⟨by decide, by decide⟩ (by decide) ?_
    refine v_dup cx (tk_dc d_W_0 5 rfl) rfl ?_
    refine v_callI1 (as := []) cx (tk_dc d_W_0 6 rfl) (.inl m_W_12) kn_M_init rfl k_M_init i_M rfl rfl (Nat.le_of_ble_eq_true rfl) (by decide) (by decide) ⟨by decide, by decide⟩ (by decide) (by decide) (by decide) ?_
    refine v_astore_n (lo' := [_, _, _, _]) cx (tk_dc d_W_0 7 rfl) (by decide) rfl ?_
    refine v_iconst cx (tk_dc d_W_0 8 rfl) (0) (by decide) ?_
    refine v_istore_n (lo' := [_, _, _, _]) cx (tk_dc d_W_0 9 rfl) (by decide) rfl ?_
    exact law_loop cx hX (by omega) hL hr hlk (L + 1) 0 0 M0 rfl (by omega) (by omega) ⟨0, st_RR⟩
  exact key s.heap [] _ (fun k q hq => by simp [tk_wl] at hq) va_S.rf hl
set_option maxHeartbeats 4000000 in
theorem lw_walk (l : Launch) (b : Addr) (xs : List Int32) : MetFree l x (headSpec (Jvm.Cond.code x code maxLocals ret :: tables_1) room_1) (lw_P b xs) (fun _ _ _ _ _ => True) lw_Q := by
  refine MetFree.of_bodyS (code := code) (maxLocals := maxLocals) (ret := ret) (by decide) ?_ ?_
  · intro args s m h hn
    obtain ⟨meth, c, h1, h2, h3, h4, h5, h6, -, -⟩ := Cond.code_spec hn (atoms_spec (ws := Jvm.Cond.code x code maxLocals ret :: tables_1) h _ List.mem_cons_self)
    exact ⟨meth, c, h1, h2, h3, h4, h5, h6⟩
  · intro p e s m args below meth c s₁ B hml0 hP _
    obtain ⟨rfl, hx, hbd, hgv⟩ := hP
    obtain ⟨scr, harrAt, hlist, hof, hsmall⟩ := hx
    obtain ⟨hcb, hkn, -, -⟩ := State.arrayAt?_spec harrAt
    have hown : s.vm.findClass R_law = some m.cls := findClass_of_methodNamed B.named
    have hts0 : ∀ c ∈ (Jvm.Cond.code x code maxLocals ret :: tables_1), c.before #[Value.ref b] s = true := atoms_spec (ws := Jvm.Cond.code x code maxLocals ret :: tables_1) B.pre
    have hts : ∀ w ∈ lw_tbl, w.before #[Value.ref b] s = true := k2_hts_sels lw_privs (fun w hw => hts0 w (List.mem_cons_of_mem _ hw)) lw_privs_ok
    have hml : c.maxLocals = 4 := B.maxLocals_eq (hts0 _ List.mem_cons_self)
    have X₀ : Stand p l e room_1 s m #[Value.ref b] below meth c s₁ [] 0 0 := Stand.of_body B
    have hh0 : s₁.heap = s.heap := by rw [B.state]; rfl
    have hsz : scr.slots.size = xs.length := by rw [← Array.length_toList, hlist, List.length_map]
    have hval : ∀ j : Nat, j < xs.length → scr.slots[j]? = some (.int (xs.getD j 0)) := fun j hj => by
      rw [← Array.getElem?_toList, hlist]
      simp [hj]
    have hbl : b < s.heap.size := (Array.getElem?_eq_some_iff.mp hcb).1
    have hX : va_X b xs.length (fun j => xs.getD j 0) s s.heap := ⟨scr, hcb, hof, hkn, hsz, hval⟩
    have K : W p l e room_1 s m #[Value.ref b] below meth c s₁.heap [] 0 0 (lw_Z below #[Value.ref b] s) (entryFrame m ([Value.ref b] : List Value).toArray 4) := by
      rw [hh0]
      exact whole_start l hbd ⟨B.exec, B.bytes, B.returns, hml, hown, hts, hX, hbl, B.notSynchronized, hgv⟩
    obtain ⟨t, a1, o, b1, b2, b3⟩ := K s₁ rfl X₀
    exact ⟨t, o, a1, b1, b2, b3⟩
theorem lw_pre_spec {args : Array Value} {s : State} (h : (Jvm.Cond.and given_1 narrow_1).before args s = true) (hr : rest_1_c.before args s = true) : ∃ (b : Addr) (xs : List Int32), lw_P b xs args s := by
  have hs := flat_of_before _ h
  have hq := flat_of_before _ hr
  have hc : (Cond.count 1).before args s = true := hs _ (by decide +kernel)
  have harr : (Cond.arrayOf (.arg 0) .int).before args s = true := hs _ (by decide +kernel)
  have hle : (Cond.le (.length (.arg 0)) (.int 2560)).before args s = true := hs _ (by decide +kernel)
  have hlen : (Cond.isInt (.length (.arg 0))).before args s = true := hq _ (by decide +kernel)
  have hall : (Cond.all (.arg 0) (.isInt (.elem (.arg 0) (.index 0)))).before args s = true := hq _ (by decide +kernel)
  obtain ⟨b, xs, hb, hx⟩ := State.ints_of_pre rfl harr hlen hall
  have hsm : xs.length < 2 ^ 31 := hx.choose_spec.2.2.2
  have hev : (Term.length (.arg 0)).eval args s none [] s = some (.int xs.length.toInt32) := hx.length_eval hb
  have hv := Cond.le_ints hev (show (Term.int 2560).eval args s none [] s = some (.int 2560) from rfl)
  have hd : xs.length.toInt32 ≤ 2560 := by
    simpa [Cond.before, Cond.holds, hv] using hle
  have hN : xs.length ≤ 2560 := (Int32.ofNat_le_ofNat hsm (by decide)).mp (show Int32.ofNat xs.length ≤ Int32.ofNat 2560 from hd)
  exact ⟨b, xs, Cond.one_arg hc (show args[0]? = some (.ref b) from hb), hx, hN, h⟩
theorem lw_comes (l : Launch) : Comes l x (Jvm.Cond.code x code maxLocals ret :: tables_1) room_1 (fun tb e args s => Calls_1 tb e args s ∧ rest_1 tb e args s ∧ Pre_1 tb e args s)
    (fun _ _ args s o t => lw_Q args s o t) := by
  intro p e ha hc hk s m args below hf hfit hheap happ hpre
  obtain ⟨b, xs, hP⟩ := lw_pre_spec hpre.2.2 hpre.2.1
  obtain ⟨k, o, h1, h2, h3, hQ⟩ := lw_walk l b xs p e ha hc hk s m args below hf ((Spec.applies_iff_loose hf).mp happ).1 hP trivial
  exact ⟨k, o, h1, h2, h3, hQ⟩
theorem lw_frame {s t : State} {o : Outcome} {args : Array Value} (h : Framed s o t [] 600000 7302250) :
    Framed s o t (fieldLocs frame_1_writes args s ++ arrayLocs frame_1_arrays args s ++ staticLocs frame_1_statics s) 600000 7302250 := h
theorem lw_limb (L : Cond) (hL : ∀ (args : Array Value) (s t : State), L.after args s (.returned (some (.int 1))) t = true) :
    ArmFor flags0 classFile x code maxLocals ret World_1 tables_1 room_1 Calls_1 rest_1 Pre_1
      (fun tb e a s o t => postC L tb e a s o t ∧ Framed s o t (fieldLocs frame_1_writes a s ++ arrayLocs frame_1_arrays a s ++ staticLocs frame_1_statics s) 600000 7302250) := by
  intro l _ _ _ p e ha hc hk s m args below hf hfit hheap happ hpre
  obtain ⟨k, o, h1, h2, h3, rfl, hF⟩ := lw_comes l p e ha hc hk s m args below hf hfit hheap happ hpre
  exact ⟨k, _, h1, h2, h3, hL args s _, lw_frame hF⟩
theorem i_vc : Claimed_1_1 ∧ Claimed_1_2 := ⟨lw_limb limb_1_1 (fun args s t => by simp [limb_1_1, Cond.after, Cond.holds, Cond.value]), lw_limb limb_1_2 (fun args s t => Cond.after_iff.mpr (by
  first | (rw [show limb_1_2 = Cond.eq .result (.int 1) from rfl, Cond.eq_ints (x := 1) (y := 1) rfl rfl]; simp; done) | (simp [limb_1_2, Cond.value, Term.eval]; done)))⟩

