/-! the law: each call -/
section TKWC
variable {p : Program} {l : Launch} {e : Env} {s : State} {m : MethodId} {below : List Frame} {meth : Method} {c : Code} {Q : State → Prop} {E : tk_E} {b L : Nat} {xs : Nat → Int32}
set_option maxHeartbeats 4000000 in
set_option maxRecDepth 100000 in
theorem lc_time (cx : tk_X p s m #[Value.ref b] c code 4 R_W E 0) (hX : va_X b L xs s s.heap) (hb : b < E.1) (hL : L ≤ 2560) {i T : Nat} {M : tk_M} (hi : i + 5 ≤ L) (hT : T ≤ 1000) (h : ∃ c, RR M M T c) (kk : ∀ M2, (∃ c, RR M2 M2 (T + 1) c) → tk_V p l e room_1 s m #[Value.ref b] below meth c Q E 4 209 (tk_ct E M2) 209 3634 910 [some (.ref b), some (.ref (E.1 + 0)), some (.ref (E.1 + 172)), some (.int (nI i))] []) : tk_V p l e room_1 s m #[Value.ref b] below meth c Q E 4 209 (tk_ct E M) 209 3634 136 [some (.ref b), some (.ref (E.1 + 0)), some (.ref (E.1 + 172)), some (.int (nI i))] [] := by
  obtain ⟨c0, hc⟩ := h
  obtain ⟨r, M1, N, hK, hM, hN⟩ := sim_time (l := l) (E := E) (x := xs (i + 1)) hc
  refine v_aload_n cx (tk_dc d_W_0 22 rfl) rfl ?_
  refine v_aload_n cx (tk_dc d_W_0 23 rfl) rfl ?_
  refine v_iload_n cx (tk_dc d_W_0 24 rfl) rfl ?_
  refine v_iconst cx (tk_dc d_W_0 25 rfl) (1) (by decide) ?_
  refine v_iadd cx (tk_dc d_W_0 26 rfl) ?_
  refine v_sld cx hX hb hL (tk_dc d_W_0 27 rfl) (i + 1) (nI_add i 1) (by omega) ?_
  refine v_callV (rest := []) cx (tk_dc d_W_0 28 rfl) m_W_13 kn_K_time kv_K_time k_K_time o_K (by decide) rfl hK rfl rfl (Nat.le_of_ble_eq_true rfl) (by decide) ?_
  refine v_aload_n cx (tk_dc d_W_0 29 rfl) rfl ?_
  refine v_aload_n cx (tk_dc d_W_0 30 rfl) rfl ?_
  refine v_iload_n cx (tk_dc d_W_0 31 rfl) rfl ?_
  refine v_iconst cx (tk_dc d_W_0 32 rfl) (1) (by decide) ?_
  refine v_iadd cx (tk_dc d_W_0 33 rfl) ?_
  refine v_sld cx hX hb hL (tk_dc d_W_0 34 rfl) (i + 1) (nI_add i 1) (by omega) ?_
  refine v_callVR (rest := [.int r]) cx (tk_dc d_W_0 35 rfl) m_W_17 kn_M_time kv_M_time k_M_time o_M (by decide) rfl hM rfl rfl (Nat.le_of_ble_eq_true rfl) (by decide) (fun r2 M2 h2 => ?_)
  obtain ⟨rfl, h3⟩ := h2
  refine v_icmp_eq cx (tk_dc d_W_0 36 rfl) 910 (by decide) (fun _ => ?_) (fun h => absurd rfl h)
  exact kk M2 (hN M2 h3)
set_option maxHeartbeats 4000000 in
set_option maxRecDepth 100000 in
theorem lc_shift (cx : tk_X p s m #[Value.ref b] c code 4 R_W E 0) (hX : va_X b L xs s s.heap) (hb : b < E.1) (hL : L ≤ 2560) {i T : Nat} {M : tk_M} (hi : i + 5 ≤ L) (hT : T ≤ 1000) (h : ∃ c, RR M M T c) (kk : ∀ M2, (∃ c, RR M2 M2 (T + 1) c) → tk_V p l e room_1 s m #[Value.ref b] below meth c Q E 4 209 (tk_ct E M2) 209 3634 910 [some (.ref b), some (.ref (E.1 + 0)), some (.ref (E.1 + 172)), some (.int (nI i))] []) : tk_V p l e room_1 s m #[Value.ref b] below meth c Q E 4 209 (tk_ct E M) 209 3634 159 [some (.ref b), some (.ref (E.1 + 0)), some (.ref (E.1 + 172)), some (.int (nI i))] [] := by
  obtain ⟨c0, hc⟩ := h
  obtain ⟨r, M1, N, hK, hM, hN⟩ := sim_shift (l := l) (E := E) (x := xs (i + 1)) (y := xs (i + 2)) (w := xs (i + 3)) hc
  refine v_aload_n cx (tk_dc d_W_0 39 rfl) rfl ?_
  refine v_aload_n cx (tk_dc d_W_0 40 rfl) rfl ?_
  refine v_iload_n cx (tk_dc d_W_0 41 rfl) rfl ?_
  refine v_iconst cx (tk_dc d_W_0 42 rfl) (1) (by decide) ?_
  refine v_iadd cx (tk_dc d_W_0 43 rfl) ?_
  refine v_sld cx hX hb hL (tk_dc d_W_0 44 rfl) (i + 1) (nI_add i 1) (by omega) ?_
  refine v_aload_n cx (tk_dc d_W_0 45 rfl) rfl ?_
  refine v_iload_n cx (tk_dc d_W_1 0 rfl) rfl ?_
  refine v_iconst cx (tk_dc d_W_1 1 rfl) (2) (by decide) ?_
  refine v_iadd cx (tk_dc d_W_1 2 rfl) ?_
  refine v_sld cx hX hb hL (tk_dc d_W_1 3 rfl) (i + 2) (nI_add i 2) (by omega) ?_
  refine v_aload_n cx (tk_dc d_W_1 4 rfl) rfl ?_
  refine v_iload_n cx (tk_dc d_W_1 5 rfl) rfl ?_
  refine v_iconst cx (tk_dc d_W_1 6 rfl) (3) (by decide) ?_
  refine v_iadd cx (tk_dc d_W_1 7 rfl) ?_
  refine v_sld cx hX hb hL (tk_dc d_W_1 8 rfl) (i + 3) (nI_add i 3) (by omega) ?_
  refine v_callV (rest := []) cx (tk_dc d_W_1 9 rfl) m_W_18 kn_K_shift kv_K_shift k_K_shift o_K (by decide) rfl hK rfl rfl (Nat.le_of_ble_eq_true rfl) (by decide) ?_
  refine v_aload_n cx (tk_dc d_W_1 10 rfl) rfl ?_
  refine v_aload_n cx (tk_dc d_W_1 11 rfl) rfl ?_
  refine v_iload_n cx (tk_dc d_W_1 12 rfl) rfl ?_
  refine v_iconst cx (tk_dc d_W_1 13 rfl) (1) (by decide) ?_
  refine v_iadd cx (tk_dc d_W_1 14 rfl) ?_
  refine v_sld cx hX hb hL (tk_dc d_W_1 15 rfl) (i + 1) (nI_add i 1) (by omega) ?_
  refine v_aload_n cx (tk_dc d_W_1 16 rfl) rfl ?_
  refine v_iload_n cx (tk_dc d_W_1 17 rfl) rfl ?_
  refine v_iconst cx (tk_dc d_W_1 18 rfl) (2) (by decide) ?_
  refine v_iadd cx (tk_dc d_W_1 19 rfl) ?_
  refine v_sld cx hX hb hL (tk_dc d_W_1 20 rfl) (i + 2) (nI_add i 2) (by omega) ?_
  refine v_aload_n cx (tk_dc d_W_1 21 rfl) rfl ?_
  refine v_iload_n cx (tk_dc d_W_1 22 rfl) rfl ?_
  refine v_iconst cx (tk_dc d_W_1 23 rfl) (3) (by decide) ?_
  refine v_iadd cx (tk_dc d_W_1 24 rfl) ?_
  refine v_sld cx hX hb hL (tk_dc d_W_1 25 rfl) (i + 3) (nI_add i 3) (by omega) ?_
  refine v_callVR (rest := [.int r]) cx (tk_dc d_W_1 26 rfl) m_W_22 kn_M_shift kv_M_shift k_M_shift o_M (by decide) rfl hM rfl rfl (Nat.le_of_ble_eq_true rfl) (by decide) (fun r2 M2 h2 => ?_)
  obtain ⟨rfl, h3⟩ := h2
  refine v_icmp_eq cx (tk_dc d_W_1 27 rfl) 910 (by decide) (fun _ => ?_) (fun h => absurd rfl h)
  exact kk M2 (hN M2 h3)
set_option maxHeartbeats 4000000 in
set_option maxRecDepth 100000 in
theorem lc_holiday (cx : tk_X p s m #[Value.ref b] c code 4 R_W E 0) (hX : va_X b L xs s s.heap) (hb : b < E.1) (hL : L ≤ 2560) {i T : Nat} {M : tk_M} (hi : i + 5 ≤ L) (hT : T ≤ 1000) (h : ∃ c, RR M M T c) (kk : ∀ M2, (∃ c, RR M2 M2 (T + 1) c) → tk_V p l e room_1 s m #[Value.ref b] below meth c Q E 4 209 (tk_ct E M2) 209 3634 910 [some (.ref b), some (.ref (E.1 + 0)), some (.ref (E.1 + 172)), some (.int (nI i))] []) : tk_V p l e room_1 s m #[Value.ref b] below meth c Q E 4 209 (tk_ct E M) 209 3634 202 [some (.ref b), some (.ref (E.1 + 0)), some (.ref (E.1 + 172)), some (.int (nI i))] [] := by
  obtain ⟨c0, hc⟩ := h
  obtain ⟨r, M1, N, hK, hM, hN⟩ := sim_holiday (l := l) (E := E) (x := xs (i + 1)) (y := xs (i + 2)) hc
  refine v_aload_n cx (tk_dc d_W_1 30 rfl) rfl ?_
  refine v_aload_n cx (tk_dc d_W_1 31 rfl) rfl ?_
  refine v_iload_n cx (tk_dc d_W_1 32 rfl) rfl ?_
  refine v_iconst cx (tk_dc d_W_1 33 rfl) (1) (by decide) ?_
  refine v_iadd cx (tk_dc d_W_1 34 rfl) ?_
  refine v_sld cx hX hb hL (tk_dc d_W_1 35 rfl) (i + 1) (nI_add i 1) (by omega) ?_
  refine v_aload_n cx (tk_dc d_W_1 36 rfl) rfl ?_
  refine v_iload_n cx (tk_dc d_W_1 37 rfl) rfl ?_
  refine v_iconst cx (tk_dc d_W_1 38 rfl) (2) (by decide) ?_
  refine v_iadd cx (tk_dc d_W_1 39 rfl) ?_
  refine v_sld cx hX hb hL (tk_dc d_W_1 40 rfl) (i + 2) (nI_add i 2) (by omega) ?_
  refine v_callV (rest := []) cx (tk_dc d_W_1 41 rfl) m_W_23 kn_K_holiday kv_K_holiday k_K_holiday o_K (by decide) rfl hK rfl rfl (Nat.le_of_ble_eq_true rfl) (by decide) ?_
  refine v_aload_n cx (tk_dc d_W_1 42 rfl) rfl ?_
  refine v_aload_n cx (tk_dc d_W_1 43 rfl) rfl ?_
  refine v_iload_n cx (tk_dc d_W_1 44 rfl) rfl ?_
  refine v_iconst cx (tk_dc d_W_1 45 rfl) (1) (by decide) ?_
  refine v_iadd cx (tk_dc d_W_2 0 rfl) ?_
  refine v_sld cx hX hb hL (tk_dc d_W_2 1 rfl) (i + 1) (nI_add i 1) (by omega) ?_
  refine v_aload_n cx (tk_dc d_W_2 2 rfl) rfl ?_
  refine v_iload_n cx (tk_dc d_W_2 3 rfl) rfl ?_
  refine v_iconst cx (tk_dc d_W_2 4 rfl) (2) (by decide) ?_
  refine v_iadd cx (tk_dc d_W_2 5 rfl) ?_
  refine v_sld cx hX hb hL (tk_dc d_W_2 6 rfl) (i + 2) (nI_add i 2) (by omega) ?_
  refine v_callVR (rest := [.int r]) cx (tk_dc d_W_2 7 rfl) m_W_27 kn_M_holiday kv_M_holiday k_M_holiday o_M (by decide) rfl hM rfl rfl (Nat.le_of_ble_eq_true rfl) (by decide) (fun r2 M2 h2 => ?_)
  obtain ⟨rfl, h3⟩ := h2
  refine v_icmp_eq cx (tk_dc d_W_2 8 rfl) 910 (by decide) (fun _ => ?_) (fun h => absurd rfl h)
  exact kk M2 (hN M2 h3)
set_option maxHeartbeats 4000000 in
set_option maxRecDepth 100000 in
theorem lc_mask (cx : tk_X p s m #[Value.ref b] c code 4 R_W E 0) (hX : va_X b L xs s s.heap) (hb : b < E.1) (hL : L ≤ 2560) {i T : Nat} {M : tk_M} (hi : i + 5 ≤ L) (hT : T ≤ 1000) (h : ∃ c, RR M M T c) (kk : ∀ M2, (∃ c, RR M2 M2 (T + 1) c) → tk_V p l e room_1 s m #[Value.ref b] below meth c Q E 4 209 (tk_ct E M2) 209 3634 910 [some (.ref b), some (.ref (E.1 + 0)), some (.ref (E.1 + 172)), some (.int (nI i))] []) : tk_V p l e room_1 s m #[Value.ref b] below meth c Q E 4 209 (tk_ct E M) 209 3634 235 [some (.ref b), some (.ref (E.1 + 0)), some (.ref (E.1 + 172)), some (.int (nI i))] [] := by
  obtain ⟨c0, hc⟩ := h
  obtain ⟨r, M1, N, hK, hM, hN⟩ := sim_mask (l := l) (E := E) (x := xs (i + 1)) (y := xs (i + 2)) (w := xs (i + 3)) (v := xs (i + 4)) hc
  refine v_aload_n cx (tk_dc d_W_2 11 rfl) rfl ?_
  refine v_aload_n cx (tk_dc d_W_2 12 rfl) rfl ?_
  refine v_iload_n cx (tk_dc d_W_2 13 rfl) rfl ?_
  refine v_iconst cx (tk_dc d_W_2 14 rfl) (1) (by decide) ?_
  refine v_iadd cx (tk_dc d_W_2 15 rfl) ?_
  refine v_sld cx hX hb hL (tk_dc d_W_2 16 rfl) (i + 1) (nI_add i 1) (by omega) ?_
  refine v_aload_n cx (tk_dc d_W_2 17 rfl) rfl ?_
  refine v_iload_n cx (tk_dc d_W_2 18 rfl) rfl ?_
  refine v_iconst cx (tk_dc d_W_2 19 rfl) (2) (by decide) ?_
  refine v_iadd cx (tk_dc d_W_2 20 rfl) ?_
  refine v_sld cx hX hb hL (tk_dc d_W_2 21 rfl) (i + 2) (nI_add i 2) (by omega) ?_
  refine v_aload_n cx (tk_dc d_W_2 22 rfl) rfl ?_
  refine v_iload_n cx (tk_dc d_W_2 23 rfl) rfl ?_
  refine v_iconst cx (tk_dc d_W_2 24 rfl) (3) (by decide) ?_
  refine v_iadd cx (tk_dc d_W_2 25 rfl) ?_
  refine v_sld cx hX hb hL (tk_dc d_W_2 26 rfl) (i + 3) (nI_add i 3) (by omega) ?_
  refine v_aload_n cx (tk_dc d_W_2 27 rfl) rfl ?_
  refine v_iload_n cx (tk_dc d_W_2 28 rfl) rfl ?_
  refine v_iconst cx (tk_dc d_W_2 29 rfl) (4) (by decide) ?_
  refine v_iadd cx (tk_dc d_W_2 30 rfl) ?_
  refine v_sld cx hX hb hL (tk_dc d_W_2 31 rfl) (i + 4) (nI_add i 4) (by omega) ?_
  refine v_callV (rest := []) cx (tk_dc d_W_2 32 rfl) m_W_28 kn_K_mask kv_K_mask k_K_mask o_K (by decide) rfl hK rfl rfl (Nat.le_of_ble_eq_true rfl) (by decide) ?_
  refine v_aload_n cx (tk_dc d_W_2 33 rfl) rfl ?_
  refine v_aload_n cx (tk_dc d_W_2 34 rfl) rfl ?_
  refine v_iload_n cx (tk_dc d_W_2 35 rfl) rfl ?_
  refine v_iconst cx (tk_dc d_W_2 36 rfl) (1) (by decide) ?_
  refine v_iadd cx (tk_dc d_W_2 37 rfl) ?_
  refine v_sld cx hX hb hL (tk_dc d_W_2 38 rfl) (i + 1) (nI_add i 1) (by omega) ?_
  refine v_aload_n cx (tk_dc d_W_2 39 rfl) rfl ?_
  refine v_iload_n cx (tk_dc d_W_2 40 rfl) rfl ?_
  refine v_iconst cx (tk_dc d_W_2 41 rfl) (2) (by decide) ?_
  refine v_iadd cx (tk_dc d_W_2 42 rfl) ?_
  refine v_sld cx hX hb hL (tk_dc d_W_2 43 rfl) (i + 2) (nI_add i 2) (by omega) ?_
  refine v_aload_n cx (tk_dc d_W_2 44 rfl) rfl ?_
  refine v_iload_n cx (tk_dc d_W_2 45 rfl) rfl ?_
  refine v_iconst cx (tk_dc d_W_3 0 rfl) (3) (by decide) ?_
  refine v_iadd cx (tk_dc d_W_3 1 rfl) ?_
  refine v_sld cx hX hb hL (tk_dc d_W_3 2 rfl) (i + 3) (nI_add i 3) (by omega) ?_
  refine v_aload_n cx (tk_dc d_W_3 3 rfl) rfl ?_
  refine v_iload_n cx (tk_dc d_W_3 4 rfl) rfl ?_
  refine v_iconst cx (tk_dc d_W_3 5 rfl) (4) (by decide) ?_
  refine v_iadd cx (tk_dc d_W_3 6 rfl) ?_
  refine v_sld cx hX hb hL (tk_dc d_W_3 7 rfl) (i + 4) (nI_add i 4) (by omega) ?_
  refine v_callVR (rest := [.int r]) cx (tk_dc d_W_3 8 rfl) m_W_32 kn_M_mask kv_M_mask k_M_mask o_M (by decide) rfl hM rfl rfl (Nat.le_of_ble_eq_true rfl) (by decide) (fun r2 M2 h2 => ?_)
  obtain ⟨rfl, h3⟩ := h2
  refine v_icmp_eq cx (tk_dc d_W_3 9 rfl) 910 (by decide) (fun _ => ?_) (fun h => absurd rfl h)
  exact kk M2 (hN M2 h3)
set_option maxHeartbeats 4000000 in
set_option maxRecDepth 100000 in
theorem lc_nth (cx : tk_X p s m #[Value.ref b] c code 4 R_W E 0) (hX : va_X b L xs s s.heap) (hb : b < E.1) (hL : L ≤ 2560) {i T : Nat} {M : tk_M} (hi : i + 5 ≤ L) (hT : T ≤ 1000) (h : ∃ c, RR M M T c) (kk : ∀ M2, (∃ c, RR M2 M2 (T + 1) c) → tk_V p l e room_1 s m #[Value.ref b] below meth c Q E 4 209 (tk_ct E M2) 209 3634 910 [some (.ref b), some (.ref (E.1 + 0)), some (.ref (E.1 + 172)), some (.int (nI i))] []) : tk_V p l e room_1 s m #[Value.ref b] below meth c Q E 4 209 (tk_ct E M) 209 3634 288 [some (.ref b), some (.ref (E.1 + 0)), some (.ref (E.1 + 172)), some (.int (nI i))] [] := by
  obtain ⟨c0, hc⟩ := h
  obtain ⟨r, M1, N, hK, hM, hN⟩ := sim_nth (l := l) (E := E) (x := xs (i + 1)) (y := xs (i + 2)) (w := xs (i + 3)) hc
  refine v_aload_n cx (tk_dc d_W_3 12 rfl) rfl ?_
  refine v_aload_n cx (tk_dc d_W_3 13 rfl) rfl ?_
  refine v_iload_n cx (tk_dc d_W_3 14 rfl) rfl ?_
  refine v_iconst cx (tk_dc d_W_3 15 rfl) (1) (by decide) ?_
  refine v_iadd cx (tk_dc d_W_3 16 rfl) ?_
  refine v_sld cx hX hb hL (tk_dc d_W_3 17 rfl) (i + 1) (nI_add i 1) (by omega) ?_
  refine v_aload_n cx (tk_dc d_W_3 18 rfl) rfl ?_
  refine v_iload_n cx (tk_dc d_W_3 19 rfl) rfl ?_
  refine v_iconst cx (tk_dc d_W_3 20 rfl) (2) (by decide) ?_
  refine v_iadd cx (tk_dc d_W_3 21 rfl) ?_
  refine v_sld cx hX hb hL (tk_dc d_W_3 22 rfl) (i + 2) (nI_add i 2) (by omega) ?_
  refine v_aload_n cx (tk_dc d_W_3 23 rfl) rfl ?_
  refine v_iload_n cx (tk_dc d_W_3 24 rfl) rfl ?_
  refine v_iconst cx (tk_dc d_W_3 25 rfl) (3) (by decide) ?_
  refine v_iadd cx (tk_dc d_W_3 26 rfl) ?_
  refine v_sld cx hX hb hL (tk_dc d_W_3 27 rfl) (i + 3) (nI_add i 3) (by omega) ?_
  refine v_callV (rest := []) cx (tk_dc d_W_3 28 rfl) m_W_33 kn_K_nth kv_K_nth k_K_nth o_K (by decide) rfl hK rfl rfl (Nat.le_of_ble_eq_true rfl) (by decide) ?_
  refine v_aload_n cx (tk_dc d_W_3 29 rfl) rfl ?_
  refine v_aload_n cx (tk_dc d_W_3 30 rfl) rfl ?_
  refine v_iload_n cx (tk_dc d_W_3 31 rfl) rfl ?_
  refine v_iconst cx (tk_dc d_W_3 32 rfl) (1) (by decide) ?_
  refine v_iadd cx (tk_dc d_W_3 33 rfl) ?_
  refine v_sld cx hX hb hL (tk_dc d_W_3 34 rfl) (i + 1) (nI_add i 1) (by omega) ?_
  refine v_aload_n cx (tk_dc d_W_3 35 rfl) rfl ?_
  refine v_iload_n cx (tk_dc d_W_3 36 rfl) rfl ?_
  refine v_iconst cx (tk_dc d_W_3 37 rfl) (2) (by decide) ?_
  refine v_iadd cx (tk_dc d_W_3 38 rfl) ?_
  refine v_sld cx hX hb hL (tk_dc d_W_3 39 rfl) (i + 2) (nI_add i 2) (by omega) ?_
  refine v_aload_n cx (tk_dc d_W_3 40 rfl) rfl ?_
  refine v_iload_n cx (tk_dc d_W_3 41 rfl) rfl ?_
  refine v_iconst cx (tk_dc d_W_3 42 rfl) (3) (by decide) ?_
  refine v_iadd cx (tk_dc d_W_3 43 rfl) ?_
  refine v_sld cx hX hb hL (tk_dc d_W_3 44 rfl) (i + 3) (nI_add i 3) (by omega) ?_
  refine v_callVR (rest := [.int r]) cx (tk_dc d_W_3 45 rfl) m_W_36 kn_M_nth kv_M_nth k_M_nth o_M (by decide) rfl hM rfl rfl (Nat.le_of_ble_eq_true rfl) (by decide) (fun r2 M2 h2 => ?_)
  obtain ⟨rfl, h3⟩ := h2
  refine v_icmp_eq cx (tk_dc d_W_4 0 rfl) 910 (by decide) (fun _ => ?_) (fun h => absurd rfl h)
  exact kk M2 (hN M2 h3)
set_option maxHeartbeats 4000000 in
set_option maxRecDepth 100000 in
theorem lc_set (cx : tk_X p s m #[Value.ref b] c code 4 R_W E 0) (hX : va_X b L xs s s.heap) (hb : b < E.1) (hL : L ≤ 2560) {i T : Nat} {M : tk_M} (hi : i + 5 ≤ L) (hT : T ≤ 1000) (h : ∃ c, RR M M T c) (kk : ∀ M2, (∃ c, RR M2 M2 (T + 1) c) → tk_V p l e room_1 s m #[Value.ref b] below meth c Q E 4 209 (tk_ct E M2) 209 3634 910 [some (.ref b), some (.ref (E.1 + 0)), some (.ref (E.1 + 172)), some (.int (nI i))] []) : tk_V p l e room_1 s m #[Value.ref b] below meth c Q E 4 209 (tk_ct E M) 209 3634 331 [some (.ref b), some (.ref (E.1 + 0)), some (.ref (E.1 + 172)), some (.int (nI i))] [] := by
  obtain ⟨c0, hc⟩ := h
  obtain ⟨r, M1, N, hK, hM, hN⟩ := sim_set (l := l) (E := E) (x := xs (i + 1)) (y := xs (i + 2)) (w := xs (i + 3)) hc
  refine v_aload_n cx (tk_dc d_W_4 3 rfl) rfl ?_
  refine v_aload_n cx (tk_dc d_W_4 4 rfl) rfl ?_
  refine v_iload_n cx (tk_dc d_W_4 5 rfl) rfl ?_
  refine v_iconst cx (tk_dc d_W_4 6 rfl) (1) (by decide) ?_
  refine v_iadd cx (tk_dc d_W_4 7 rfl) ?_
  refine v_sld cx hX hb hL (tk_dc d_W_4 8 rfl) (i + 1) (nI_add i 1) (by omega) ?_
  refine v_aload_n cx (tk_dc d_W_4 9 rfl) rfl ?_
  refine v_iload_n cx (tk_dc d_W_4 10 rfl) rfl ?_
  refine v_iconst cx (tk_dc d_W_4 11 rfl) (2) (by decide) ?_
  refine v_iadd cx (tk_dc d_W_4 12 rfl) ?_
  refine v_sld cx hX hb hL (tk_dc d_W_4 13 rfl) (i + 2) (nI_add i 2) (by omega) ?_
  refine v_aload_n cx (tk_dc d_W_4 14 rfl) rfl ?_
  refine v_iload_n cx (tk_dc d_W_4 15 rfl) rfl ?_
  refine v_iconst cx (tk_dc d_W_4 16 rfl) (3) (by decide) ?_
  refine v_iadd cx (tk_dc d_W_4 17 rfl) ?_
  refine v_sld cx hX hb hL (tk_dc d_W_4 18 rfl) (i + 3) (nI_add i 3) (by omega) ?_
  refine v_callV (rest := []) cx (tk_dc d_W_4 19 rfl) m_W_37 kn_K_set kv_K_set k_K_set o_K (by decide) rfl hK rfl rfl (Nat.le_of_ble_eq_true rfl) (by decide) ?_
  refine v_aload_n cx (tk_dc d_W_4 20 rfl) rfl ?_
  refine v_aload_n cx (tk_dc d_W_4 21 rfl) rfl ?_
  refine v_iload_n cx (tk_dc d_W_4 22 rfl) rfl ?_
  refine v_iconst cx (tk_dc d_W_4 23 rfl) (1) (by decide) ?_
  refine v_iadd cx (tk_dc d_W_4 24 rfl) ?_
  refine v_sld cx hX hb hL (tk_dc d_W_4 25 rfl) (i + 1) (nI_add i 1) (by omega) ?_
  refine v_aload_n cx (tk_dc d_W_4 26 rfl) rfl ?_
  refine v_iload_n cx (tk_dc d_W_4 27 rfl) rfl ?_
  refine v_iconst cx (tk_dc d_W_4 28 rfl) (2) (by decide) ?_
  refine v_iadd cx (tk_dc d_W_4 29 rfl) ?_
  refine v_sld cx hX hb hL (tk_dc d_W_4 30 rfl) (i + 2) (nI_add i 2) (by omega) ?_
  refine v_aload_n cx (tk_dc d_W_4 31 rfl) rfl ?_
  refine v_iload_n cx (tk_dc d_W_4 32 rfl) rfl ?_
  refine v_iconst cx (tk_dc d_W_4 33 rfl) (3) (by decide) ?_
  refine v_iadd cx (tk_dc d_W_4 34 rfl) ?_
  refine v_sld cx hX hb hL (tk_dc d_W_4 35 rfl) (i + 3) (nI_add i 3) (by omega) ?_
  refine v_callVR (rest := [.int r]) cx (tk_dc d_W_4 36 rfl) m_W_40 kn_M_set kv_M_set k_M_set o_M (by decide) rfl hM rfl rfl (Nat.le_of_ble_eq_true rfl) (by decide) (fun r2 M2 h2 => ?_)
  obtain ⟨rfl, h3⟩ := h2
  refine v_icmp_eq cx (tk_dc d_W_4 37 rfl) 910 (by decide) (fun _ => ?_) (fun h => absurd rfl h)
  exact kk M2 (hN M2 h3)
set_option maxHeartbeats 4000000 in
set_option maxRecDepth 100000 in
theorem lc_except (cx : tk_X p s m #[Value.ref b] c code 4 R_W E 0) (hX : va_X b L xs s s.heap) (hb : b < E.1) (hL : L ≤ 2560) {i T : Nat} {M : tk_M} (hi : i + 5 ≤ L) (hT : T ≤ 1000) (h : ∃ c, RR M M T c) (kk : ∀ M2, (∃ c, RR M2 M2 (T + 1) c) → tk_V p l e room_1 s m #[Value.ref b] below meth c Q E 4 209 (tk_ct E M2) 209 3634 910 [some (.ref b), some (.ref (E.1 + 0)), some (.ref (E.1 + 172)), some (.int (nI i))] []) : tk_V p l e room_1 s m #[Value.ref b] below meth c Q E 4 209 (tk_ct E M) 209 3634 374 [some (.ref b), some (.ref (E.1 + 0)), some (.ref (E.1 + 172)), some (.int (nI i))] [] := by
  obtain ⟨c0, hc⟩ := h
  obtain ⟨r, M1, N, hK, hM, hN⟩ := sim_except (l := l) (E := E) (x := xs (i + 1)) (y := xs (i + 2)) hc
  refine v_aload_n cx (tk_dc d_W_4 40 rfl) rfl ?_
  refine v_aload_n cx (tk_dc d_W_4 41 rfl) rfl ?_
  refine v_iload_n cx (tk_dc d_W_4 42 rfl) rfl ?_
  refine v_iconst cx (tk_dc d_W_4 43 rfl) (1) (by decide) ?_
  refine v_iadd cx (tk_dc d_W_4 44 rfl) ?_
  refine v_sld cx hX hb hL (tk_dc d_W_4 45 rfl) (i + 1) (nI_add i 1) (by omega) ?_
  refine v_aload_n cx (tk_dc d_W_5 0 rfl) rfl ?_
  refine v_iload_n cx (tk_dc d_W_5 1 rfl) rfl ?_
  refine v_iconst cx (tk_dc d_W_5 2 rfl) (2) (by decide) ?_
  refine v_iadd cx (tk_dc d_W_5 3 rfl) ?_
  refine v_sld cx hX hb hL (tk_dc d_W_5 4 rfl) (i + 2) (nI_add i 2) (by omega) ?_
  refine v_callV (rest := []) cx (tk_dc d_W_5 5 rfl) m_W_41 kn_K_except kv_K_except k_K_except o_K (by decide) rfl hK rfl rfl (Nat.le_of_ble_eq_true rfl) (by decide) ?_
  refine v_aload_n cx (tk_dc d_W_5 6 rfl) rfl ?_
  refine v_aload_n cx (tk_dc d_W_5 7 rfl) rfl ?_
  refine v_iload_n cx (tk_dc d_W_5 8 rfl) rfl ?_
  refine v_iconst cx (tk_dc d_W_5 9 rfl) (1) (by decide) ?_
  refine v_iadd cx (tk_dc d_W_5 10 rfl) ?_
  refine v_sld cx hX hb hL (tk_dc d_W_5 11 rfl) (i + 1) (nI_add i 1) (by omega) ?_
  refine v_aload_n cx (tk_dc d_W_5 12 rfl) rfl ?_
  refine v_iload_n cx (tk_dc d_W_5 13 rfl) rfl ?_
  refine v_iconst cx (tk_dc d_W_5 14 rfl) (2) (by decide) ?_
  refine v_iadd cx (tk_dc d_W_5 15 rfl) ?_
  refine v_sld cx hX hb hL (tk_dc d_W_5 16 rfl) (i + 2) (nI_add i 2) (by omega) ?_
  refine v_callVR (rest := [.int r]) cx (tk_dc d_W_5 17 rfl) m_W_44 kn_M_except kv_M_except k_M_except o_M (by decide) rfl hM rfl rfl (Nat.le_of_ble_eq_true rfl) (by decide) (fun r2 M2 h2 => ?_)
  obtain ⟨rfl, h3⟩ := h2
  refine v_icmp_eq cx (tk_dc d_W_5 18 rfl) 910 (by decide) (fun _ => ?_) (fun h => absurd rfl h)
  exact kk M2 (hN M2 h3)
set_option maxHeartbeats 4000000 in
set_option maxRecDepth 100000 in
theorem lc_after (cx : tk_X p s m #[Value.ref b] c code 4 R_W E 0) (hX : va_X b L xs s s.heap) (hb : b < E.1) (hL : L ≤ 2560) {i T : Nat} {M : tk_M} (hi : i + 5 ≤ L) (hT : T ≤ 1000) (h : ∃ c, RR M M T c) (kk : ∀ M2, (∃ c, RR M2 M2 (T + 1) c) → tk_V p l e room_1 s m #[Value.ref b] below meth c Q E 4 209 (tk_ct E M2) 209 3634 910 [some (.ref b), some (.ref (E.1 + 0)), some (.ref (E.1 + 172)), some (.int (nI i))] []) : tk_V p l e room_1 s m #[Value.ref b] below meth c Q E 4 209 (tk_ct E M) 209 3634 407 [some (.ref b), some (.ref (E.1 + 0)), some (.ref (E.1 + 172)), some (.int (nI i))] [] := by
  obtain ⟨c0, hc⟩ := h
  by_cases hz : xs (i + 3) = 0
  · obtain ⟨r, M1, N, hK, hM, hN⟩ := sim_after (l := l) (E := E) (x := xs (i + 1)) (y := xs (i + 2)) (w := 0) hc (Or.inl rfl)
    refine v_aload_n cx (tk_dc d_W_5 21 rfl) rfl ?_
    refine v_aload_n cx (tk_dc d_W_5 22 rfl) rfl ?_
    refine v_iload_n cx (tk_dc d_W_5 23 rfl) rfl ?_
    refine v_iconst cx (tk_dc d_W_5 24 rfl) (1) (by decide) ?_
    refine v_iadd cx (tk_dc d_W_5 25 rfl) ?_
    refine v_sld cx hX hb hL (tk_dc d_W_5 26 rfl) (i + 1) (nI_add i 1) (by omega) ?_
    refine v_aload_n cx (tk_dc d_W_5 27 rfl) rfl ?_
    refine v_iload_n cx (tk_dc d_W_5 28 rfl) rfl ?_
    refine v_iconst cx (tk_dc d_W_5 29 rfl) (2) (by decide) ?_
    refine v_iadd cx (tk_dc d_W_5 30 rfl) ?_
    refine v_sld cx hX hb hL (tk_dc d_W_5 31 rfl) (i + 2) (nI_add i 2) (by omega) ?_
    refine v_aload_n cx (tk_dc d_W_5 32 rfl) rfl ?_
    refine v_iload_n cx (tk_dc d_W_5 33 rfl) rfl ?_
    refine v_iconst cx (tk_dc d_W_5 34 rfl) (3) (by decide) ?_
    refine v_iadd cx (tk_dc d_W_5 35 rfl) ?_
    refine v_sld cx hX hb hL (tk_dc d_W_5 36 rfl) (i + 3) (nI_add i 3) (by omega) ?_
    refine v_if_eq cx (tk_dc d_W_5 37 rfl) 430 (by decide) (fun _ => ?_) (fun h => absurd hz h)
    refine v_iconst cx (tk_dc d_W_5 40 rfl) (0) (by decide) ?_
    refine v_callV (rest := []) cx (tk_dc d_W_5 41 rfl) m_W_45 kn_K_after kv_K_after k_K_after o_K (by decide) rfl hK rfl rfl (Nat.le_of_ble_eq_true rfl) (by decide) ?_
    refine v_aload_n cx (tk_dc d_W_5 42 rfl) rfl ?_
    refine v_aload_n cx (tk_dc d_W_5 43 rfl) rfl ?_
    refine v_iload_n cx (tk_dc d_W_5 44 rfl) rfl ?_
    refine v_iconst cx (tk_dc d_W_5 45 rfl) (1) (by decide) ?_
    refine v_iadd cx (tk_dc d_W_6 0 rfl) ?_
    refine v_sld cx hX hb hL (tk_dc d_W_6 1 rfl) (i + 1) (nI_add i 1) (by omega) ?_
    refine v_aload_n cx (tk_dc d_W_6 2 rfl) rfl ?_
    refine v_iload_n cx (tk_dc d_W_6 3 rfl) rfl ?_
    refine v_iconst cx (tk_dc d_W_6 4 rfl) (2) (by decide) ?_
    refine v_iadd cx (tk_dc d_W_6 5 rfl) ?_
    refine v_sld cx hX hb hL (tk_dc d_W_6 6 rfl) (i + 2) (nI_add i 2) (by omega) ?_
    refine v_aload_n cx (tk_dc d_W_6 7 rfl) rfl ?_
    refine v_iload_n cx (tk_dc d_W_6 8 rfl) rfl ?_
    refine v_iconst cx (tk_dc d_W_6 9 rfl) (3) (by decide) ?_
    refine v_iadd cx (tk_dc d_W_6 10 rfl) ?_
    refine v_sld cx hX hb hL (tk_dc d_W_6 11 rfl) (i + 3) (nI_add i 3) (by omega) ?_
    refine v_if_eq cx (tk_dc d_W_6 12 rfl) 457 (by decide) (fun _ => ?_) (fun h => absurd hz h)
    refine v_iconst cx (tk_dc d_W_6 15 rfl) (0) (by decide) ?_
    refine v_callVR (rest := [.int r]) cx (tk_dc d_W_6 16 rfl) m_W_49 kn_M_after kv_M_after k_M_after o_M (by decide) rfl hM rfl rfl (Nat.le_of_ble_eq_true rfl) (by decide) (fun r2 M2 h2 => ?_)
    obtain ⟨rfl, h3⟩ := h2
    refine v_icmp_eq cx (tk_dc d_W_6 17 rfl) 910 (by decide) (fun _ => ?_) (fun h => absurd rfl h)
    exact kk M2 (hN M2 h3)
  · obtain ⟨r, M1, N, hK, hM, hN⟩ := sim_after (l := l) (E := E) (x := xs (i + 1)) (y := xs (i + 2)) (w := 1) hc (Or.inr rfl)
    refine v_aload_n cx (tk_dc d_W_5 21 rfl) rfl ?_
    refine v_aload_n cx (tk_dc d_W_5 22 rfl) rfl ?_
    refine v_iload_n cx (tk_dc d_W_5 23 rfl) rfl ?_
    refine v_iconst cx (tk_dc d_W_5 24 rfl) (1) (by decide) ?_
    refine v_iadd cx (tk_dc d_W_5 25 rfl) ?_
    refine v_sld cx hX hb hL (tk_dc d_W_5 26 rfl) (i + 1) (nI_add i 1) (by omega) ?_
    refine v_aload_n cx (tk_dc d_W_5 27 rfl) rfl ?_
    refine v_iload_n cx (tk_dc d_W_5 28 rfl) rfl ?_
    refine v_iconst cx (tk_dc d_W_5 29 rfl) (2) (by decide) ?_
    refine v_iadd cx (tk_dc d_W_5 30 rfl) ?_
    refine v_sld cx hX hb hL (tk_dc d_W_5 31 rfl) (i + 2) (nI_add i 2) (by omega) ?_
    refine v_aload_n cx (tk_dc d_W_5 32 rfl) rfl ?_
    refine v_iload_n cx (tk_dc d_W_5 33 rfl) rfl ?_
    refine v_iconst cx (tk_dc d_W_5 34 rfl) (3) (by decide) ?_
    refine v_iadd cx (tk_dc d_W_5 35 rfl) ?_
    refine v_sld cx hX hb hL (tk_dc d_W_5 36 rfl) (i + 3) (nI_add i 3) (by omega) ?_
    refine v_if_eq cx (tk_dc d_W_5 37 rfl) 430 (by decide) (fun h => absurd h hz) (fun _ => ?_)
    refine v_iconst cx (tk_dc d_W_5 38 rfl) (1) (by decide) ?_
    refine v_goto cx (tk_dc d_W_5 39 rfl) 431 (by decide) ?_
    refine v_callV (rest := []) cx (tk_dc d_W_5 41 rfl) m_W_45 kn_K_after kv_K_after k_K_after o_K (by decide) rfl hK rfl rfl (Nat.le_of_ble_eq_true rfl) (by decide) ?_
    refine v_aload_n cx (tk_dc d_W_5 42 rfl) rfl ?_
    refine v_aload_n cx (tk_dc d_W_5 43 rfl) rfl ?_
    refine v_iload_n cx (tk_dc d_W_5 44 rfl) rfl ?_
    refine v_iconst cx (tk_dc d_W_5 45 rfl) (1) (by decide) ?_
    refine v_iadd cx (tk_dc d_W_6 0 rfl) ?_
    refine v_sld cx hX hb hL (tk_dc d_W_6 1 rfl) (i + 1) (nI_add i 1) (by omega) ?_
    refine v_aload_n cx (tk_dc d_W_6 2 rfl) rfl ?_
    refine v_iload_n cx (tk_dc d_W_6 3 rfl) rfl ?_
    refine v_iconst cx (tk_dc d_W_6 4 rfl) (2) (by decide) ?_
    refine v_iadd cx (tk_dc d_W_6 5 rfl) ?_
    refine v_sld cx hX hb hL (tk_dc d_W_6 6 rfl) (i + 2) (nI_add i 2) (by omega) ?_
    refine v_aload_n cx (tk_dc d_W_6 7 rfl) rfl ?_
    refine v_iload_n cx (tk_dc d_W_6 8 rfl) rfl ?_
    refine v_iconst cx (tk_dc d_W_6 9 rfl) (3) (by decide) ?_
    refine v_iadd cx (tk_dc d_W_6 10 rfl) ?_
    refine v_sld cx hX hb hL (tk_dc d_W_6 11 rfl) (i + 3) (nI_add i 3) (by omega) ?_
    refine v_if_eq cx (tk_dc d_W_6 12 rfl) 457 (by decide) (fun h => absurd h hz) (fun _ => ?_)
    refine v_iconst cx (tk_dc d_W_6 13 rfl) (1) (by decide) ?_
    refine v_goto cx (tk_dc d_W_6 14 rfl) 458 (by decide) ?_
    refine v_callVR (rest := [.int r]) cx (tk_dc d_W_6 16 rfl) m_W_49 kn_M_after kv_M_after k_M_after o_M (by decide) rfl hM rfl rfl (Nat.le_of_ble_eq_true rfl) (by decide) (fun r2 M2 h2 => ?_)
    obtain ⟨rfl, h3⟩ := h2
    refine v_icmp_eq cx (tk_dc d_W_6 17 rfl) 910 (by decide) (fun _ => ?_) (fun h => absurd rfl h)
    exact kk M2 (hN M2 h3)
set_option maxHeartbeats 4000000 in
set_option maxRecDepth 100000 in
theorem lc_isDue (cx : tk_X p s m #[Value.ref b] c code 4 R_W E 0) (hX : va_X b L xs s s.heap) (hb : b < E.1) (hL : L ≤ 2560) {i T : Nat} {M : tk_M} (hi : i + 5 ≤ L) (hT : T ≤ 1000) (h : ∃ c, RR M M T c) (kk : ∀ M2, (∃ c, RR M2 M2 (T + 1) c) → tk_V p l e room_1 s m #[Value.ref b] below meth c Q E 4 209 (tk_ct E M2) 209 3634 910 [some (.ref b), some (.ref (E.1 + 0)), some (.ref (E.1 + 172)), some (.int (nI i))] []) : tk_V p l e room_1 s m #[Value.ref b] below meth c Q E 4 209 (tk_ct E M) 209 3634 466 [some (.ref b), some (.ref (E.1 + 0)), some (.ref (E.1 + 172)), some (.int (nI i))] [] := by
  obtain ⟨c0, hc⟩ := h
  obtain ⟨r, M1, N, hK, hM, hN⟩ := sim_isDue (l := l) (E := E) (x := xs (i + 1)) (y := xs (i + 2)) hc
  refine v_aload_n cx (tk_dc d_W_6 20 rfl) rfl ?_
  refine v_aload_n cx (tk_dc d_W_6 21 rfl) rfl ?_
  refine v_iload_n cx (tk_dc d_W_6 22 rfl) rfl ?_
  refine v_iconst cx (tk_dc d_W_6 23 rfl) (1) (by decide) ?_
  refine v_iadd cx (tk_dc d_W_6 24 rfl) ?_
  refine v_sld cx hX hb hL (tk_dc d_W_6 25 rfl) (i + 1) (nI_add i 1) (by omega) ?_
  refine v_aload_n cx (tk_dc d_W_6 26 rfl) rfl ?_
  refine v_iload_n cx (tk_dc d_W_6 27 rfl) rfl ?_
  refine v_iconst cx (tk_dc d_W_6 28 rfl) (2) (by decide) ?_
  refine v_iadd cx (tk_dc d_W_6 29 rfl) ?_
  refine v_sld cx hX hb hL (tk_dc d_W_6 30 rfl) (i + 2) (nI_add i 2) (by omega) ?_
  refine v_callV (rest := []) cx (tk_dc d_W_6 31 rfl) m_W_50 kn_K_isDue kv_K_isDue k_K_isDue o_K (by decide) rfl hK rfl rfl (Nat.le_of_ble_eq_true rfl) (by decide) ?_
  refine v_aload_n cx (tk_dc d_W_6 32 rfl) rfl ?_
  refine v_aload_n cx (tk_dc d_W_6 33 rfl) rfl ?_
  refine v_iload_n cx (tk_dc d_W_6 34 rfl) rfl ?_
  refine v_iconst cx (tk_dc d_W_6 35 rfl) (1) (by decide) ?_
  refine v_iadd cx (tk_dc d_W_6 36 rfl) ?_
  refine v_sld cx hX hb hL (tk_dc d_W_6 37 rfl) (i + 1) (nI_add i 1) (by omega) ?_
  refine v_aload_n cx (tk_dc d_W_6 38 rfl) rfl ?_
  refine v_iload_n cx (tk_dc d_W_6 39 rfl) rfl ?_
  refine v_iconst cx (tk_dc d_W_6 40 rfl) (2) (by decide) ?_
  refine v_iadd cx (tk_dc d_W_6 41 rfl) ?_
  refine v_sld cx hX hb hL (tk_dc d_W_6 42 rfl) (i + 2) (nI_add i 2) (by omega) ?_
  refine v_callVR (rest := [.int r]) cx (tk_dc d_W_6 43 rfl) m_W_53 kn_M_isDue kv_M_isDue k_M_isDue o_M (by decide) rfl hM rfl rfl (Nat.le_of_ble_eq_true rfl) (by decide) (fun r2 M2 h2 => ?_)
  obtain ⟨rfl, h3⟩ := h2
  refine v_icmp_eq cx (tk_dc d_W_6 44 rfl) 910 (by decide) (fun _ => ?_) (fun h => absurd rfl h)
  exact kk M2 (hN M2 h3)
set_option maxHeartbeats 4000000 in
set_option maxRecDepth 100000 in
theorem lc_due (cx : tk_X p s m #[Value.ref b] c code 4 R_W E 0) (hX : va_X b L xs s s.heap) (hb : b < E.1) (hL : L ≤ 2560) {i T : Nat} {M : tk_M} (hi : i + 5 ≤ L) (hT : T ≤ 1000) (h : ∃ c, RR M M T c) (kk : ∀ M2, (∃ c, RR M2 M2 (T + 1) c) → tk_V p l e room_1 s m #[Value.ref b] below meth c Q E 4 209 (tk_ct E M2) 209 3634 910 [some (.ref b), some (.ref (E.1 + 0)), some (.ref (E.1 + 172)), some (.int (nI i))] []) : tk_V p l e room_1 s m #[Value.ref b] below meth c Q E 4 209 (tk_ct E M) 209 3634 499 [some (.ref b), some (.ref (E.1 + 0)), some (.ref (E.1 + 172)), some (.int (nI i))] [] := by
  obtain ⟨c0, hc⟩ := h
  obtain ⟨r, M1, N, hK, hM, hN⟩ := sim_due (l := l) (E := E) (x := xs (i + 1)) (y := xs (i + 2)) hc
  refine v_aload_n cx (tk_dc d_W_7 1 rfl) rfl ?_
  refine v_aload_n cx (tk_dc d_W_7 2 rfl) rfl ?_
  refine v_iload_n cx (tk_dc d_W_7 3 rfl) rfl ?_
  refine v_iconst cx (tk_dc d_W_7 4 rfl) (1) (by decide) ?_
  refine v_iadd cx (tk_dc d_W_7 5 rfl) ?_
  refine v_sld cx hX hb hL (tk_dc d_W_7 6 rfl) (i + 1) (nI_add i 1) (by omega) ?_
  refine v_aload_n cx (tk_dc d_W_7 7 rfl) rfl ?_
  refine v_iload_n cx (tk_dc d_W_7 8 rfl) rfl ?_
  refine v_iconst cx (tk_dc d_W_7 9 rfl) (2) (by decide) ?_
  refine v_iadd cx (tk_dc d_W_7 10 rfl) ?_
  refine v_sld cx hX hb hL (tk_dc d_W_7 11 rfl) (i + 2) (nI_add i 2) (by omega) ?_
  refine v_callV (rest := []) cx (tk_dc d_W_7 12 rfl) m_W_54 kn_K_due kv_K_due k_K_due o_K (by decide) rfl hK rfl rfl (Nat.le_of_ble_eq_true rfl) (by decide) ?_
  refine v_aload_n cx (tk_dc d_W_7 13 rfl) rfl ?_
  refine v_aload_n cx (tk_dc d_W_7 14 rfl) rfl ?_
  refine v_iload_n cx (tk_dc d_W_7 15 rfl) rfl ?_
  refine v_iconst cx (tk_dc d_W_7 16 rfl) (1) (by decide) ?_
  refine v_iadd cx (tk_dc d_W_7 17 rfl) ?_
  refine v_sld cx hX hb hL (tk_dc d_W_7 18 rfl) (i + 1) (nI_add i 1) (by omega) ?_
  refine v_aload_n cx (tk_dc d_W_7 19 rfl) rfl ?_
  refine v_iload_n cx (tk_dc d_W_7 20 rfl) rfl ?_
  refine v_iconst cx (tk_dc d_W_7 21 rfl) (2) (by decide) ?_
  refine v_iadd cx (tk_dc d_W_7 22 rfl) ?_
  refine v_sld cx hX hb hL (tk_dc d_W_7 23 rfl) (i + 2) (nI_add i 2) (by omega) ?_
  refine v_callVR (rest := [.int r]) cx (tk_dc d_W_7 24 rfl) m_W_58 kn_M_due kv_M_due k_M_due o_M (by decide) rfl hM rfl rfl (Nat.le_of_ble_eq_true rfl) (by decide) (fun r2 M2 h2 => ?_)
  obtain ⟨rfl, h3⟩ := h2
  refine v_icmp_eq cx (tk_dc d_W_7 25 rfl) 910 (by decide) (fun _ => ?_) (fun h => absurd rfl h)
  exact kk M2 (hN M2 h3)
set_option maxHeartbeats 4000000 in
set_option maxRecDepth 100000 in
theorem lc_local (cx : tk_X p s m #[Value.ref b] c code 4 R_W E 0) (hX : va_X b L xs s s.heap) (hb : b < E.1) (hL : L ≤ 2560) {i T : Nat} {M : tk_M} (hi : i + 5 ≤ L) (hT : T ≤ 1000) (h : ∃ c, RR M M T c) (kk : ∀ M2, (∃ c, RR M2 M2 (T + 1) c) → tk_V p l e room_1 s m #[Value.ref b] below meth c Q E 4 209 (tk_ct E M2) 209 3634 910 [some (.ref b), some (.ref (E.1 + 0)), some (.ref (E.1 + 172)), some (.int (nI i))] []) : tk_V p l e room_1 s m #[Value.ref b] below meth c Q E 4 209 (tk_ct E M) 209 3634 532 [some (.ref b), some (.ref (E.1 + 0)), some (.ref (E.1 + 172)), some (.int (nI i))] [] := by
  obtain ⟨c0, hc⟩ := h
  obtain ⟨r, M1, N, hK, hM, hN⟩ := sim_local (l := l) (E := E) (x := xs (i + 1)) (y := xs (i + 2)) hc
  refine v_aload_n cx (tk_dc d_W_7 28 rfl) rfl ?_
  refine v_aload_n cx (tk_dc d_W_7 29 rfl) rfl ?_
  refine v_iload_n cx (tk_dc d_W_7 30 rfl) rfl ?_
  refine v_iconst cx (tk_dc d_W_7 31 rfl) (1) (by decide) ?_
  refine v_iadd cx (tk_dc d_W_7 32 rfl) ?_
  refine v_sld cx hX hb hL (tk_dc d_W_7 33 rfl) (i + 1) (nI_add i 1) (by omega) ?_
  refine v_aload_n cx (tk_dc d_W_7 34 rfl) rfl ?_
  refine v_iload_n cx (tk_dc d_W_7 35 rfl) rfl ?_
  refine v_iconst cx (tk_dc d_W_7 36 rfl) (2) (by decide) ?_
  refine v_iadd cx (tk_dc d_W_7 37 rfl) ?_
  refine v_sld cx hX hb hL (tk_dc d_W_7 38 rfl) (i + 2) (nI_add i 2) (by omega) ?_
  refine v_callV (rest := []) cx (tk_dc d_W_7 39 rfl) m_W_59 kn_K_local kv_K_local k_K_local o_K (by decide) rfl hK rfl rfl (Nat.le_of_ble_eq_true rfl) (by decide) ?_
  refine v_aload_n cx (tk_dc d_W_7 40 rfl) rfl ?_
  refine v_aload_n cx (tk_dc d_W_7 41 rfl) rfl ?_
  refine v_iload_n cx (tk_dc d_W_7 42 rfl) rfl ?_
  refine v_iconst cx (tk_dc d_W_7 43 rfl) (1) (by decide) ?_
  refine v_iadd cx (tk_dc d_W_7 44 rfl) ?_
  refine v_sld cx hX hb hL (tk_dc d_W_7 45 rfl) (i + 1) (nI_add i 1) (by omega) ?_
  refine v_aload_n cx (tk_dc d_W_8 0 rfl) rfl ?_
  refine v_iload_n cx (tk_dc d_W_8 1 rfl) rfl ?_
  refine v_iconst cx (tk_dc d_W_8 2 rfl) (2) (by decide) ?_
  refine v_iadd cx (tk_dc d_W_8 3 rfl) ?_
  refine v_sld cx hX hb hL (tk_dc d_W_8 4 rfl) (i + 2) (nI_add i 2) (by omega) ?_
  refine v_callVR (rest := [.int r]) cx (tk_dc d_W_8 5 rfl) m_W_62 kn_M_local kv_M_local k_M_local o_M (by decide) rfl hM rfl rfl (Nat.le_of_ble_eq_true rfl) (by decide) (fun r2 M2 h2 => ?_)
  obtain ⟨rfl, h3⟩ := h2
  refine v_icmp_eq cx (tk_dc d_W_8 6 rfl) 910 (by decide) (fun _ => ?_) (fun h => absurd rfl h)
  exact kk M2 (hN M2 h3)
set_option maxHeartbeats 4000000 in
set_option maxRecDepth 100000 in
theorem lc_wake (cx : tk_X p s m #[Value.ref b] c code 4 R_W E 0) (hX : va_X b L xs s s.heap) (hb : b < E.1) (hL : L ≤ 2560) {i T : Nat} {M : tk_M} (hi : i + 5 ≤ L) (hT : T ≤ 1000) (h : ∃ c, RR M M T c) (kk : ∀ M2, (∃ c, RR M2 M2 (T + 1) c) → tk_V p l e room_1 s m #[Value.ref b] below meth c Q E 4 209 (tk_ct E M2) 209 3634 910 [some (.ref b), some (.ref (E.1 + 0)), some (.ref (E.1 + 172)), some (.int (nI i))] []) : tk_V p l e room_1 s m #[Value.ref b] below meth c Q E 4 209 (tk_ct E M) 209 3634 565 [some (.ref b), some (.ref (E.1 + 0)), some (.ref (E.1 + 172)), some (.int (nI i))] [] := by
  obtain ⟨c0, hc⟩ := h
  obtain ⟨r, M1, N, hK, hM, hN⟩ := sim_wake (l := l) (E := E) (x := xs (i + 1)) hc hT
  refine v_aload_n cx (tk_dc d_W_8 9 rfl) rfl ?_
  refine v_aload_n cx (tk_dc d_W_8 10 rfl) rfl ?_
  refine v_iload_n cx (tk_dc d_W_8 11 rfl) rfl ?_
  refine v_iconst cx (tk_dc d_W_8 12 rfl) (1) (by decide) ?_
  refine v_iadd cx (tk_dc d_W_8 13 rfl) ?_
  refine v_sld cx hX hb hL (tk_dc d_W_8 14 rfl) (i + 1) (nI_add i 1) (by omega) ?_
  refine v_callV (rest := []) cx (tk_dc d_W_8 15 rfl) m_W_63 kn_K_wake kv_K_wake k_K_wake o_K (by decide) rfl hK rfl rfl (Nat.le_of_ble_eq_true rfl) (by decide) ?_
  refine v_aload_n cx (tk_dc d_W_8 16 rfl) rfl ?_
  refine v_aload_n cx (tk_dc d_W_8 17 rfl) rfl ?_
  refine v_iload_n cx (tk_dc d_W_8 18 rfl) rfl ?_
  refine v_iconst cx (tk_dc d_W_8 19 rfl) (1) (by decide) ?_
  refine v_iadd cx (tk_dc d_W_8 20 rfl) ?_
  refine v_sld cx hX hb hL (tk_dc d_W_8 21 rfl) (i + 1) (nI_add i 1) (by omega) ?_
  refine v_callVR (rest := [.int r]) cx (tk_dc d_W_8 22 rfl) m_W_67 kn_M_wake kv_M_wake k_M_wake o_M (by decide) rfl hM rfl rfl (Nat.le_of_ble_eq_true rfl) (by decide) (fun r2 M2 h2 => ?_)
  obtain ⟨rfl, h3⟩ := h2
  refine v_icmp_eq cx (tk_dc d_W_8 23 rfl) 910 (by decide) (fun _ => ?_) (fun h => absurd rfl h)
  exact kk M2 (hN M2 h3)
set_option maxHeartbeats 4000000 in
set_option maxRecDepth 100000 in
theorem lc_up (cx : tk_X p s m #[Value.ref b] c code 4 R_W E 0) (hX : va_X b L xs s s.heap) (hb : b < E.1) (hL : L ≤ 2560) {i T : Nat} {M : tk_M} (hi : i + 5 ≤ L) (hT : T ≤ 1000) (h : ∃ c, RR M M T c) (kk : ∀ M2, (∃ c, RR M2 M2 (T + 1) c) → tk_V p l e room_1 s m #[Value.ref b] below meth c Q E 4 209 (tk_ct E M2) 209 3634 910 [some (.ref b), some (.ref (E.1 + 0)), some (.ref (E.1 + 172)), some (.int (nI i))] []) : tk_V p l e room_1 s m #[Value.ref b] below meth c Q E 4 209 (tk_ct E M) 209 3634 588 [some (.ref b), some (.ref (E.1 + 0)), some (.ref (E.1 + 172)), some (.int (nI i))] [] := by
  obtain ⟨c0, hc⟩ := h
  by_cases hz : xs (i + 2) = 0
  · obtain ⟨r, M1, N, hK, hM, hN⟩ := sim_up (l := l) (E := E) (x := xs (i + 1)) (y := 0) hc (Or.inl rfl)
    refine v_aload_n cx (tk_dc d_W_8 26 rfl) rfl ?_
    refine v_aload_n cx (tk_dc d_W_8 27 rfl) rfl ?_
    refine v_iload_n cx (tk_dc d_W_8 28 rfl) rfl ?_
    refine v_iconst cx (tk_dc d_W_8 29 rfl) (1) (by decide) ?_
    refine v_iadd cx (tk_dc d_W_8 30 rfl) ?_
    refine v_sld cx hX hb hL (tk_dc d_W_8 31 rfl) (i + 1) (nI_add i 1) (by omega) ?_
    refine v_aload_n cx (tk_dc d_W_8 32 rfl) rfl ?_
    refine v_iload_n cx (tk_dc d_W_8 33 rfl) rfl ?_
    refine v_iconst cx (tk_dc d_W_8 34 rfl) (2) (by decide) ?_
    refine v_iadd cx (tk_dc d_W_8 35 rfl) ?_
    refine v_sld cx hX hb hL (tk_dc d_W_8 36 rfl) (i + 2) (nI_add i 2) (by omega) ?_
    refine v_if_eq cx (tk_dc d_W_8 37 rfl) 606 (by decide) (fun _ => ?_) (fun h => absurd hz h)
    refine v_iconst cx (tk_dc d_W_8 40 rfl) (0) (by decide) ?_
    refine v_callV (rest := []) cx (tk_dc d_W_8 41 rfl) m_W_68 kn_K_up kv_K_up k_K_up o_K (by decide) rfl hK rfl rfl (Nat.le_of_ble_eq_true rfl) (by decide) ?_
    refine v_aload_n cx (tk_dc d_W_8 42 rfl) rfl ?_
    refine v_aload_n cx (tk_dc d_W_8 43 rfl) rfl ?_
    refine v_iload_n cx (tk_dc d_W_8 44 rfl) rfl ?_
    refine v_iconst cx (tk_dc d_W_8 45 rfl) (1) (by decide) ?_
    refine v_iadd cx (tk_dc d_W_9 0 rfl) ?_
    refine v_sld cx hX hb hL (tk_dc d_W_9 1 rfl) (i + 1) (nI_add i 1) (by omega) ?_
    refine v_aload_n cx (tk_dc d_W_9 2 rfl) rfl ?_
    refine v_iload_n cx (tk_dc d_W_9 3 rfl) rfl ?_
    refine v_iconst cx (tk_dc d_W_9 4 rfl) (2) (by decide) ?_
    refine v_iadd cx (tk_dc d_W_9 5 rfl) ?_
    refine v_sld cx hX hb hL (tk_dc d_W_9 6 rfl) (i + 2) (nI_add i 2) (by omega) ?_
    refine v_if_eq cx (tk_dc d_W_9 7 rfl) 628 (by decide) (fun _ => ?_) (fun h => absurd hz h)
    refine v_iconst cx (tk_dc d_W_9 10 rfl) (0) (by decide) ?_
    refine v_callVR (rest := [.int r]) cx (tk_dc d_W_9 11 rfl) m_W_72 kn_M_up kv_M_up k_M_up o_M (by decide) rfl hM rfl rfl (Nat.le_of_ble_eq_true rfl) (by decide) (fun r2 M2 h2 => ?_)
    obtain ⟨rfl, h3⟩ := h2
    refine v_icmp_eq cx (tk_dc d_W_9 12 rfl) 910 (by decide) (fun _ => ?_) (fun h => absurd rfl h)
    exact kk M2 (hN M2 h3)
  · obtain ⟨r, M1, N, hK, hM, hN⟩ := sim_up (l := l) (E := E) (x := xs (i + 1)) (y := 1) hc (Or.inr rfl)
    refine v_aload_n cx (tk_dc d_W_8 26 rfl) rfl ?_
    refine v_aload_n cx (tk_dc d_W_8 27 rfl) rfl ?_
    refine v_iload_n cx (tk_dc d_W_8 28 rfl) rfl ?_
    refine v_iconst cx (tk_dc d_W_8 29 rfl) (1) (by decide) ?_
    refine v_iadd cx (tk_dc d_W_8 30 rfl) ?_
    refine v_sld cx hX hb hL (tk_dc d_W_8 31 rfl) (i + 1) (nI_add i 1) (by omega) ?_
    refine v_aload_n cx (tk_dc d_W_8 32 rfl) rfl ?_
    refine v_iload_n cx (tk_dc d_W_8 33 rfl) rfl ?_
    refine v_iconst cx (tk_dc d_W_8 34 rfl) (2) (by decide) ?_
    refine v_iadd cx (tk_dc d_W_8 35 rfl) ?_
    refine v_sld cx hX hb hL (tk_dc d_W_8 36 rfl) (i + 2) (nI_add i 2) (by omega) ?_
    refine v_if_eq cx (tk_dc d_W_8 37 rfl) 606 (by decide) (fun h => absurd h hz) (fun _ => ?_)
    refine v_iconst cx (tk_dc d_W_8 38 rfl) (1) (by decide) ?_
    refine v_goto cx (tk_dc d_W_8 39 rfl) 607 (by decide) ?_
    refine v_callV (rest := []) cx (tk_dc d_W_8 41 rfl) m_W_68 kn_K_up kv_K_up k_K_up o_K (by decide) rfl hK rfl rfl (Nat.le_of_ble_eq_true rfl) (by decide) ?_
    refine v_aload_n cx (tk_dc d_W_8 42 rfl) rfl ?_
    refine v_aload_n cx (tk_dc d_W_8 43 rfl) rfl ?_
    refine v_iload_n cx (tk_dc d_W_8 44 rfl) rfl ?_
    refine v_iconst cx (tk_dc d_W_8 45 rfl) (1) (by decide) ?_
    refine v_iadd cx (tk_dc d_W_9 0 rfl) ?_
    refine v_sld cx hX hb hL (tk_dc d_W_9 1 rfl) (i + 1) (nI_add i 1) (by omega) ?_
    refine v_aload_n cx (tk_dc d_W_9 2 rfl) rfl ?_
    refine v_iload_n cx (tk_dc d_W_9 3 rfl) rfl ?_
    refine v_iconst cx (tk_dc d_W_9 4 rfl) (2) (by decide) ?_
    refine v_iadd cx (tk_dc d_W_9 5 rfl) ?_
    refine v_sld cx hX hb hL (tk_dc d_W_9 6 rfl) (i + 2) (nI_add i 2) (by omega) ?_
    refine v_if_eq cx (tk_dc d_W_9 7 rfl) 628 (by decide) (fun h => absurd h hz) (fun _ => ?_)
    refine v_iconst cx (tk_dc d_W_9 8 rfl) (1) (by decide) ?_
    refine v_goto cx (tk_dc d_W_9 9 rfl) 629 (by decide) ?_
    refine v_callVR (rest := [.int r]) cx (tk_dc d_W_9 11 rfl) m_W_72 kn_M_up kv_M_up k_M_up o_M (by decide) rfl hM rfl rfl (Nat.le_of_ble_eq_true rfl) (by decide) (fun r2 M2 h2 => ?_)
    obtain ⟨rfl, h3⟩ := h2
    refine v_icmp_eq cx (tk_dc d_W_9 12 rfl) 910 (by decide) (fun _ => ?_) (fun h => absurd rfl h)
    exact kk M2 (hN M2 h3)
set_option maxHeartbeats 4000000 in
set_option maxRecDepth 100000 in
theorem lc_desk (cx : tk_X p s m #[Value.ref b] c code 4 R_W E 0) (hX : va_X b L xs s s.heap) (hb : b < E.1) (hL : L ≤ 2560) {i T : Nat} {M : tk_M} (hi : i + 5 ≤ L) (hT : T ≤ 1000) (h : ∃ c, RR M M T c) (kk : ∀ M2, (∃ c, RR M2 M2 (T + 1) c) → tk_V p l e room_1 s m #[Value.ref b] below meth c Q E 4 209 (tk_ct E M2) 209 3634 910 [some (.ref b), some (.ref (E.1 + 0)), some (.ref (E.1 + 172)), some (.int (nI i))] []) : tk_V p l e room_1 s m #[Value.ref b] below meth c Q E 4 209 (tk_ct E M) 209 3634 637 [some (.ref b), some (.ref (E.1 + 0)), some (.ref (E.1 + 172)), some (.int (nI i))] [] := by
  obtain ⟨c0, hc⟩ := h
  by_cases hz : xs (i + 2) = 0
  · obtain ⟨r, M1, N, hK, hM, hN⟩ := sim_desk (l := l) (E := E) (x := xs (i + 1)) (y := 0) hc (Or.inl rfl)
    refine v_aload_n cx (tk_dc d_W_9 15 rfl) rfl ?_
    refine v_aload_n cx (tk_dc d_W_9 16 rfl) rfl ?_
    refine v_iload_n cx (tk_dc d_W_9 17 rfl) rfl ?_
    refine v_iconst cx (tk_dc d_W_9 18 rfl) (1) (by decide) ?_
    refine v_iadd cx (tk_dc d_W_9 19 rfl) ?_
    refine v_sld cx hX hb hL (tk_dc d_W_9 20 rfl) (i + 1) (nI_add i 1) (by omega) ?_
    refine v_aload_n cx (tk_dc d_W_9 21 rfl) rfl ?_
    refine v_iload_n cx (tk_dc d_W_9 22 rfl) rfl ?_
    refine v_iconst cx (tk_dc d_W_9 23 rfl) (2) (by decide) ?_
    refine v_iadd cx (tk_dc d_W_9 24 rfl) ?_
    refine v_sld cx hX hb hL (tk_dc d_W_9 25 rfl) (i + 2) (nI_add i 2) (by omega) ?_
    refine v_if_eq cx (tk_dc d_W_9 26 rfl) 655 (by decide) (fun _ => ?_) (fun h => absurd hz h)
    refine v_iconst cx (tk_dc d_W_9 29 rfl) (0) (by decide) ?_
    refine v_callV (rest := []) cx (tk_dc d_W_9 30 rfl) m_W_73 kn_K_desk kv_K_desk k_K_desk o_K (by decide) rfl hK rfl rfl (Nat.le_of_ble_eq_true rfl) (by decide) ?_
    refine v_aload_n cx (tk_dc d_W_9 31 rfl) rfl ?_
    refine v_aload_n cx (tk_dc d_W_9 32 rfl) rfl ?_
    refine v_iload_n cx (tk_dc d_W_9 33 rfl) rfl ?_
    refine v_iconst cx (tk_dc d_W_9 34 rfl) (1) (by decide) ?_
    refine v_iadd cx (tk_dc d_W_9 35 rfl) ?_
    refine v_sld cx hX hb hL (tk_dc d_W_9 36 rfl) (i + 1) (nI_add i 1) (by omega) ?_
    refine v_aload_n cx (tk_dc d_W_9 37 rfl) rfl ?_
    refine v_iload_n cx (tk_dc d_W_9 38 rfl) rfl ?_
    refine v_iconst cx (tk_dc d_W_9 39 rfl) (2) (by decide) ?_
    refine v_iadd cx (tk_dc d_W_9 40 rfl) ?_
    refine v_sld cx hX hb hL (tk_dc d_W_9 41 rfl) (i + 2) (nI_add i 2) (by omega) ?_
    refine v_if_eq cx (tk_dc d_W_9 42 rfl) 677 (by decide) (fun _ => ?_) (fun h => absurd hz h)
    refine v_iconst cx (tk_dc d_W_9 45 rfl) (0) (by decide) ?_
    refine v_callVR (rest := [.int r]) cx (tk_dc d_W_10 0 rfl) m_W_76 kn_M_desk kv_M_desk k_M_desk o_M (by decide) rfl hM rfl rfl (Nat.le_of_ble_eq_true rfl) (by decide) (fun r2 M2 h2 => ?_)
    obtain ⟨rfl, h3⟩ := h2
    refine v_icmp_eq cx (tk_dc d_W_10 1 rfl) 910 (by decide) (fun _ => ?_) (fun h => absurd rfl h)
    exact kk M2 (hN M2 h3)
  · obtain ⟨r, M1, N, hK, hM, hN⟩ := sim_desk (l := l) (E := E) (x := xs (i + 1)) (y := 1) hc (Or.inr rfl)
    refine v_aload_n cx (tk_dc d_W_9 15 rfl) rfl ?_
    refine v_aload_n cx (tk_dc d_W_9 16 rfl) rfl ?_
    refine v_iload_n cx (tk_dc d_W_9 17 rfl) rfl ?_
    refine v_iconst cx (tk_dc d_W_9 18 rfl) (1) (by decide) ?_
    refine v_iadd cx (tk_dc d_W_9 19 rfl) ?_
    refine v_sld cx hX hb hL (tk_dc d_W_9 20 rfl) (i + 1) (nI_add i 1) (by omega) ?_
    refine v_aload_n cx (tk_dc d_W_9 21 rfl) rfl ?_
    refine v_iload_n cx (tk_dc d_W_9 22 rfl) rfl ?_
    refine v_iconst cx (tk_dc d_W_9 23 rfl) (2) (by decide) ?_
    refine v_iadd cx (tk_dc d_W_9 24 rfl) ?_
    refine v_sld cx hX hb hL (tk_dc d_W_9 25 rfl) (i + 2) (nI_add i 2) (by omega) ?_
    refine v_if_eq cx (tk_dc d_W_9 26 rfl) 655 (by decide) (fun h => absurd h hz) (fun _ => ?_)
    refine v_iconst cx (tk_dc d_W_9 27 rfl) (1) (by decide) ?_
    refine v_goto cx (tk_dc d_W_9 28 rfl) 656 (by decide) ?_
    refine v_callV (rest := []) cx (tk_dc d_W_9 30 rfl) m_W_73 kn_K_desk kv_K_desk k_K_desk o_K (by decide) rfl hK rfl rfl (Nat.le_of_ble_eq_true rfl) (by decide) ?_
    refine v_aload_n cx (tk_dc d_W_9 31 rfl) rfl ?_
    refine v_aload_n cx (tk_dc d_W_9 32 rfl) rfl ?_
    refine v_iload_n cx (tk_dc d_W_9 33 rfl) rfl ?_
    refine v_iconst cx (tk_dc d_W_9 34 rfl) (1) (by decide) ?_
    refine v_iadd cx (tk_dc d_W_9 35 rfl) ?_
    refine v_sld cx hX hb hL (tk_dc d_W_9 36 rfl) (i + 1) (nI_add i 1) (by omega) ?_
    refine v_aload_n cx (tk_dc d_W_9 37 rfl) rfl ?_
    refine v_iload_n cx (tk_dc d_W_9 38 rfl) rfl ?_
    refine v_iconst cx (tk_dc d_W_9 39 rfl) (2) (by decide) ?_
    refine v_iadd cx (tk_dc d_W_9 40 rfl) ?_
    refine v_sld cx hX hb hL (tk_dc d_W_9 41 rfl) (i + 2) (nI_add i 2) (by omega) ?_
    refine v_if_eq cx (tk_dc d_W_9 42 rfl) 677 (by decide) (fun h => absurd h hz) (fun _ => ?_)
    refine v_iconst cx (tk_dc d_W_9 43 rfl) (1) (by decide) ?_
    refine v_goto cx (tk_dc d_W_9 44 rfl) 678 (by decide) ?_
    refine v_callVR (rest := [.int r]) cx (tk_dc d_W_10 0 rfl) m_W_76 kn_M_desk kv_M_desk k_M_desk o_M (by decide) rfl hM rfl rfl (Nat.le_of_ble_eq_true rfl) (by decide) (fun r2 M2 h2 => ?_)
    obtain ⟨rfl, h3⟩ := h2
    refine v_icmp_eq cx (tk_dc d_W_10 1 rfl) 910 (by decide) (fun _ => ?_) (fun h => absurd rfl h)
    exact kk M2 (hN M2 h3)
set_option maxHeartbeats 4000000 in
set_option maxRecDepth 100000 in
theorem lc_letters (cx : tk_X p s m #[Value.ref b] c code 4 R_W E 0) (hX : va_X b L xs s s.heap) (hb : b < E.1) (hL : L ≤ 2560) {i T : Nat} {M : tk_M} (hi : i + 5 ≤ L) (hT : T ≤ 1000) (h : ∃ c, RR M M T c) (kk : ∀ M2, (∃ c, RR M2 M2 (T + 1) c) → tk_V p l e room_1 s m #[Value.ref b] below meth c Q E 4 209 (tk_ct E M2) 209 3634 910 [some (.ref b), some (.ref (E.1 + 0)), some (.ref (E.1 + 172)), some (.int (nI i))] []) : tk_V p l e room_1 s m #[Value.ref b] below meth c Q E 4 209 (tk_ct E M) 209 3634 686 [some (.ref b), some (.ref (E.1 + 0)), some (.ref (E.1 + 172)), some (.int (nI i))] [] := by
  obtain ⟨c0, hc⟩ := h
  obtain ⟨r, M1, N, hK, hM, hN⟩ := sim_letters (l := l) (E := E)  hc
  refine v_aload_n cx (tk_dc d_W_10 4 rfl) rfl ?_
  refine v_callV (rest := []) cx (tk_dc d_W_10 5 rfl) m_W_77 kn_K_letters kv_K_letters k_K_letters o_K (by decide) rfl hK rfl rfl (Nat.le_of_ble_eq_true rfl) (by decide) ?_
  refine v_aload_n cx (tk_dc d_W_10 6 rfl) rfl ?_
  refine v_callVR (rest := [.int r]) cx (tk_dc d_W_10 7 rfl) m_W_81 kn_M_letters kv_M_letters k_M_letters o_M (by decide) rfl hM rfl rfl (Nat.le_of_ble_eq_true rfl) (by decide) (fun r2 M2 h2 => ?_)
  obtain ⟨rfl, h3⟩ := h2
  refine v_icmp_eq cx (tk_dc d_W_10 8 rfl) 910 (by decide) (fun _ => ?_) (fun h => absurd rfl h)
  exact kk M2 (hN M2 h3)
set_option maxHeartbeats 4000000 in
set_option maxRecDepth 100000 in
theorem lc_deliver (cx : tk_X p s m #[Value.ref b] c code 4 R_W E 0) (hX : va_X b L xs s s.heap) (hb : b < E.1) (hL : L ≤ 2560) {i T : Nat} {M : tk_M} (hi : i + 5 ≤ L) (hT : T ≤ 1000) (h : ∃ c, RR M M T c) (kk : ∀ M2, (∃ c, RR M2 M2 (T + 1) c) → tk_V p l e room_1 s m #[Value.ref b] below meth c Q E 4 209 (tk_ct E M2) 209 3634 910 [some (.ref b), some (.ref (E.1 + 0)), some (.ref (E.1 + 172)), some (.int (nI i))] []) : tk_V p l e room_1 s m #[Value.ref b] below meth c Q E 4 209 (tk_ct E M) 209 3634 699 [some (.ref b), some (.ref (E.1 + 0)), some (.ref (E.1 + 172)), some (.int (nI i))] [] := by
  obtain ⟨c0, hc⟩ := h
  obtain ⟨r, M1, N, hK, hM, hN⟩ := sim_deliver (l := l) (E := E) (x := xs (i + 1)) hc hT
  refine v_aload_n cx (tk_dc d_W_10 11 rfl) rfl ?_
  refine v_aload_n cx (tk_dc d_W_10 12 rfl) rfl ?_
  refine v_iload_n cx (tk_dc d_W_10 13 rfl) rfl ?_
  refine v_iconst cx (tk_dc d_W_10 14 rfl) (1) (by decide) ?_
  refine v_iadd cx (tk_dc d_W_10 15 rfl) ?_
  refine v_sld cx hX hb hL (tk_dc d_W_10 16 rfl) (i + 1) (nI_add i 1) (by omega) ?_
  refine v_callV (rest := []) cx (tk_dc d_W_10 17 rfl) m_W_82 kn_K_deliver kv_K_deliver k_K_deliver o_K (by decide) rfl hK rfl rfl (Nat.le_of_ble_eq_true rfl) (by decide) ?_
  refine v_aload_n cx (tk_dc d_W_10 18 rfl) rfl ?_
  refine v_aload_n cx (tk_dc d_W_10 19 rfl) rfl ?_
  refine v_iload_n cx (tk_dc d_W_10 20 rfl) rfl ?_
  refine v_iconst cx (tk_dc d_W_10 21 rfl) (1) (by decide) ?_
  refine v_iadd cx (tk_dc d_W_10 22 rfl) ?_
  refine v_sld cx hX hb hL (tk_dc d_W_10 23 rfl) (i + 1) (nI_add i 1) (by omega) ?_
  refine v_callVR (rest := [.int r]) cx (tk_dc d_W_10 24 rfl) m_W_85 kn_M_deliver kv_M_deliver k_M_deliver o_M (by decide) rfl hM rfl rfl (Nat.le_of_ble_eq_true rfl) (by decide) (fun r2 M2 h2 => ?_)
  obtain ⟨rfl, h3⟩ := h2
  refine v_icmp_eq cx (tk_dc d_W_10 25 rfl) 910 (by decide) (fun _ => ?_) (fun h => absurd rfl h)
  exact kk M2 (hN M2 h3)
set_option maxHeartbeats 4000000 in
set_option maxRecDepth 100000 in
theorem lc_lose (cx : tk_X p s m #[Value.ref b] c code 4 R_W E 0) (hX : va_X b L xs s s.heap) (hb : b < E.1) (hL : L ≤ 2560) {i T : Nat} {M : tk_M} (hi : i + 5 ≤ L) (hT : T ≤ 1000) (h : ∃ c, RR M M T c) (kk : ∀ M2, (∃ c, RR M2 M2 (T + 1) c) → tk_V p l e room_1 s m #[Value.ref b] below meth c Q E 4 209 (tk_ct E M2) 209 3634 910 [some (.ref b), some (.ref (E.1 + 0)), some (.ref (E.1 + 172)), some (.int (nI i))] []) : tk_V p l e room_1 s m #[Value.ref b] below meth c Q E 4 209 (tk_ct E M) 209 3634 722 [some (.ref b), some (.ref (E.1 + 0)), some (.ref (E.1 + 172)), some (.int (nI i))] [] := by
  obtain ⟨c0, hc⟩ := h
  obtain ⟨r, M1, N, hK, hM, hN⟩ := sim_lose (l := l) (E := E) (x := xs (i + 1)) hc
  refine v_aload_n cx (tk_dc d_W_10 28 rfl) rfl ?_
  refine v_aload_n cx (tk_dc d_W_10 29 rfl) rfl ?_
  refine v_iload_n cx (tk_dc d_W_10 30 rfl) rfl ?_
  refine v_iconst cx (tk_dc d_W_10 31 rfl) (1) (by decide) ?_
  refine v_iadd cx (tk_dc d_W_10 32 rfl) ?_
  refine v_sld cx hX hb hL (tk_dc d_W_10 33 rfl) (i + 1) (nI_add i 1) (by omega) ?_
  refine v_callV (rest := []) cx (tk_dc d_W_10 34 rfl) m_W_86 kn_K_lose kv_K_lose k_K_lose o_K (by decide) rfl hK rfl rfl (Nat.le_of_ble_eq_true rfl) (by decide) ?_
  refine v_aload_n cx (tk_dc d_W_10 35 rfl) rfl ?_
  refine v_aload_n cx (tk_dc d_W_10 36 rfl) rfl ?_
  refine v_iload_n cx (tk_dc d_W_10 37 rfl) rfl ?_
  refine v_iconst cx (tk_dc d_W_10 38 rfl) (1) (by decide) ?_
  refine v_iadd cx (tk_dc d_W_10 39 rfl) ?_
  refine v_sld cx hX hb hL (tk_dc d_W_10 40 rfl) (i + 1) (nI_add i 1) (by omega) ?_
  refine v_callVR (rest := [.int r]) cx (tk_dc d_W_10 41 rfl) m_W_89 kn_M_lose kv_M_lose k_M_lose o_M (by decide) rfl hM rfl rfl (Nat.le_of_ble_eq_true rfl) (by decide) (fun r2 M2 h2 => ?_)
  obtain ⟨rfl, h3⟩ := h2
  refine v_icmp_eq cx (tk_dc d_W_10 42 rfl) 910 (by decide) (fun _ => ?_) (fun h => absurd rfl h)
  exact kk M2 (hN M2 h3)
set_option maxHeartbeats 4000000 in
set_option maxRecDepth 100000 in
theorem lc_twin (cx : tk_X p s m #[Value.ref b] c code 4 R_W E 0) (hX : va_X b L xs s s.heap) (hb : b < E.1) (hL : L ≤ 2560) {i T : Nat} {M : tk_M} (hi : i + 5 ≤ L) (hT : T ≤ 1000) (h : ∃ c, RR M M T c) (kk : ∀ M2, (∃ c, RR M2 M2 (T + 1) c) → tk_V p l e room_1 s m #[Value.ref b] below meth c Q E 4 209 (tk_ct E M2) 209 3634 910 [some (.ref b), some (.ref (E.1 + 0)), some (.ref (E.1 + 172)), some (.int (nI i))] []) : tk_V p l e room_1 s m #[Value.ref b] below meth c Q E 4 209 (tk_ct E M) 209 3634 745 [some (.ref b), some (.ref (E.1 + 0)), some (.ref (E.1 + 172)), some (.int (nI i))] [] := by
  obtain ⟨c0, hc⟩ := h
  obtain ⟨r, M1, N, hK, hM, hN⟩ := sim_twin (l := l) (E := E) (x := xs (i + 1)) hc
  refine v_aload_n cx (tk_dc d_W_10 45 rfl) rfl ?_
  refine v_aload_n cx (tk_dc d_W_11 0 rfl) rfl ?_
  refine v_iload_n cx (tk_dc d_W_11 1 rfl) rfl ?_
  refine v_iconst cx (tk_dc d_W_11 2 rfl) (1) (by decide) ?_
  refine v_iadd cx (tk_dc d_W_11 3 rfl) ?_
  refine v_sld cx hX hb hL (tk_dc d_W_11 4 rfl) (i + 1) (nI_add i 1) (by omega) ?_
  refine v_callV (rest := []) cx (tk_dc d_W_11 5 rfl) m_W_90 kn_K_twin kv_K_twin k_K_twin o_K (by decide) rfl hK rfl rfl (Nat.le_of_ble_eq_true rfl) (by decide) ?_
  refine v_aload_n cx (tk_dc d_W_11 6 rfl) rfl ?_
  refine v_aload_n cx (tk_dc d_W_11 7 rfl) rfl ?_
  refine v_iload_n cx (tk_dc d_W_11 8 rfl) rfl ?_
  refine v_iconst cx (tk_dc d_W_11 9 rfl) (1) (by decide) ?_
  refine v_iadd cx (tk_dc d_W_11 10 rfl) ?_
  refine v_sld cx hX hb hL (tk_dc d_W_11 11 rfl) (i + 1) (nI_add i 1) (by omega) ?_
  refine v_callVR (rest := [.int r]) cx (tk_dc d_W_11 12 rfl) m_W_93 kn_M_twin kv_M_twin k_M_twin o_M (by decide) rfl hM rfl rfl (Nat.le_of_ble_eq_true rfl) (by decide) (fun r2 M2 h2 => ?_)
  obtain ⟨rfl, h3⟩ := h2
  refine v_icmp_eq cx (tk_dc d_W_11 13 rfl) 910 (by decide) (fun _ => ?_) (fun h => absurd rfl h)
  exact kk M2 (hN M2 h3)
set_option maxHeartbeats 4000000 in
set_option maxRecDepth 100000 in
theorem lc_letter (cx : tk_X p s m #[Value.ref b] c code 4 R_W E 0) (hX : va_X b L xs s s.heap) (hb : b < E.1) (hL : L ≤ 2560) {i T : Nat} {M : tk_M} (hi : i + 5 ≤ L) (hT : T ≤ 1000) (h : ∃ c, RR M M T c) (kk : ∀ M2, (∃ c, RR M2 M2 (T + 1) c) → tk_V p l e room_1 s m #[Value.ref b] below meth c Q E 4 209 (tk_ct E M2) 209 3634 910 [some (.ref b), some (.ref (E.1 + 0)), some (.ref (E.1 + 172)), some (.int (nI i))] []) : tk_V p l e room_1 s m #[Value.ref b] below meth c Q E 4 209 (tk_ct E M) 209 3634 768 [some (.ref b), some (.ref (E.1 + 0)), some (.ref (E.1 + 172)), some (.int (nI i))] [] := by
  obtain ⟨c0, hc⟩ := h
  obtain ⟨r, M1, N, hK, hM, hN⟩ := sim_letter (l := l) (E := E) (x := xs (i + 1)) (y := xs (i + 2)) hc
  refine v_aload_n cx (tk_dc d_W_11 16 rfl) rfl ?_
  refine v_aload_n cx (tk_dc d_W_11 17 rfl) rfl ?_
  refine v_iload_n cx (tk_dc d_W_11 18 rfl) rfl ?_
  refine v_iconst cx (tk_dc d_W_11 19 rfl) (1) (by decide) ?_
  refine v_iadd cx (tk_dc d_W_11 20 rfl) ?_
  refine v_sld cx hX hb hL (tk_dc d_W_11 21 rfl) (i + 1) (nI_add i 1) (by omega) ?_
  refine v_aload_n cx (tk_dc d_W_11 22 rfl) rfl ?_
  refine v_iload_n cx (tk_dc d_W_11 23 rfl) rfl ?_
  refine v_iconst cx (tk_dc d_W_11 24 rfl) (2) (by decide) ?_
  refine v_iadd cx (tk_dc d_W_11 25 rfl) ?_
  refine v_sld cx hX hb hL (tk_dc d_W_11 26 rfl) (i + 2) (nI_add i 2) (by omega) ?_
  refine v_callV (rest := []) cx (tk_dc d_W_11 27 rfl) m_W_94 kn_K_letter kv_K_letter k_K_letter o_K (by decide) rfl hK rfl rfl (Nat.le_of_ble_eq_true rfl) (by decide) ?_
  refine v_aload_n cx (tk_dc d_W_11 28 rfl) rfl ?_
  refine v_aload_n cx (tk_dc d_W_11 29 rfl) rfl ?_
  refine v_iload_n cx (tk_dc d_W_11 30 rfl) rfl ?_
  refine v_iconst cx (tk_dc d_W_11 31 rfl) (1) (by decide) ?_
  refine v_iadd cx (tk_dc d_W_11 32 rfl) ?_
  refine v_sld cx hX hb hL (tk_dc d_W_11 33 rfl) (i + 1) (nI_add i 1) (by omega) ?_
  refine v_aload_n cx (tk_dc d_W_11 34 rfl) rfl ?_
  refine v_iload_n cx (tk_dc d_W_11 35 rfl) rfl ?_
  refine v_iconst cx (tk_dc d_W_11 36 rfl) (2) (by decide) ?_
  refine v_iadd cx (tk_dc d_W_11 37 rfl) ?_
  refine v_sld cx hX hb hL (tk_dc d_W_11 38 rfl) (i + 2) (nI_add i 2) (by omega) ?_
  refine v_callVR (rest := [.int r]) cx (tk_dc d_W_11 39 rfl) m_W_97 kn_M_letter kv_M_letter k_M_letter o_M (by decide) rfl hM rfl rfl (Nat.le_of_ble_eq_true rfl) (by decide) (fun r2 M2 h2 => ?_)
  obtain ⟨rfl, h3⟩ := h2
  refine v_icmp_eq cx (tk_dc d_W_11 40 rfl) 910 (by decide) (fun _ => ?_) (fun h => absurd rfl h)
  exact kk M2 (hN M2 h3)
set_option maxHeartbeats 4000000 in
set_option maxRecDepth 100000 in
theorem lc_register (cx : tk_X p s m #[Value.ref b] c code 4 R_W E 0) (hX : va_X b L xs s s.heap) (hb : b < E.1) (hL : L ≤ 2560) {i T : Nat} {M : tk_M} (hi : i + 5 ≤ L) (hT : T ≤ 1000) (h : ∃ c, RR M M T c) (kk : ∀ M2, (∃ c, RR M2 M2 (T + 1) c) → tk_V p l e room_1 s m #[Value.ref b] below meth c Q E 4 209 (tk_ct E M2) 209 3634 910 [some (.ref b), some (.ref (E.1 + 0)), some (.ref (E.1 + 172)), some (.int (nI i))] []) : tk_V p l e room_1 s m #[Value.ref b] below meth c Q E 4 209 (tk_ct E M) 209 3634 801 [some (.ref b), some (.ref (E.1 + 0)), some (.ref (E.1 + 172)), some (.int (nI i))] [] := by
  obtain ⟨c0, hc⟩ := h
  obtain ⟨r, M1, N, hK, hM, hN⟩ := sim_register (l := l) (E := E) (x := xs (i + 1)) (y := xs (i + 2)) (w := xs (i + 3)) hc
  refine v_aload_n cx (tk_dc d_W_11 43 rfl) rfl ?_
  refine v_aload_n cx (tk_dc d_W_11 44 rfl) rfl ?_
  refine v_iload_n cx (tk_dc d_W_11 45 rfl) rfl ?_
  refine v_iconst cx (tk_dc d_W_12 0 rfl) (1) (by decide) ?_
  refine v_iadd cx (tk_dc d_W_12 1 rfl) ?_
  refine v_sld cx hX hb hL (tk_dc d_W_12 2 rfl) (i + 1) (nI_add i 1) (by omega) ?_
  refine v_aload_n cx (tk_dc d_W_12 3 rfl) rfl ?_
  refine v_iload_n cx (tk_dc d_W_12 4 rfl) rfl ?_
  refine v_iconst cx (tk_dc d_W_12 5 rfl) (2) (by decide) ?_
  refine v_iadd cx (tk_dc d_W_12 6 rfl) ?_
  refine v_sld cx hX hb hL (tk_dc d_W_12 7 rfl) (i + 2) (nI_add i 2) (by omega) ?_
  refine v_aload_n cx (tk_dc d_W_12 8 rfl) rfl ?_
  refine v_iload_n cx (tk_dc d_W_12 9 rfl) rfl ?_
  refine v_iconst cx (tk_dc d_W_12 10 rfl) (3) (by decide) ?_
  refine v_iadd cx (tk_dc d_W_12 11 rfl) ?_
  refine v_sld cx hX hb hL (tk_dc d_W_12 12 rfl) (i + 3) (nI_add i 3) (by omega) ?_
  refine v_callV (rest := []) cx (tk_dc d_W_12 13 rfl) m_W_98 kn_K_register kv_K_register k_K_register o_K (by decide) rfl hK rfl rfl (Nat.le_of_ble_eq_true rfl) (by decide) ?_
  refine v_aload_n cx (tk_dc d_W_12 14 rfl) rfl ?_
  refine v_aload_n cx (tk_dc d_W_12 15 rfl) rfl ?_
  refine v_iload_n cx (tk_dc d_W_12 16 rfl) rfl ?_
  refine v_iconst cx (tk_dc d_W_12 17 rfl) (1) (by decide) ?_
  refine v_iadd cx (tk_dc d_W_12 18 rfl) ?_
  refine v_sld cx hX hb hL (tk_dc d_W_12 19 rfl) (i + 1) (nI_add i 1) (by omega) ?_
  refine v_aload_n cx (tk_dc d_W_12 20 rfl) rfl ?_
  refine v_iload_n cx (tk_dc d_W_12 21 rfl) rfl ?_
  refine v_iconst cx (tk_dc d_W_12 22 rfl) (2) (by decide) ?_
  refine v_iadd cx (tk_dc d_W_12 23 rfl) ?_
  refine v_sld cx hX hb hL (tk_dc d_W_12 24 rfl) (i + 2) (nI_add i 2) (by omega) ?_
  refine v_aload_n cx (tk_dc d_W_12 25 rfl) rfl ?_
  refine v_iload_n cx (tk_dc d_W_12 26 rfl) rfl ?_
  refine v_iconst cx (tk_dc d_W_12 27 rfl) (3) (by decide) ?_
  refine v_iadd cx (tk_dc d_W_12 28 rfl) ?_
  refine v_sld cx hX hb hL (tk_dc d_W_12 29 rfl) (i + 3) (nI_add i 3) (by omega) ?_
  refine v_callVR (rest := [.int r]) cx (tk_dc d_W_12 30 rfl) m_W_102 kn_M_register kv_M_register k_M_register o_M (by decide) rfl hM rfl rfl (Nat.le_of_ble_eq_true rfl) (by decide) (fun r2 M2 h2 => ?_)
  obtain ⟨rfl, h3⟩ := h2
  refine v_icmp_eq cx (tk_dc d_W_12 31 rfl) 910 (by decide) (fun _ => ?_) (fun h => absurd rfl h)
  exact kk M2 (hN M2 h3)
set_option maxHeartbeats 4000000 in
set_option maxRecDepth 100000 in
theorem lc_effects (cx : tk_X p s m #[Value.ref b] c code 4 R_W E 0) (hX : va_X b L xs s s.heap) (hb : b < E.1) (hL : L ≤ 2560) {i T : Nat} {M : tk_M} (hi : i + 5 ≤ L) (hT : T ≤ 1000) (h : ∃ c, RR M M T c) (kk : ∀ M2, (∃ c, RR M2 M2 (T + 1) c) → tk_V p l e room_1 s m #[Value.ref b] below meth c Q E 4 209 (tk_ct E M2) 209 3634 910 [some (.ref b), some (.ref (E.1 + 0)), some (.ref (E.1 + 172)), some (.int (nI i))] []) : tk_V p l e room_1 s m #[Value.ref b] below meth c Q E 4 209 (tk_ct E M) 209 3634 844 [some (.ref b), some (.ref (E.1 + 0)), some (.ref (E.1 + 172)), some (.int (nI i))] [] := by
  obtain ⟨c0, hc⟩ := h
  obtain ⟨r, M1, N, hK, hM, hN⟩ := sim_effects (l := l) (E := E) (x := xs (i + 1)) hc
  refine v_aload_n cx (tk_dc d_W_12 34 rfl) rfl ?_
  refine v_aload_n cx (tk_dc d_W_12 35 rfl) rfl ?_
  refine v_iload_n cx (tk_dc d_W_12 36 rfl) rfl ?_
  refine v_iconst cx (tk_dc d_W_12 37 rfl) (1) (by decide) ?_
  refine v_iadd cx (tk_dc d_W_12 38 rfl) ?_
  refine v_sld cx hX hb hL (tk_dc d_W_12 39 rfl) (i + 1) (nI_add i 1) (by omega) ?_
  refine v_callV (rest := []) cx (tk_dc d_W_12 40 rfl) m_W_103 kn_K_effects kv_K_effects k_K_effects o_K (by decide) rfl hK rfl rfl (Nat.le_of_ble_eq_true rfl) (by decide) ?_
  refine v_aload_n cx (tk_dc d_W_12 41 rfl) rfl ?_
  refine v_aload_n cx (tk_dc d_W_12 42 rfl) rfl ?_
  refine v_iload_n cx (tk_dc d_W_12 43 rfl) rfl ?_
  refine v_iconst cx (tk_dc d_W_12 44 rfl) (1) (by decide) ?_
  refine v_iadd cx (tk_dc d_W_12 45 rfl) ?_
  refine v_sld cx hX hb hL (tk_dc d_W_13 0 rfl) (i + 1) (nI_add i 1) (by omega) ?_
  refine v_callVR (rest := [.int r]) cx (tk_dc d_W_13 1 rfl) m_W_106 kn_M_effects kv_M_effects k_M_effects o_M (by decide) rfl hM rfl rfl (Nat.le_of_ble_eq_true rfl) (by decide) (fun r2 M2 h2 => ?_)
  obtain ⟨rfl, h3⟩ := h2
  refine v_icmp_eq cx (tk_dc d_W_13 2 rfl) 910 (by decide) (fun _ => ?_) (fun h => absurd rfl h)
  exact kk M2 (hN M2 h3)
set_option maxHeartbeats 4000000 in
set_option maxRecDepth 100000 in
theorem lc_effect (cx : tk_X p s m #[Value.ref b] c code 4 R_W E 0) (hX : va_X b L xs s s.heap) (hb : b < E.1) (hL : L ≤ 2560) {i T : Nat} {M : tk_M} (hi : i + 5 ≤ L) (hT : T ≤ 1000) (h : ∃ c, RR M M T c) (kk : ∀ M2, (∃ c, RR M2 M2 (T + 1) c) → tk_V p l e room_1 s m #[Value.ref b] below meth c Q E 4 209 (tk_ct E M2) 209 3634 910 [some (.ref b), some (.ref (E.1 + 0)), some (.ref (E.1 + 172)), some (.int (nI i))] []) : tk_V p l e room_1 s m #[Value.ref b] below meth c Q E 4 209 (tk_ct E M) 209 3634 867 [some (.ref b), some (.ref (E.1 + 0)), some (.ref (E.1 + 172)), some (.int (nI i))] [] := by
  obtain ⟨c0, hc⟩ := h
  obtain ⟨r, M1, N, hK, hM, hN⟩ := sim_effect (l := l) (E := E) (x := xs (i + 1)) (y := xs (i + 2)) (w := xs (i + 3)) hc
  refine v_aload_n cx (tk_dc d_W_13 5 rfl) rfl ?_
  refine v_aload_n cx (tk_dc d_W_13 6 rfl) rfl ?_
  refine v_iload_n cx (tk_dc d_W_13 7 rfl) rfl ?_
  refine v_iconst cx (tk_dc d_W_13 8 rfl) (1) (by decide) ?_
  refine v_iadd cx (tk_dc d_W_13 9 rfl) ?_
  refine v_sld cx hX hb hL (tk_dc d_W_13 10 rfl) (i + 1) (nI_add i 1) (by omega) ?_
  refine v_aload_n cx (tk_dc d_W_13 11 rfl) rfl ?_
  refine v_iload_n cx (tk_dc d_W_13 12 rfl) rfl ?_
  refine v_iconst cx (tk_dc d_W_13 13 rfl) (2) (by decide) ?_
  refine v_iadd cx (tk_dc d_W_13 14 rfl) ?_
  refine v_sld cx hX hb hL (tk_dc d_W_13 15 rfl) (i + 2) (nI_add i 2) (by omega) ?_
  refine v_aload_n cx (tk_dc d_W_13 16 rfl) rfl ?_
  refine v_iload_n cx (tk_dc d_W_13 17 rfl) rfl ?_
  refine v_iconst cx (tk_dc d_W_13 18 rfl) (3) (by decide) ?_
  refine v_iadd cx (tk_dc d_W_13 19 rfl) ?_
  refine v_sld cx hX hb hL (tk_dc d_W_13 20 rfl) (i + 3) (nI_add i 3) (by omega) ?_
  refine v_callV (rest := []) cx (tk_dc d_W_13 21 rfl) m_W_107 kn_K_effect kv_K_effect k_K_effect o_K (by decide) rfl hK rfl rfl (Nat.le_of_ble_eq_true rfl) (by decide) ?_
  refine v_aload_n cx (tk_dc d_W_13 22 rfl) rfl ?_
  refine v_aload_n cx (tk_dc d_W_13 23 rfl) rfl ?_
  refine v_iload_n cx (tk_dc d_W_13 24 rfl) rfl ?_
  refine v_iconst cx (tk_dc d_W_13 25 rfl) (1) (by decide) ?_
  refine v_iadd cx (tk_dc d_W_13 26 rfl) ?_
  refine v_sld cx hX hb hL (tk_dc d_W_13 27 rfl) (i + 1) (nI_add i 1) (by omega) ?_
  refine v_aload_n cx (tk_dc d_W_13 28 rfl) rfl ?_
  refine v_iload_n cx (tk_dc d_W_13 29 rfl) rfl ?_
  refine v_iconst cx (tk_dc d_W_13 30 rfl) (2) (by decide) ?_
  refine v_iadd cx (tk_dc d_W_13 31 rfl) ?_
  refine v_sld cx hX hb hL (tk_dc d_W_13 32 rfl) (i + 2) (nI_add i 2) (by omega) ?_
  refine v_aload_n cx (tk_dc d_W_13 33 rfl) rfl ?_
  refine v_iload_n cx (tk_dc d_W_13 34 rfl) rfl ?_
  refine v_iconst cx (tk_dc d_W_13 35 rfl) (3) (by decide) ?_
  refine v_iadd cx (tk_dc d_W_13 36 rfl) ?_
  refine v_sld cx hX hb hL (tk_dc d_W_13 37 rfl) (i + 3) (nI_add i 3) (by omega) ?_
  refine v_callVR (rest := [.int r]) cx (tk_dc d_W_13 38 rfl) m_W_110 kn_M_effect kv_M_effect k_M_effect o_M (by decide) rfl hM rfl rfl (Nat.le_of_ble_eq_true rfl) (by decide) (fun r2 M2 h2 => ?_)
  obtain ⟨rfl, h3⟩ := h2
  refine v_icmp_eq cx (tk_dc d_W_13 39 rfl) 910 (by decide) (fun _ => ?_) (fun h => absurd rfl h)
  exact kk M2 (hN M2 h3)
end TKWC
