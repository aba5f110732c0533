/-! both sides: rules and jobs; up and down -/
theorem RR.job {A A' B B' : tk_M} {T c j : Nat} (h : RR A B T c) (hj : j < 8) (a1 : ∀ a b, ¬ (jN j ≤ a ∧ a < jN j + 4) → A'.1 a b = A.1 a b ∧ A'.2.1 a b = A.2.1 a b ∧ A'.2.2 a b = A.2.2 a b) (b1 : ∀ a b, ¬ (178 ≤ a ∧ a ≤ 192 ∧ ((a ≠ 188 ∧ b = j) ∨ (a = 188 ∧ b / 8 = j))) → B'.1 a b = B.1 a b) (b2 : ∀ a b, ¬ (a = 178 ∧ b = j) → B'.2.1 a b = B.2.1 a b) (hn : rJ A' B' j) : RR A' B' T c := by
  obtain ⟨h1, h2, h3, h4, h5, h6⟩ := h
  have hN : jN j = 86 + 7 * j := rfl
  refine ⟨h1.of (a1 _ _ (by omega)).1 (b1 _ _ (by omega)) (b1 _ _ (by omega)), rZ.all (fun a b w1 w2 => (a1 a b (by omega)).1) (fun a b w1 w2 => b1 a b (by omega)) h2, fun u hu => ?_,
    rE.all (fun a b w1 w2 => (a1 a b (by omega)).1) (fun a b w => b1 a b (by omega)) h4, rO.all (fun b => (a1 _ b (by omega)).1) (fun b => b1 _ b (by omega)) h5,
    h6.of (a1 _ _ (by omega)).1 (fun a b w1 w2 => (a1 a b (by omega)).1) (fun b => (a1 _ b (by omega)).2.2) (a1 _ _ (by omega)).2.2 (b1 _ _ (by omega)) (fun b => b1 _ b (by omega))⟩
  by_cases q : u = j
  · rw [q]; exact hn
  · obtain ⟨g1, g2, g3, g4, g5, g6, g7⟩ := h3 u hu
    have hU : jN u = 86 + 7 * u := rfl
    exact ⟨g1.of (fun b => (a1 _ b (by omega)).1) (fun b => (a1 _ b (by omega)).2.1) (fun a w1 w2 => b1 a u (by omega)) (b2 _ _ (by omega)),
      g2.of (a1 _ _ (by omega)).1 (a1 _ _ (by omega)).2.2 (b1 _ _ (by omega)) (b1 _ _ (by omega)),
      g3.of (a1 _ _ (by omega)).1 (fun b => (a1 _ b (by omega)).1) (b1 _ _ (by omega)) (fun b w => b1 _ b (by omega)),
      g4.of (a1 _ _ (by omega)).1 (a1 _ _ (by omega)).1 (b1 _ _ (by omega)) (b1 _ _ (by omega)),
      g5.of (a1 _ _ (by omega)).1 (b1 _ _ (by omega)),
      g6.of (fun b => (a1 _ b (by omega)).1) (b1 _ _ (by omega)),
      g7.of (fun a b w1 w2 => (a1 a b (by omega)).1) (b1 _ _ (by omega)) (b1 _ _ (by omega)) (fun b w => b1 _ b (by omega)) (fun b w => b1 _ b (by omega))⟩
theorem bt_tn (v : Int32) (k : Nat) : bt v k = v.toBitVec.toNat.testBit k := by
  unfold bt
  rw [BitVec.testBit_toNat]
theorem mk_and (v : Int32) {m : Nat} (hm : m < 2 ^ 31) : v &&& nI m = nI (v.toBitVec.toNat &&& m) := by
  apply Int32.toBitVec_inj.mp
  rw [Int32.toBitVec_and]
  apply BitVec.eq_of_toNat_eq
  rw [BitVec.toNat_and]
  show v.toBitVec.toNat &&& (BitVec.ofNat 32 m).toNat = (BitVec.ofNat 32 (v.toBitVec.toNat &&& m)).toNat
  rw [BitVec.toNat_ofNat, BitVec.toNat_ofNat, Nat.mod_eq_of_lt (by omega), Nat.mod_eq_of_lt (Nat.lt_of_le_of_lt Nat.and_le_right (by omega))]
theorem mk_bits (v : Int32) {m n : Nat} (hm : m < 2 ^ n) (hn : n ≤ 31) : ∃ q, q < 2 ^ n ∧ v &&& nI m = nI q ∧ ∀ k, m.testBit k = true → bt v k = q.testBit k := by
  have h2 : m < 2 ^ 31 := Nat.lt_of_lt_of_le hm (Nat.pow_le_pow_right (by decide) hn)
  refine ⟨v.toBitVec.toNat &&& m, Nat.lt_of_le_of_lt Nat.and_le_right hm, mk_and v h2, fun k hk => ?_⟩
  rw [Nat.testBit_and, hk, Bool.and_true, bt_tn]
theorem mk_long (v : Int32) : ∃ q, q < 2 ^ 32 ∧ v.toInt64 &&& 4294967295 = lN q ∧ ∀ k, bt v k = q.testBit k := by
  refine ⟨v.toBitVec.toNat, v.toBitVec.isLt, ?_, fun k => bt_tn v k⟩
  apply Int64.toBitVec_inj.mp
  rw [Int64.toBitVec_and, Int32.toBitVec_toInt64]
  apply BitVec.eq_of_getLsbD_eq
  intro i hi
  rw [BitVec.getLsbD_and, wb_tb, BitVec.getLsbD_ofNat, BitVec.getLsbD_signExtend, BitVec.testBit_toNat, show (Int64.toBitVec 4294967295) = BitVec.ofNat 64 (2 ^ 32 - 1) from rfl, BitVec.getLsbD_ofNat, Nat.testBit_two_pow_sub_one]
  by_cases h : i < 32
  · simp [h, hi]
  · simp [h, BitVec.getLsbD_of_ge _ _ (Nat.not_lt.mp h)]
theorem nI_long {q : Nat} (h : q < 2 ^ 31) : (nI q).toInt64 = lN q := by
  rw [iI_nI, lI_i (by omega) (by omega)]
  apply wb_inj
  rw [wb_tb]
  show BitVec.ofInt 64 (q : Int) = BitVec.ofNat 64 q
  simp
theorem mk_min (a b : Int32) : ∃ q, q < 2 ^ 60 ∧ ((a &&& 1073741823).toInt64 <<< ((30 : Int32).toInt64 &&& 63)) ||| (b &&& 1073741823).toInt64 = lN q := by
  obtain ⟨x, x1, x2, -⟩ := mk_bits a (m := 1073741823) (n := 30) (by decide) (by decide)
  obtain ⟨y, y1, y2, -⟩ := mk_bits b (m := 1073741823) (n := 30) (by decide) (by decide)
  refine ⟨x * 2 ^ 30 ||| y, Nat.or_lt_two_pow (by omega) (by omega), ?_⟩
  rw [show (1073741823 : Int32) = nI 1073741823 from rfl, x2, y2, nI_long (by omega), nI_long (by omega), show (30 : Int32) = nI 30 from rfl, wb_shl _ (by decide), wb_or (by omega) (by omega)]
theorem sim_mask1 {l : Launch} {E : tk_E} {M : tk_M} {T c : Nat} {j : Nat} {w v : Int32} (h : RR M M T c) (hj : j < 8) : tk_sim l E sK_mask sM_mask [.int (nI j), .int (nI 1), .int (w), .int (v)] M T := by
  obtain ⟨q0, q1, q2, q3⟩ := mk_bits v (m := 16777215) (n := 24) (by decide) (by decide)
  have eu : u_msk M (jN j + 1) (nI 1) w v = wI M (jN j + 1) 1 (v &&& 16777215) := by unfold u_msk; rw [if_neg (by decide), if_neg (by decide)]; rfl
  have hK := c_K_mask1 (l := l) (E := E) (M := M) (w := w) (v := v) hj
  rw [eu] at hK
  have hN : jN j = 86 + 7 * j := rfl
  refine sim_mk h hK (fun a b q => ⟨wI_ne (by omega), rfl⟩) (fun h' => ?_)
  have z0 : (wI M (jN j + 1) 1 (v &&& 16777215)).1 172 0 = 0 := (wI_ne (by omega)).trans h.1.1
  have hM := c_M_mask1 (l := l) (E := E) (M := wI M (jN j + 1) 1 (v &&& 16777215)) (w := w) (v := v) hj
  have em : m_msk (wI M (jN j + 1) 1 (v &&& 16777215)) j 1 w v = wI (wI M (jN j + 1) 1 (v &&& 16777215)) 179 j v := by unfold m_msk; rw [cz_id z0]; try rfl
  rw [em] at hM
  refine ⟨_, c, tk_MtR hM, fun a b q => ⟨wI_ne (by omega), rfl, rfl⟩, ?_⟩
  refine (h'.mono (Nat.le_succ T)).job hj (fun a b q => ⟨wI_ne (by omega), rfl, rfl⟩) (fun a b q => wI_ne (by omega)) (fun a b q => rfl) ?_
  obtain ⟨⟨r, u1, u2, u3, u4, u5, u6, u7, u8⟩, jv, jx, jm, jp, jw, jn⟩ := h'.2.2.1 j hj
  refine ⟨?_, jv.of (wI_ne (by omega)) (by rfl) (wI_ne (by omega)) (wI_ne (by omega)), jx.of (wI_ne (by omega)) (fun b => wI_ne (by omega)) (wI_ne (by omega)) (fun b w => wI_ne (by omega)), jm.of (wI_ne (by omega)) (wI_ne (by omega)) (wI_ne (by omega)) (wI_ne (by omega)), jp.of (wI_ne (by omega)) (wI_ne (by omega)), jw.of (fun b => wI_ne (by omega)) (wI_ne (by omega)), jn.of (fun a b w1 w2 => wI_ne (by omega)) (wI_ne (by omega)) (wI_ne (by omega)) (fun b w => wI_ne (by omega)) (fun b w => wI_ne (by omega))⟩
  obtain ⟨o1, o2, o3, o4, o5, o6, o7⟩ := u1.2.1
  refine ⟨(q0, ru_mn r, ru_dd r, ru_mo r, ru_ww r, ru_nd r, ru_np r), ⟨hj, ⟨q1, o2, o3, o4, o5, o6, o7⟩, fun k hk => by rw [wI_at]; exact q3 k ((by decide : ∀ k, k < 24 → Nat.testBit 16777215 k = true) k hk), u1.2.2.2.1, fun k hk => by rw [wI_ne (by omega)]; exact u1.2.2.2.2.1 k hk, fun k hk h1k => by rw [wI_ne (by omega)]; exact u1.2.2.2.2.2.1 k hk h1k, fun k hk => by rw [wI_ne (by omega)]; exact u1.2.2.2.2.2.2.1 k hk, by rw [wI_ne (by omega)]; exact u1.2.2.2.2.2.2.2.1, by rw [wI_ne (by omega)]; exact u1.2.2.2.2.2.2.2.2⟩, (wI_at _ _ _ _).trans q2, u3, u4, (wI_ne (by omega)).trans u5, (wI_ne (by omega)).trans u6, (wI_ne (by omega)).trans u7, (wI_ne (by omega)).trans u8⟩
theorem sim_mask3 {l : Launch} {E : tk_E} {M : tk_M} {T c : Nat} {j : Nat} {w v : Int32} (h : RR M M T c) (hj : j < 8) : tk_sim l E sK_mask sM_mask [.int (nI j), .int (nI 3), .int (w), .int (v)] M T := by
  obtain ⟨q0, q1, q2, q3⟩ := mk_bits v (m := 8190) (n := 13) (by decide) (by decide)
  have eu : u_msk M (jN j + 1) (nI 3) w v = wI M (jN j + 1) 3 (v &&& 8190) := by unfold u_msk; rw [if_neg (by decide), if_neg (by decide)]; rfl
  have hK := c_K_mask3 (l := l) (E := E) (M := M) (w := w) (v := v) hj
  rw [eu] at hK
  have hN : jN j = 86 + 7 * j := rfl
  refine sim_mk h hK (fun a b q => ⟨wI_ne (by omega), rfl⟩) (fun h' => ?_)
  have z0 : (wI M (jN j + 1) 3 (v &&& 8190)).1 172 0 = 0 := (wI_ne (by omega)).trans h.1.1
  have hM := c_M_mask3 (l := l) (E := E) (M := wI M (jN j + 1) 3 (v &&& 8190)) (w := w) (v := v) hj
  have em : m_msk (wI M (jN j + 1) 3 (v &&& 8190)) j 3 w v = wI (wI M (jN j + 1) 3 (v &&& 8190)) 181 j v := by unfold m_msk; rw [cz_id z0]; try rfl
  rw [em] at hM
  refine ⟨_, c, tk_MtR hM, fun a b q => ⟨wI_ne (by omega), rfl, rfl⟩, ?_⟩
  refine (h'.mono (Nat.le_succ T)).job hj (fun a b q => ⟨wI_ne (by omega), rfl, rfl⟩) (fun a b q => wI_ne (by omega)) (fun a b q => rfl) ?_
  obtain ⟨⟨r, u1, u2, u3, u4, u5, u6, u7, u8⟩, jv, jx, jm, jp, jw, jn⟩ := h'.2.2.1 j hj
  refine ⟨?_, jv.of (wI_ne (by omega)) (by rfl) (wI_ne (by omega)) (wI_ne (by omega)), jx.of (wI_ne (by omega)) (fun b => wI_ne (by omega)) (wI_ne (by omega)) (fun b w => wI_ne (by omega)), jm.of (wI_ne (by omega)) (wI_ne (by omega)) (wI_ne (by omega)) (wI_ne (by omega)), jp.of (wI_ne (by omega)) (wI_ne (by omega)), jw.of (fun b => wI_ne (by omega)) (wI_ne (by omega)), jn.of (fun a b w1 w2 => wI_ne (by omega)) (wI_ne (by omega)) (wI_ne (by omega)) (fun b w => wI_ne (by omega)) (fun b w => wI_ne (by omega))⟩
  obtain ⟨o1, o2, o3, o4, o5, o6, o7⟩ := u1.2.1
  refine ⟨(ru_hh r, ru_mn r, ru_dd r, q0, ru_ww r, ru_nd r, ru_np r), ⟨hj, ⟨o1, o2, o3, q1, o5, o6, o7⟩, fun k hk => by rw [wI_ne (by omega)]; exact u1.2.2.1 k hk, u1.2.2.2.1, fun k hk => by rw [wI_ne (by omega)]; exact u1.2.2.2.2.1 k hk, fun k hk h1k => by rw [wI_at]; exact q3 k ((by decide : ∀ k, k < 13 → 1 ≤ k → Nat.testBit 8190 k = true) k hk h1k), fun k hk => by rw [wI_ne (by omega)]; exact u1.2.2.2.2.2.2.1 k hk, by rw [wI_ne (by omega)]; exact u1.2.2.2.2.2.2.2.1, by rw [wI_ne (by omega)]; exact u1.2.2.2.2.2.2.2.2⟩, (wI_ne (by omega)).trans u2, u3, u4, (wI_at _ _ _ _).trans q2, (wI_ne (by omega)).trans u6, (wI_ne (by omega)).trans u7, (wI_ne (by omega)).trans u8⟩
theorem sim_mask4 {l : Launch} {E : tk_E} {M : tk_M} {T c : Nat} {j : Nat} {w v : Int32} (h : RR M M T c) (hj : j < 8) : tk_sim l E sK_mask sM_mask [.int (nI j), .int (nI 4), .int (w), .int (v)] M T := by
  obtain ⟨q0, q1, q2, q3⟩ := mk_bits v (m := 127) (n := 7) (by decide) (by decide)
  have eu : u_msk M (jN j + 1) (nI 4) w v = wI M (jN j + 1) 4 (v &&& 127) := by unfold u_msk; rw [if_neg (by decide), if_neg (by decide)]; rfl
  have hK := c_K_mask4 (l := l) (E := E) (M := M) (w := w) (v := v) hj
  rw [eu] at hK
  have hN : jN j = 86 + 7 * j := rfl
  refine sim_mk h hK (fun a b q => ⟨wI_ne (by omega), rfl⟩) (fun h' => ?_)
  have z0 : (wI M (jN j + 1) 4 (v &&& 127)).1 172 0 = 0 := (wI_ne (by omega)).trans h.1.1
  have hM := c_M_mask4 (l := l) (E := E) (M := wI M (jN j + 1) 4 (v &&& 127)) (w := w) (v := v) hj
  have em : m_msk (wI M (jN j + 1) 4 (v &&& 127)) j 4 w v = wI (wI M (jN j + 1) 4 (v &&& 127)) 182 j v := by unfold m_msk; rw [cz_id z0]; try rfl
  rw [em] at hM
  refine ⟨_, c, tk_MtR hM, fun a b q => ⟨wI_ne (by omega), rfl, rfl⟩, ?_⟩
  refine (h'.mono (Nat.le_succ T)).job hj (fun a b q => ⟨wI_ne (by omega), rfl, rfl⟩) (fun a b q => wI_ne (by omega)) (fun a b q => rfl) ?_
  obtain ⟨⟨r, u1, u2, u3, u4, u5, u6, u7, u8⟩, jv, jx, jm, jp, jw, jn⟩ := h'.2.2.1 j hj
  refine ⟨?_, jv.of (wI_ne (by omega)) (by rfl) (wI_ne (by omega)) (wI_ne (by omega)), jx.of (wI_ne (by omega)) (fun b => wI_ne (by omega)) (wI_ne (by omega)) (fun b w => wI_ne (by omega)), jm.of (wI_ne (by omega)) (wI_ne (by omega)) (wI_ne (by omega)) (wI_ne (by omega)), jp.of (wI_ne (by omega)) (wI_ne (by omega)), jw.of (fun b => wI_ne (by omega)) (wI_ne (by omega)), jn.of (fun a b w1 w2 => wI_ne (by omega)) (wI_ne (by omega)) (wI_ne (by omega)) (fun b w => wI_ne (by omega)) (fun b w => wI_ne (by omega))⟩
  obtain ⟨o1, o2, o3, o4, o5, o6, o7⟩ := u1.2.1
  refine ⟨(ru_hh r, ru_mn r, ru_dd r, ru_mo r, q0, ru_nd r, ru_np r), ⟨hj, ⟨o1, o2, o3, o4, q1, o6, o7⟩, fun k hk => by rw [wI_ne (by omega)]; exact u1.2.2.1 k hk, u1.2.2.2.1, fun k hk => by rw [wI_ne (by omega)]; exact u1.2.2.2.2.1 k hk, fun k hk h1k => by rw [wI_ne (by omega)]; exact u1.2.2.2.2.2.1 k hk h1k, fun k hk => by rw [wI_at]; exact q3 k ((by decide : ∀ k, k < 7 → Nat.testBit 127 k = true) k hk), by rw [wI_ne (by omega)]; exact u1.2.2.2.2.2.2.2.1, by rw [wI_ne (by omega)]; exact u1.2.2.2.2.2.2.2.2⟩, (wI_ne (by omega)).trans u2, u3, u4, (wI_ne (by omega)).trans u5, (wI_at _ _ _ _).trans q2, (wI_ne (by omega)).trans u7, (wI_ne (by omega)).trans u8⟩
theorem sim_mask0 {l : Launch} {E : tk_E} {M : tk_M} {T c : Nat} {j : Nat} {w v : Int32} (h : RR M M T c) (hj : j < 8) : tk_sim l E sK_mask sM_mask [.int (nI j), .int (nI 0), .int (w), .int (v)] M T := by
  obtain ⟨q0, q1, q2⟩ := mk_min w v
  have eu : u_msk M (jN j + 1) (nI 0) w v = wL M (jN j + 1) 0 (((w &&& 1073741823).toInt64 <<< ((30 : Int32).toInt64 &&& 63)) ||| (v &&& 1073741823).toInt64) := by unfold u_msk; rw [if_neg (by decide), if_neg (by decide)]; rfl
  have hK := c_K_mask0 (l := l) (E := E) (M := M) (w := w) (v := v) hj
  rw [eu] at hK
  have hN : jN j = 86 + 7 * j := rfl
  refine sim_mk h hK (fun a b q => ⟨rfl, by show (if a = jN j + 1 ∧ b = _ then _ else M.2.1 a b) = M.2.1 a b; rw [if_neg (by omega)]⟩) (fun h' => ?_)
  have z0 : (wL M (jN j + 1) 0 (((w &&& 1073741823).toInt64 <<< ((30 : Int32).toInt64 &&& 63)) ||| (v &&& 1073741823).toInt64)).1 172 0 = 0 := h.1.1
  have hM := c_M_mask0 (l := l) (E := E) (M := wL M (jN j + 1) 0 (((w &&& 1073741823).toInt64 <<< ((30 : Int32).toInt64 &&& 63)) ||| (v &&& 1073741823).toInt64)) (w := w) (v := v) hj
  have em : m_msk (wL M (jN j + 1) 0 (((w &&& 1073741823).toInt64 <<< ((30 : Int32).toInt64 &&& 63)) ||| (v &&& 1073741823).toInt64)) j 0 w v = wL (wL M (jN j + 1) 0 (((w &&& 1073741823).toInt64 <<< ((30 : Int32).toInt64 &&& 63)) ||| (v &&& 1073741823).toInt64)) 178 j (((w &&& 1073741823).toInt64 <<< ((30 : Int32).toInt64 &&& 63)) ||| (v &&& 1073741823).toInt64) := by unfold m_msk; rw [cz_id z0]; try rfl
  rw [em] at hM
  refine ⟨_, c, tk_MtR hM, fun a b q => ⟨rfl, by show (if a = 178 ∧ b = j then _ else _) = _; rw [if_neg (by omega)], rfl⟩, ?_⟩
  refine (h'.mono (Nat.le_succ T)).job hj (fun a b q => ⟨rfl, by show (if a = jN j + 1 ∧ b = _ then _ else M.2.1 a b) = M.2.1 a b; rw [if_neg (by omega)], rfl⟩) (fun a b q => rfl) (fun a b q => by show (if a = 178 ∧ b = j then _ else _) = _; rw [if_neg (by omega)]) ?_
  obtain ⟨⟨r, u1, u2, u3, u4, u5, u6, u7, u8⟩, jv, jx, jm, jp, jw, jn⟩ := h'.2.2.1 j hj
  refine ⟨?_, jv.of (rfl) (by rfl) (rfl) (rfl), jx.of (rfl) (fun b => rfl) (rfl) (fun b w => rfl), jm.of (rfl) (rfl) (rfl) (rfl), jp.of (rfl) (rfl), jw.of (fun b => rfl) (rfl), jn.of (fun a b w1 w2 => rfl) (rfl) (rfl) (fun b w => rfl) (fun b w => rfl)⟩
  obtain ⟨o1, o2, o3, o4, o5, o6, o7⟩ := u1.2.1
  refine ⟨(ru_hh r, q0, ru_dd r, ru_mo r, ru_ww r, ru_nd r, ru_np r), ⟨hj, ⟨o1, q1, o3, o4, o5, o6, o7⟩, u1.2.2.1, by show (if 178 = 178 ∧ j = j then (((w &&& 1073741823).toInt64 <<< ((30 : Int32).toInt64 &&& 63)) ||| (v &&& 1073741823).toInt64) else _) = _; rw [if_pos ⟨rfl, rfl⟩]; exact q2, u1.2.2.2.2.1, u1.2.2.2.2.2.1, u1.2.2.2.2.2.2.1, u1.2.2.2.2.2.2.2.1, u1.2.2.2.2.2.2.2.2⟩, u2, by show (if jN j + 1 = jN j + 1 ∧ 0 = 0 then (((w &&& 1073741823).toInt64 <<< ((30 : Int32).toInt64 &&& 63)) ||| (v &&& 1073741823).toInt64) else _) = _; rw [if_pos ⟨rfl, rfl⟩]; exact q2, by show (if jN j + 1 = jN j + 1 ∧ 2 = 0 then (((w &&& 1073741823).toInt64 <<< ((30 : Int32).toInt64 &&& 63)) ||| (v &&& 1073741823).toInt64) else M.2.1 (jN j + 1) 2) = _; rw [if_neg (by omega)]; exact u4, u5, u6, u7, u8⟩
theorem sim_mask2 {l : Launch} {E : tk_E} {M : tk_M} {T c : Nat} {j : Nat} {w v : Int32} (h : RR M M T c) (hj : j < 8) : tk_sim l E sK_mask sM_mask [.int (nI j), .int (nI 2), .int (w), .int (v)] M T := by
  obtain ⟨q0, q1, q2, q3⟩ := mk_long v
  have eu : u_msk M (jN j + 1) (nI 2) w v = wL M (jN j + 1) 2 (v.toInt64 &&& 4294967295) := by unfold u_msk; rw [if_neg (by decide), if_neg (by decide)]; rfl
  have hK := c_K_mask2 (l := l) (E := E) (M := M) (w := w) (v := v) hj
  rw [eu] at hK
  have hN : jN j = 86 + 7 * j := rfl
  refine sim_mk h hK (fun a b q => ⟨rfl, by show (if a = jN j + 1 ∧ b = _ then _ else M.2.1 a b) = M.2.1 a b; rw [if_neg (by omega)]⟩) (fun h' => ?_)
  have z0 : (wL M (jN j + 1) 2 (v.toInt64 &&& 4294967295)).1 172 0 = 0 := h.1.1
  have hM := c_M_mask2 (l := l) (E := E) (M := wL M (jN j + 1) 2 (v.toInt64 &&& 4294967295)) (w := w) (v := v) hj
  have em : m_msk (wL M (jN j + 1) 2 (v.toInt64 &&& 4294967295)) j 2 w v = wI (wL M (jN j + 1) 2 (v.toInt64 &&& 4294967295)) 180 j v := by unfold m_msk; rw [cz_id z0]; try rfl
  rw [em] at hM
  refine ⟨_, c, tk_MtR hM, fun a b q => ⟨wI_ne (by omega), rfl, rfl⟩, ?_⟩
  refine (h'.mono (Nat.le_succ T)).job hj (fun a b q => ⟨rfl, by show (if a = jN j + 1 ∧ b = _ then _ else M.2.1 a b) = M.2.1 a b; rw [if_neg (by omega)], rfl⟩) (fun a b q => wI_ne (by omega)) (fun a b q => rfl) ?_
  obtain ⟨⟨r, u1, u2, u3, u4, u5, u6, u7, u8⟩, jv, jx, jm, jp, jw, jn⟩ := h'.2.2.1 j hj
  refine ⟨?_, jv.of (rfl) (by rfl) (wI_ne (by omega)) (wI_ne (by omega)), jx.of (rfl) (fun b => rfl) (wI_ne (by omega)) (fun b w => wI_ne (by omega)), jm.of (rfl) (rfl) (wI_ne (by omega)) (wI_ne (by omega)), jp.of (rfl) (wI_ne (by omega)), jw.of (fun b => rfl) (wI_ne (by omega)), jn.of (fun a b w1 w2 => rfl) (wI_ne (by omega)) (wI_ne (by omega)) (fun b w => wI_ne (by omega)) (fun b w => wI_ne (by omega))⟩
  obtain ⟨o1, o2, o3, o4, o5, o6, o7⟩ := u1.2.1
  refine ⟨(ru_hh r, ru_mn r, q0, ru_mo r, ru_ww r, ru_nd r, ru_np r), ⟨hj, ⟨o1, o2, q1, o4, o5, o6, o7⟩, fun k hk => by rw [wI_ne (by omega)]; exact u1.2.2.1 k hk, u1.2.2.2.1, fun k hk => by rw [wI_at]; exact q3 k, fun k hk h1k => by rw [wI_ne (by omega)]; exact u1.2.2.2.2.2.1 k hk h1k, fun k hk => by rw [wI_ne (by omega)]; exact u1.2.2.2.2.2.2.1 k hk, by rw [wI_ne (by omega)]; exact u1.2.2.2.2.2.2.2.1, by rw [wI_ne (by omega)]; exact u1.2.2.2.2.2.2.2.2⟩, u2, by show (if jN j + 1 = jN j + 1 ∧ 0 = 2 then (v.toInt64 &&& 4294967295) else M.2.1 (jN j + 1) 0) = _; rw [if_neg (by omega)]; exact u3, by show (if jN j + 1 = jN j + 1 ∧ 2 = 2 then (v.toInt64 &&& 4294967295) else _) = _; rw [if_pos ⟨rfl, rfl⟩]; exact q2, u5, u6, u7, u8⟩
theorem sim_mask {l : Launch} {E : tk_E} {M : tk_M} {T c : Nat} {x y w v : Int32} (h : RR M M T c)  : tk_sim l E sK_mask sM_mask [.int (x), .int (y), .int (w), .int (v)] M T := by
  by_cases hb : (¬ x < 0 ∧ x < 8) ∧ (¬ y < 0) ∧ (y ≤ 4)
  rotate_left
  · exact sim_ref h (n_K_mask hb) (czR h.1.1 (n_M_mask hb))
  obtain ⟨g1, g2, g3⟩ := hb
  obtain ⟨j, hj, rfl⟩ := exN (n := 8) (by decide) g1
  obtain ⟨k, hk, rfl⟩ := exN (n := 5) (by decide) ⟨g2, by rw [Int32.lt_iff_toInt_lt]; rw [Int32.le_iff_toInt_le] at g3; exact Int.lt_of_le_of_lt g3 (by decide)⟩
  rcases (show k = 0 ∨ k = 1 ∨ k = 2 ∨ k = 3 ∨ k = 4 by omega) with rfl | rfl | rfl | rfl | rfl
  · exact sim_mask0 h hj
  · exact sim_mask1 h hj
  · exact sim_mask2 h hj
  · exact sim_mask3 h hj
  · exact sim_mask4 h hj
theorem sim_nthg {l : Launch} {E : tk_E} {M : tk_M} {T c : Nat} {j : Nat} {y w : Int32} (h : RR M M T c) (hj : j < 8) (h1 : ¬ y < 0) (h2 : ¬ 6 < y) (h3 : ¬ w < 0) (h4 : w ≤ 6) : tk_sim l E sK_nth sM_nth [.int (nI j), .int (y), .int (w)] M T := by
  have hN : jN j = 86 + 7 * j := rfl
  refine sim_mk h (M1 := (wI (wI M (jN j + 1) 5 y) (jN j + 1) 6 w)) (c_K_nth hj h1 h2 h3 h4) (fun a b q => ⟨by rw [wI_ne (by omega), wI_ne (by omega)], rfl⟩) (fun h' => ?_)
  have z0 : (wI (wI M (jN j + 1) 5 y) (jN j + 1) 6 w).1 172 0 = 0 := by rw [wI_ne (by omega), wI_ne (by omega)]; exact h.1.1
  have hM := c_M_nth (l := l) (E := E) (M := (wI (wI M (jN j + 1) 5 y) (jN j + 1) 6 w)) hj h1 h2 h3 h4
  rw [cz_id z0] at hM
  refine ⟨_, c, tk_MtR hM, fun a b q => ⟨by rw [wI_ne (by omega), wI_ne (by omega)], rfl, rfl⟩, ?_⟩
  refine (h'.mono (Nat.le_succ T)).job hj (fun a b q => ⟨by rw [wI_ne (by omega), wI_ne (by omega)], rfl, rfl⟩) (fun a b q => by rw [wI_ne (by omega), wI_ne (by omega)]) (fun a b q => rfl) ?_
  obtain ⟨ju, jv, jx, jm, jp, jw, jn⟩ := h'.2.2.1 j hj
  refine ⟨?_, jv.of (by rw [wI_ne (by omega), wI_ne (by omega)]) (by rfl) (by rw [wI_ne (by omega), wI_ne (by omega)]) (by rw [wI_ne (by omega), wI_ne (by omega)]), jx.of (by rw [wI_ne (by omega), wI_ne (by omega)]) (fun b => by rw [wI_ne (by omega), wI_ne (by omega)]) (by rw [wI_ne (by omega), wI_ne (by omega)]) (fun b w => by rw [wI_ne (by omega), wI_ne (by omega)]), jm.of (by rw [wI_ne (by omega), wI_ne (by omega)]) (by rw [wI_ne (by omega), wI_ne (by omega)]) (by rw [wI_ne (by omega), wI_ne (by omega)]) (by rw [wI_ne (by omega), wI_ne (by omega)]), jp.of (by rw [wI_ne (by omega), wI_ne (by omega)]) (by rw [wI_ne (by omega), wI_ne (by omega)]), jw.of (fun b => by rw [wI_ne (by omega), wI_ne (by omega)]) (by rw [wI_ne (by omega), wI_ne (by omega)]), jn.of (fun a b w1 w2 => by rw [wI_ne (by omega), wI_ne (by omega)]) (by rw [wI_ne (by omega), wI_ne (by omega)]) (by rw [wI_ne (by omega), wI_ne (by omega)]) (fun b w => by rw [wI_ne (by omega), wI_ne (by omega)]) (fun b w => by rw [wI_ne (by omega), wI_ne (by omega)])⟩
  obtain ⟨r, u1, u2, u3, u4, u5, u6, u7, u8⟩ := ju
  obtain ⟨o1, o2, o3, o4, o5, o6, o7⟩ := u1.2.1
  obtain ⟨y0, y1, rfl⟩ := exN (n := 7) (by decide) ⟨h1, by rw [Int32.lt_iff_toInt_lt]; rw [Int32.not_lt, Int32.le_iff_toInt_le] at h2; exact Int.lt_of_le_of_lt h2 (by decide)⟩
  obtain ⟨w0, w1, rfl⟩ := exN (n := 7) (by decide) ⟨h3, by rw [Int32.lt_iff_toInt_lt]; rw [Int32.le_iff_toInt_le] at h4; exact Int.lt_of_le_of_lt h4 (by decide)⟩
  refine ⟨(ru_hh r, ru_mn r, ru_dd r, ru_mo r, ru_ww r, y0, w0), ⟨hj, ⟨o1, o2, o3, o4, o5, y1, Nat.le_of_lt_succ w1⟩, fun k hk => by rw [wI_ne (by omega), wI_ne (by omega)]; exact u1.2.2.1 k hk, u1.2.2.2.1, fun k hk => by rw [wI_ne (by omega), wI_ne (by omega)]; exact u1.2.2.2.2.1 k hk, fun k hk h1k => by rw [wI_ne (by omega), wI_ne (by omega)]; exact u1.2.2.2.2.2.1 k hk h1k, fun k hk => by rw [wI_ne (by omega), wI_ne (by omega)]; exact u1.2.2.2.2.2.2.1 k hk, by rw [wI_ne (by omega), wI_at]; rfl, by rw [wI_at]; rfl⟩, (by rw [wI_ne (by omega), wI_ne (by omega)]; exact u2), u3, u4, (by rw [wI_ne (by omega), wI_ne (by omega)]; exact u5), (by rw [wI_ne (by omega), wI_ne (by omega)]; exact u6), (by rw [wI_ne (by omega), wI_at]; rfl), (by rw [wI_at]; rfl)⟩
theorem sim_nth {l : Launch} {E : tk_E} {M : tk_M} {T c : Nat} {x y w : Int32} (h : RR M M T c)  : tk_sim l E sK_nth sM_nth [.int (x), .int (y), .int (w)] M T := by
  by_cases hb : (¬ x < 0 ∧ x < 8) ∧ (¬ y < 0) ∧ (¬ 6 < y) ∧ (¬ w < 0) ∧ (w ≤ 6)
  rotate_left
  · exact sim_ref h (n_K_nth hb) (czR h.1.1 (n_M_nth hb))
  obtain ⟨g1, g2, g3, g4, g5⟩ := hb
  obtain ⟨j, hj, rfl⟩ := exN (n := 8) (by decide) g1
  exact sim_nthg h hj g2 g3 g4 g5
theorem sim_set1z {l : Launch} {E : tk_E} {M : tk_M} {T c : Nat} {j : Nat} {w : Int32} (h : RR M M T c) (hj : j < 8) (hw : w = 0) : tk_sim l E sK_set sM_set [.int (nI j), .int (1), .int (w)] M T := by
  have hN : jN j = 86 + 7 * j := rfl
  refine sim_mk h (M1 := (wI M (jN j) 5 0)) (c_K_set1z hj hw) (fun a b q => ⟨by rw [wI_ne (by omega)], rfl⟩) (fun h' => ?_)
  have z0 : (wI M (jN j) 5 0).1 172 0 = 0 := by rw [wI_ne (by omega)]; exact h.1.1
  have hM := c_M_set1z (l := l) (E := E) (M := (wI M (jN j) 5 0)) hj hw
  rw [cz_id z0] at hM
  refine ⟨_, c, tk_MtR hM, fun a b q => ⟨by rw [wI_ne (by omega)], rfl, rfl⟩, ?_⟩
  refine (h'.mono (Nat.le_succ T)).job hj (fun a b q => ⟨by rw [wI_ne (by omega)], rfl, rfl⟩) (fun a b q => by rw [wI_ne (by omega)]) (fun a b q => rfl) ?_
  obtain ⟨ju, jv, jx, jm, jp, jw, jn⟩ := h'.2.2.1 j hj
  refine ⟨ju.of (fun b => by rw [wI_ne (by omega)]) (fun b => by rfl) (fun a w1 w2 => by rw [wI_ne (by omega)]) (by rfl), by obtain ⟨z, mv, v1, v2, v3, v4, v5⟩ := jv; exact ⟨z, false, v1, v2, by rw [wI_ne (by omega)]; exact v3, wI_at _ _ _ _, wI_at _ _ _ _⟩, jx.of (by rw [wI_ne (by omega)]) (fun b => by rw [wI_ne (by omega)]) (by rw [wI_ne (by omega)]) (fun b w => by rw [wI_ne (by omega)]), jm.of (by rw [wI_ne (by omega)]) (by rw [wI_ne (by omega)]) (by rw [wI_ne (by omega)]) (by rw [wI_ne (by omega)]), jp.of (by rw [wI_ne (by omega)]) (by rw [wI_ne (by omega)]), jw.of (fun b => by rw [wI_ne (by omega)]) (by rw [wI_ne (by omega)]), jn.of (fun a b w1 w2 => by rw [wI_ne (by omega)]) (by rw [wI_ne (by omega)]) (by rw [wI_ne (by omega)]) (fun b w => by rw [wI_ne (by omega)]) (fun b w => by rw [wI_ne (by omega)])⟩
theorem sim_set1n {l : Launch} {E : tk_E} {M : tk_M} {T c : Nat} {j : Nat} {w : Int32} (h : RR M M T c) (hj : j < 8) (hw : ¬ w = 0) : tk_sim l E sK_set sM_set [.int (nI j), .int (1), .int (w)] M T := by
  have hN : jN j = 86 + 7 * j := rfl
  refine sim_mk h (M1 := (wI M (jN j) 5 1)) (c_K_set1n hj hw) (fun a b q => ⟨by rw [wI_ne (by omega)], rfl⟩) (fun h' => ?_)
  have z0 : (wI M (jN j) 5 1).1 172 0 = 0 := by rw [wI_ne (by omega)]; exact h.1.1
  have hM := c_M_set1n (l := l) (E := E) (M := (wI M (jN j) 5 1)) hj hw
  rw [cz_id z0] at hM
  refine ⟨_, c, tk_MtR hM, fun a b q => ⟨by rw [wI_ne (by omega)], rfl, rfl⟩, ?_⟩
  refine (h'.mono (Nat.le_succ T)).job hj (fun a b q => ⟨by rw [wI_ne (by omega)], rfl, rfl⟩) (fun a b q => by rw [wI_ne (by omega)]) (fun a b q => rfl) ?_
  obtain ⟨ju, jv, jx, jm, jp, jw, jn⟩ := h'.2.2.1 j hj
  refine ⟨ju.of (fun b => by rw [wI_ne (by omega)]) (fun b => by rfl) (fun a w1 w2 => by rw [wI_ne (by omega)]) (by rfl), by obtain ⟨z, mv, v1, v2, v3, v4, v5⟩ := jv; exact ⟨z, true, v1, v2, by rw [wI_ne (by omega)]; exact v3, wI_at _ _ _ _, wI_at _ _ _ _⟩, jx.of (by rw [wI_ne (by omega)]) (fun b => by rw [wI_ne (by omega)]) (by rw [wI_ne (by omega)]) (fun b w => by rw [wI_ne (by omega)]), jm.of (by rw [wI_ne (by omega)]) (by rw [wI_ne (by omega)]) (by rw [wI_ne (by omega)]) (by rw [wI_ne (by omega)]), jp.of (by rw [wI_ne (by omega)]) (by rw [wI_ne (by omega)]), jw.of (fun b => by rw [wI_ne (by omega)]) (by rw [wI_ne (by omega)]), jn.of (fun a b w1 w2 => by rw [wI_ne (by omega)]) (by rw [wI_ne (by omega)]) (by rw [wI_ne (by omega)]) (fun b w => by rw [wI_ne (by omega)]) (fun b w => by rw [wI_ne (by omega)])⟩
theorem sim_set4z {l : Launch} {E : tk_E} {M : tk_M} {T c : Nat} {j : Nat} {w : Int32} (h : RR M M T c) (hj : j < 8) (hw : w = 0) : tk_sim l E sK_set sM_set [.int (nI j), .int (4), .int (w)] M T := by
  have hN : jN j = 86 + 7 * j := rfl
  refine sim_mk h (M1 := (wI M (jN j) 8 0)) (c_K_set4z hj hw) (fun a b q => ⟨by rw [wI_ne (by omega)], rfl⟩) (fun h' => ?_)
  have z0 : (wI M (jN j) 8 0).1 172 0 = 0 := by rw [wI_ne (by omega)]; exact h.1.1
  have hM := c_M_set4z (l := l) (E := E) (M := (wI M (jN j) 8 0)) hj hw
  rw [cz_id z0] at hM
  refine ⟨_, c, tk_MtR hM, fun a b q => ⟨by rw [wI_ne (by omega)], rfl, rfl⟩, ?_⟩
  refine (h'.mono (Nat.le_succ T)).job hj (fun a b q => ⟨by rw [wI_ne (by omega)], rfl, rfl⟩) (fun a b q => by rw [wI_ne (by omega)]) (fun a b q => rfl) ?_
  obtain ⟨ju, jv, jx, jm, jp, jw, jn⟩ := h'.2.2.1 j hj
  refine ⟨ju.of (fun b => by rw [wI_ne (by omega)]) (fun b => by rfl) (fun a w1 w2 => by rw [wI_ne (by omega)]) (by rfl), jv.of (by rw [wI_ne (by omega)]) (by rfl) (by rw [wI_ne (by omega)]) (by rw [wI_ne (by omega)]), jx.of (by rw [wI_ne (by omega)]) (fun b => by rw [wI_ne (by omega)]) (by rw [wI_ne (by omega)]) (fun b w => by rw [wI_ne (by omega)]), jm.of (by rw [wI_ne (by omega)]) (by rw [wI_ne (by omega)]) (by rw [wI_ne (by omega)]) (by rw [wI_ne (by omega)]), (wI_at _ _ _ _).trans (wI_at _ _ _ _).symm, jw.of (fun b => by rw [wI_ne (by omega)]) (by rw [wI_ne (by omega)]), jn.of (fun a b w1 w2 => by rw [wI_ne (by omega)]) (by rw [wI_ne (by omega)]) (by rw [wI_ne (by omega)]) (fun b w => by rw [wI_ne (by omega)]) (fun b w => by rw [wI_ne (by omega)])⟩
theorem sim_set4n {l : Launch} {E : tk_E} {M : tk_M} {T c : Nat} {j : Nat} {w : Int32} (h : RR M M T c) (hj : j < 8) (hw : ¬ w = 0) : tk_sim l E sK_set sM_set [.int (nI j), .int (4), .int (w)] M T := by
  have hN : jN j = 86 + 7 * j := rfl
  refine sim_mk h (M1 := (wI M (jN j) 8 1)) (c_K_set4n hj hw) (fun a b q => ⟨by rw [wI_ne (by omega)], rfl⟩) (fun h' => ?_)
  have z0 : (wI M (jN j) 8 1).1 172 0 = 0 := by rw [wI_ne (by omega)]; exact h.1.1
  have hM := c_M_set4n (l := l) (E := E) (M := (wI M (jN j) 8 1)) hj hw
  rw [cz_id z0] at hM
  refine ⟨_, c, tk_MtR hM, fun a b q => ⟨by rw [wI_ne (by omega)], rfl, rfl⟩, ?_⟩
  refine (h'.mono (Nat.le_succ T)).job hj (fun a b q => ⟨by rw [wI_ne (by omega)], rfl, rfl⟩) (fun a b q => by rw [wI_ne (by omega)]) (fun a b q => rfl) ?_
  obtain ⟨ju, jv, jx, jm, jp, jw, jn⟩ := h'.2.2.1 j hj
  refine ⟨ju.of (fun b => by rw [wI_ne (by omega)]) (fun b => by rfl) (fun a w1 w2 => by rw [wI_ne (by omega)]) (by rfl), jv.of (by rw [wI_ne (by omega)]) (by rfl) (by rw [wI_ne (by omega)]) (by rw [wI_ne (by omega)]), jx.of (by rw [wI_ne (by omega)]) (fun b => by rw [wI_ne (by omega)]) (by rw [wI_ne (by omega)]) (fun b w => by rw [wI_ne (by omega)]), jm.of (by rw [wI_ne (by omega)]) (by rw [wI_ne (by omega)]) (by rw [wI_ne (by omega)]) (by rw [wI_ne (by omega)]), (wI_at _ _ _ _).trans (wI_at _ _ _ _).symm, jw.of (fun b => by rw [wI_ne (by omega)]) (by rw [wI_ne (by omega)]), jn.of (fun a b w1 w2 => by rw [wI_ne (by omega)]) (by rw [wI_ne (by omega)]) (by rw [wI_ne (by omega)]) (fun b w => by rw [wI_ne (by omega)]) (fun b w => by rw [wI_ne (by omega)])⟩
theorem sim_set2g {l : Launch} {E : tk_E} {M : tk_M} {T c : Nat} {j : Nat} {w : Int32} (h : RR M M T c) (hj : j < 8) (h1 : ¬ w < 0) (h2 : w < 3) : tk_sim l E sK_set sM_set [.int (nI j), .int (2), .int (w)] M T := by
  have hx : ¬ (w < 0 ∨ 2 < w) := by rintro (q | q); (exact h1 q); (rw [Int32.lt_iff_toInt_lt] at q h2; exact absurd (Int.lt_of_lt_of_le h2 q) (Int.lt_irrefl _))
  have hN : jN j = 86 + 7 * j := rfl
  refine sim_mk h (M1 := (wI M (jN j) 6 w)) (by have hK := c_K_set2 (l := l) (E := E) (M := M) (w := w) hj; rw [if_neg hx, if_neg hx] at hK; exact hK) (fun a b q => ⟨by rw [wI_ne (by omega)], rfl⟩) (fun h' => ?_)
  have z0 : (wI M (jN j) 6 w).1 172 0 = 0 := by rw [wI_ne (by omega)]; exact h.1.1
  have hM := c_M_set2 (l := l) (E := E) (M := (wI M (jN j) 6 w)) hj h1 h2
  rw [cz_id z0] at hM
  refine ⟨_, c, tk_MtR hM, fun a b q => ⟨by rw [wI_ne (by omega)], rfl, rfl⟩, ?_⟩
  refine (h'.mono (Nat.le_succ T)).job hj (fun a b q => ⟨by rw [wI_ne (by omega)], rfl, rfl⟩) (fun a b q => by rw [wI_ne (by omega)]) (fun a b q => rfl) ?_
  obtain ⟨ju, jv, jx, jm, jp, jw, jn⟩ := h'.2.2.1 j hj
  refine ⟨ju.of (fun b => by rw [wI_ne (by omega)]) (fun b => by rfl) (fun a w1 w2 => by rw [wI_ne (by omega)]) (by rfl), jv.of (by rw [wI_ne (by omega)]) (by rfl) (by rw [wI_ne (by omega)]) (by rw [wI_ne (by omega)]), jx.of (by rw [wI_ne (by omega)]) (fun b => by rw [wI_ne (by omega)]) (by rw [wI_ne (by omega)]) (fun b w => by rw [wI_ne (by omega)]), by obtain ⟨md, lt, m1, m2, m3, m4, m5, m6⟩ := jm; obtain ⟨w0, w1, rfl⟩ := exN (n := 3) (by decide) ⟨h1, h2⟩; exact ⟨w0, lt, by omega, wI_at _ _ _ _, wI_at _ _ _ _, by rw [wI_ne (by omega)]; exact m4, by rw [wI_ne (by omega)]; exact m5, m6⟩, jp.of (by rw [wI_ne (by omega)]) (by rw [wI_ne (by omega)]), jw.of (fun b => by rw [wI_ne (by omega)]) (by rw [wI_ne (by omega)]), jn.of (fun a b w1 w2 => by rw [wI_ne (by omega)]) (by rw [wI_ne (by omega)]) (by rw [wI_ne (by omega)]) (fun b w => by rw [wI_ne (by omega)]) (fun b w => by rw [wI_ne (by omega)])⟩
theorem sim_set3g {l : Launch} {E : tk_E} {M : tk_M} {T c : Nat} {j : Nat} {w : Int32} (h : RR M M T c) (hj : j < 8) (h1 : ¬ w < 0) (h2 : ¬ 100000 < w) : tk_sim l E sK_set sM_set [.int (nI j), .int (3), .int (w)] M T := by
  have hx : ¬ (w < 0 ∨ 100000 < w) := by rintro (q | q); (exact h1 q); exact h2 q
  have hN : jN j = 86 + 7 * j := rfl
  refine sim_mk h (M1 := (wI M (jN j) 7 w)) (by have hK := c_K_set3 (l := l) (E := E) (M := M) (w := w) hj; rw [if_neg hx, if_neg hx] at hK; exact hK) (fun a b q => ⟨by rw [wI_ne (by omega)], rfl⟩) (fun h' => ?_)
  have z0 : (wI M (jN j) 7 w).1 172 0 = 0 := by rw [wI_ne (by omega)]; exact h.1.1
  have hM := c_M_set3 (l := l) (E := E) (M := (wI M (jN j) 7 w)) hj h1 h2
  rw [cz_id z0] at hM
  refine ⟨_, c, tk_MtR hM, fun a b q => ⟨by rw [wI_ne (by omega)], rfl, rfl⟩, ?_⟩
  refine (h'.mono (Nat.le_succ T)).job hj (fun a b q => ⟨by rw [wI_ne (by omega)], rfl, rfl⟩) (fun a b q => by rw [wI_ne (by omega)]) (fun a b q => rfl) ?_
  obtain ⟨ju, jv, jx, jm, jp, jw, jn⟩ := h'.2.2.1 j hj
  refine ⟨ju.of (fun b => by rw [wI_ne (by omega)]) (fun b => by rfl) (fun a w1 w2 => by rw [wI_ne (by omega)]) (by rfl), jv.of (by rw [wI_ne (by omega)]) (by rfl) (by rw [wI_ne (by omega)]) (by rw [wI_ne (by omega)]), jx.of (by rw [wI_ne (by omega)]) (fun b => by rw [wI_ne (by omega)]) (by rw [wI_ne (by omega)]) (fun b w => by rw [wI_ne (by omega)]), by obtain ⟨md, lt, m1, m2, m3, m4, m5, m6⟩ := jm; rw [Int32.not_lt, Int32.le_iff_toInt_le] at h1 h2; exact ⟨md, w.toInt, m1, by rw [wI_ne (by omega)]; exact m2, by rw [wI_ne (by omega)]; exact m3, (wI_at _ _ _ _).trans (iI_of w), (wI_at _ _ _ _).trans (iI_of w), h1, h2⟩, jp.of (by rw [wI_ne (by omega)]) (by rw [wI_ne (by omega)]), jw.of (fun b => by rw [wI_ne (by omega)]) (by rw [wI_ne (by omega)]), jn.of (fun a b w1 w2 => by rw [wI_ne (by omega)]) (by rw [wI_ne (by omega)]) (by rw [wI_ne (by omega)]) (fun b w => by rw [wI_ne (by omega)]) (fun b w => by rw [wI_ne (by omega)])⟩
theorem sim_set0g {l : Launch} {E : tk_E} {M : tk_M} {T c : Nat} {j z : Nat} (h : RR M M T c) (hj : j < 8) (hz : z < 4) : tk_sim l E sK_set sM_set [.int (nI j), .int (0), .int (nI z)] M T := by
  have hN : jN j = 86 + 7 * j := rfl
  refine sim_mk h (c_K_set0 hj hz) (fun a b q => ⟨rfl, rfl⟩) (fun h' => ?_)
  have hM := c_M_set0 (l := l) (E := E) (M := wR M (jN j) 3 (zN z)) hj hz
  rw [cz_id (show (wR M (jN j) 3 (zN z)).1 172 0 = 0 from h.1.1)] at hM
  refine ⟨_, c, tk_MtR hM, fun a b q => ⟨wI_ne (by omega), rfl, rfl⟩, ?_⟩
  refine (h'.mono (Nat.le_succ T)).job hj (fun a b q => ⟨rfl, rfl, wR_ne (by omega)⟩) (fun a b q => wI_ne (by omega)) (fun a b q => rfl) ?_
  obtain ⟨ju, jv, jx, jm, jp, jw, jn⟩ := h'.2.2.1 j hj
  refine ⟨ju.of (fun b => by rfl) (fun b => by rfl) (fun a w1 w2 => wI_ne (by omega)) (by rfl), ?_, jx.of (by rfl) (fun b => by rfl) (wI_ne (by omega)) (fun b w => wI_ne (by omega)), jm.of (by rfl) (by rfl) (wI_ne (by omega)) (wI_ne (by omega)), jp.of (by rfl) (wI_ne (by omega)), jw.of (fun b => by rfl) (wI_ne (by omega)), jn.of (fun a b w1 w2 => by rfl) (wI_ne (by omega)) (wI_ne (by omega)) (fun b w => wI_ne (by omega)) (fun b w => wI_ne (by omega))⟩
  obtain ⟨z9, mv, v1, v2, v3, v4, v5⟩ := jv
  exact ⟨z, mv, hz, wR_at _ _ _ _, wI_at _ _ _ _, v4, by rw [wI_ne (by omega)]; exact v5⟩
theorem sim_set {l : Launch} {E : tk_E} {M : tk_M} {T c : Nat} {x y w : Int32} (h : RR M M T c)  : tk_sim l E sK_set sM_set [.int (x), .int (y), .int (w)] M T := by
  by_cases hb : ¬ x < 0 ∧ x < 8
  rotate_left
  · exact sim_ref h (n_K_setj hb) (czR h.1.1 (n_M_setj hb))
  obtain ⟨j, hj, rfl⟩ := exN (n := 8) (by decide) hb
  rcases pk_ix y (n := 5) (by decide) with q | q | ⟨k, hk, rfl⟩
  · exact sim_ref h (n_K_setx hj (Or.inl q)) (czR h.1.1 (n_M_setx hj (fun v => by rw [v] at q; exact absurd q (by decide)) (fun v => by rw [v] at q; exact absurd q (by decide)) (fun v => by rw [v] at q; exact absurd q (by decide)) (fun v => by rw [v] at q; exact absurd q (by decide)) (fun v => by rw [v] at q; exact absurd q (by decide))))
  · exact sim_ref h (n_K_setx hj (Or.inr q)) (czR h.1.1 (n_M_setx hj (fun v => by rw [v] at q; exact absurd q (by decide)) (fun v => by rw [v] at q; exact absurd q (by decide)) (fun v => by rw [v] at q; exact absurd q (by decide)) (fun v => by rw [v] at q; exact absurd q (by decide)) (fun v => by rw [v] at q; exact absurd q (by decide))))
  · rcases (show k = 0 ∨ k = 1 ∨ k = 2 ∨ k = 3 ∨ k = 4 by omega) with rfl | rfl | rfl | rfl | rfl
    · by_cases g : ¬ w < 0 ∧ w < 4
      · obtain ⟨z, hz, rfl⟩ := exN (n := 4) (by decide) g
        exact sim_set0g h hj hz
      · exact sim_ref h (n_K_set0 hj g) (czR h.1.1 (n_M_set0 hj g))
    · by_cases g : w = 0
      · exact sim_set1z h hj g
      · exact sim_set1n h hj g
    · by_cases g : ¬ w < 0 ∧ w < 3
      · exact sim_set2g h hj g.1 g.2
      · have hx : w < 0 ∨ 2 < w := by by_cases v : w < 0; (exact Or.inl v); exact Or.inr (by rw [Int32.lt_iff_toInt_lt]; have v2 : ¬ w < 3 := fun v2 => g ⟨v, v2⟩; rw [Int32.not_lt, Int32.le_iff_toInt_le] at v2; exact Int.lt_of_lt_of_le (by decide) v2)
        have hK := c_K_set2 (l := l) (E := E) (M := M) (w := w) hj
        rw [if_pos hx, if_pos hx] at hK
        exact sim_ref h hK (czR h.1.1 (n_M_set2 hj g))
    · by_cases g : ¬ w < 0 ∧ ¬ 100000 < w
      · exact sim_set3g h hj g.1 g.2
      · have hx : w < 0 ∨ 100000 < w := by by_cases v : w < 0; (exact Or.inl v); exact Or.inr (Decidable.not_not.mp (fun v2 => g ⟨v, v2⟩))
        have hK := c_K_set3 (l := l) (E := E) (M := M) (w := w) hj
        rw [if_pos hx, if_pos hx] at hK
        exact sim_ref h hK (czR h.1.1 (n_M_set3 hj g))
    · by_cases g : w = 0
      · exact sim_set4z h hj g
      · exact sim_set4n h hj g
theorem sim_exceptg {l : Launch} {E : tk_E} {M : tk_M} {T c : Nat} {j ne : Nat} {y : Int32} (h : RR M M T c) (hj : j < 8) (h1 : ¬ y < 0 ∧ y ≤ 52595999) (x1 : ne ≤ 8) (x2 : M.1 (jN j) 4 = nI ne) (x3 : M.1 189 j = nI ne) (x4 : ∀ i, i < ne → M.1 (jN j + 2) i = M.1 188 (8 * j + i)) (hc : ¬ (ne = 8 ∨ j_exc M j ne y = true)) : tk_sim l E sK_except sM_except [.int (nI j), .int (y)] M T := by
  have hN : jN j = 86 + 7 * j := rfl
  refine sim_mk h (M1 := (wI (wI M (jN j + 2) ne y) (jN j) 4 (nI (ne + 1)))) (by have hK := c_K_except (l := l) (E := E) (M := M) (y := y) hj h1 x1 x2; rw [if_neg hc, if_neg hc] at hK; exact hK) (fun a b q => ⟨by rw [wI_ne (by omega), wI_ne (by omega)], rfl⟩) (fun h' => ?_)
  have z0 : (wI (wI M (jN j + 2) ne y) (jN j) 4 (nI (ne + 1))).1 172 0 = 0 := by rw [wI_ne (by omega), wI_ne (by omega)]; exact h.1.1
  have hM := c_M_except (l := l) (E := E) (M := (wI (wI M (jN j + 2) ne y) (jN j) 4 (nI (ne + 1)))) (k := ne) hj h1 x1 (by rw [wI_ne (by omega), wI_ne (by omega)]; exact x3)
  have e2 : m_exc (wI (wI M (jN j + 2) ne y) (jN j) 4 (nI (ne + 1))) j ne y = j_exc M j ne y := by rw [exc_eq x4 y]; exact anyN_congr (fun i hi => by rw [wI_ne (by omega), wI_ne (by omega)])
  rw [e2, if_neg hc, if_neg hc, cz_id z0] at hM
  refine ⟨_, c, tk_MtR hM, fun a b q => ⟨by rw [wI_ne (by omega), wI_ne (by omega)], rfl, rfl⟩, ?_⟩
  refine (h'.mono (Nat.le_succ T)).job hj (fun a b q => ⟨by rw [wI_ne (by omega), wI_ne (by omega)], rfl, rfl⟩) (fun a b q => by rw [wI_ne (by omega), wI_ne (by omega)]) (fun a b q => rfl) ?_
  obtain ⟨ju, jv, jx, jm, jp, jw, jn⟩ := h'.2.2.1 j hj
  refine ⟨ju.of (fun b => by rw [wI_ne (by omega), wI_ne (by omega)]) (fun b => by rfl) (fun a w1 w2 => by rw [wI_ne (by omega), wI_ne (by omega)]) (by rfl), jv.of (by rw [wI_ne (by omega), wI_ne (by omega)]) (by rfl) (by rw [wI_ne (by omega), wI_ne (by omega)]) (by rw [wI_ne (by omega), wI_ne (by omega)]), by exact ⟨ne + 1, by omega, wI_at _ _ _ _, wI_at _ _ _ _, fun i hi => by by_cases v : i = ne; (subst v; rw [wI_ne (by omega), wI_at, wI_ne (by omega), wI_at]); (rw [wI_ne (by omega), wI_ne (by omega), wI_ne (by omega), wI_ne (by omega), wI_ne (by omega), wI_ne (by omega)]; exact x4 i (by omega))⟩, jm.of (by rw [wI_ne (by omega), wI_ne (by omega)]) (by rw [wI_ne (by omega), wI_ne (by omega)]) (by rw [wI_ne (by omega), wI_ne (by omega)]) (by rw [wI_ne (by omega), wI_ne (by omega)]), jp.of (by rw [wI_ne (by omega), wI_ne (by omega)]) (by rw [wI_ne (by omega), wI_ne (by omega)]), jw.of (fun b => by rw [wI_ne (by omega), wI_ne (by omega)]) (by rw [wI_ne (by omega), wI_ne (by omega)]), jn.of (fun a b w1 w2 => by rw [wI_ne (by omega), wI_ne (by omega)]) (by rw [wI_ne (by omega), wI_ne (by omega)]) (by rw [wI_ne (by omega), wI_ne (by omega)]) (fun b w => by rw [wI_ne (by omega), wI_ne (by omega)]) (fun b w => by rw [wI_ne (by omega), wI_ne (by omega)])⟩
theorem sim_except {l : Launch} {E : tk_E} {M : tk_M} {T c : Nat} {x y : Int32} (h : RR M M T c)  : tk_sim l E sK_except sM_except [.int (x), .int (y)] M T := by
  by_cases hb : (¬ x < 0 ∧ x < 8) ∧ (¬ y < 0 ∧ y ≤ 52595999)
  rotate_left
  · exact sim_ref h (n_K_except hb) (czR h.1.1 (n_M_except hb))
  obtain ⟨j, hj, rfl⟩ := exN (n := 8) (by decide) hb.1
  obtain ⟨ne, x1, x2, x3, x4⟩ := (h.2.2.1 j hj).2.2.1
  by_cases hc : ne = 8 ∨ j_exc M j ne y = true
  · have hK := c_K_except (l := l) (E := E) (M := M) (y := y) hj hb.2 x1 x2
    rw [if_pos hc, if_pos hc] at hK
    have hM := c_M_except (l := l) (E := E) (M := M) (y := y) hj hb.2 x1 x3
    rw [← exc_eq x4 y, if_pos hc, if_pos hc] at hM
    exact sim_ref h hK (czR h.1.1 hM)
  · exact sim_exceptg h hj hb.2 x1 x2 x3 x4 hc
theorem b_or (x y : Int32) (i : Nat) : bt (x ||| y) i = (bt x i || bt y i) := by unfold bt; rw [Int32.toBitVec_or, BitVec.getLsbD_or]
theorem b_sh1 : ∀ i, i < 8 → ∀ k, k < 8 → bt ((1 : Int32) <<< (nI i &&& 31)) k = decide (k = i) := by decide +kernel
theorem b_sh0 : ∀ i, i < 8 → ∀ k, k < 8 → bt (((1 : Int32) <<< (nI i &&& 31)) ^^^ -1) k = !decide (k = i) := by decide +kernel
theorem sim_aftert {l : Launch} {E : tk_E} {M : tk_M} {T c : Nat} {j i : Nat} (h : RR M M T c) (hj : j < 8) (hi : i < 8) (hji : ¬ j = i) : tk_sim l E sK_after sM_after [.int (nI j), .int (nI i), .int (1)] M T := by
  have hN : jN j = 86 + 7 * j := rfl
  refine sim_mk h (M1 := (wI M (jN j + 3) i 1)) (c_K_after hj hi hji (Or.inr rfl)) (fun a b q => ⟨by rw [wI_ne (by omega)], rfl⟩) (fun h' => ?_)
  have z0 : (wI M (jN j + 3) i 1).1 172 0 = 0 := by rw [wI_ne (by omega)]; exact h.1.1
  have hM := c_M_aftert (l := l) (E := E) (M := (wI M (jN j + 3) i 1)) (w := 1) hj hi hji (by decide)
  rw [cz_id z0, wI_ne (by omega)] at hM
  refine ⟨_, c, tk_MtR hM, fun a b q => ⟨by rw [wI_ne (by omega)], rfl, rfl⟩, ?_⟩
  refine (h'.mono (Nat.le_succ T)).job hj (fun a b q => ⟨by rw [wI_ne (by omega)], rfl, rfl⟩) (fun a b q => by rw [wI_ne (by omega)]) (fun a b q => rfl) ?_
  obtain ⟨ju, jv, jx, jm, jp, jw, jn⟩ := h'.2.2.1 j hj
  refine ⟨ju.of (fun b => by rw [wI_ne (by omega)]) (fun b => by rfl) (fun a w1 w2 => by rw [wI_ne (by omega)]) (by rfl), jv.of (by rw [wI_ne (by omega)]) (by rfl) (by rw [wI_ne (by omega)]) (by rw [wI_ne (by omega)]), jx.of (by rw [wI_ne (by omega)]) (fun b => by rw [wI_ne (by omega)]) (by rw [wI_ne (by omega)]) (fun b w => by rw [wI_ne (by omega)]), jm.of (by rw [wI_ne (by omega)]) (by rw [wI_ne (by omega)]) (by rw [wI_ne (by omega)]) (by rw [wI_ne (by omega)]), jp.of (by rw [wI_ne (by omega)]) (by rw [wI_ne (by omega)]), fun k hk => by rw [wI_at]; by_cases q : k = i; (subst q; rw [wI_at, b_or, b_sh1 k hi k hk]; simp [b01]); (rw [wI_ne (by omega), b_or, b_sh1 i hi k hk, decide_eq_false q, show M.1 (jN j + 3) k = _ from jw k hk, wI_ne (by omega)]; simp), jn.of (fun a b w1 w2 => by rw [wI_ne (by omega)]) (by rw [wI_ne (by omega)]) (by rw [wI_ne (by omega)]) (fun b w => by rw [wI_ne (by omega)]) (fun b w => by rw [wI_ne (by omega)])⟩
theorem sim_afterf {l : Launch} {E : tk_E} {M : tk_M} {T c : Nat} {j i : Nat} (h : RR M M T c) (hj : j < 8) (hi : i < 8) (hji : ¬ j = i) : tk_sim l E sK_after sM_after [.int (nI j), .int (nI i), .int (0)] M T := by
  have hN : jN j = 86 + 7 * j := rfl
  refine sim_mk h (M1 := (wI M (jN j + 3) i 0)) (c_K_after hj hi hji (Or.inl rfl)) (fun a b q => ⟨by rw [wI_ne (by omega)], rfl⟩) (fun h' => ?_)
  have z0 : (wI M (jN j + 3) i 0).1 172 0 = 0 := by rw [wI_ne (by omega)]; exact h.1.1
  have hM := c_M_afterf (l := l) (E := E) (M := (wI M (jN j + 3) i 0)) (w := 0) hj hi hji (by decide)
  rw [cz_id z0, wI_ne (by omega)] at hM
  refine ⟨_, c, tk_MtR hM, fun a b q => ⟨by rw [wI_ne (by omega)], rfl, rfl⟩, ?_⟩
  refine (h'.mono (Nat.le_succ T)).job hj (fun a b q => ⟨by rw [wI_ne (by omega)], rfl, rfl⟩) (fun a b q => by rw [wI_ne (by omega)]) (fun a b q => rfl) ?_
  obtain ⟨ju, jv, jx, jm, jp, jw, jn⟩ := h'.2.2.1 j hj
  refine ⟨ju.of (fun b => by rw [wI_ne (by omega)]) (fun b => by rfl) (fun a w1 w2 => by rw [wI_ne (by omega)]) (by rfl), jv.of (by rw [wI_ne (by omega)]) (by rfl) (by rw [wI_ne (by omega)]) (by rw [wI_ne (by omega)]), jx.of (by rw [wI_ne (by omega)]) (fun b => by rw [wI_ne (by omega)]) (by rw [wI_ne (by omega)]) (fun b w => by rw [wI_ne (by omega)]), jm.of (by rw [wI_ne (by omega)]) (by rw [wI_ne (by omega)]) (by rw [wI_ne (by omega)]) (by rw [wI_ne (by omega)]), jp.of (by rw [wI_ne (by omega)]) (by rw [wI_ne (by omega)]), fun k hk => by rw [wI_at]; by_cases q : k = i; (subst q; rw [wI_at, b_and, b_sh0 k hi k hk]; simp [b01]); (rw [wI_ne (by omega), b_and, b_sh0 i hi k hk, decide_eq_false q, show M.1 (jN j + 3) k = _ from jw k hk, wI_ne (by omega)]; simp), jn.of (fun a b w1 w2 => by rw [wI_ne (by omega)]) (by rw [wI_ne (by omega)]) (by rw [wI_ne (by omega)]) (fun b w => by rw [wI_ne (by omega)]) (fun b w => by rw [wI_ne (by omega)])⟩
theorem sim_after {l : Launch} {E : tk_E} {M : tk_M} {T c : Nat} {x y w : Int32} (h : RR M M T c) (hw : w = 0 ∨ w = 1) : tk_sim l E sK_after sM_after [.int (x), .int (y), .int (w)] M T := by
  by_cases hb : (¬ x < 0 ∧ x < 8) ∧ (¬ y < 0 ∧ y < 8) ∧ (¬ x = y)
  rotate_left
  · exact sim_ref h (n_K_after hb) (czR h.1.1 (n_M_after hb))
  obtain ⟨g1, g2, g3⟩ := hb
  obtain ⟨j, hj, rfl⟩ := exN (n := 8) (by decide) g1
  obtain ⟨i, hi, rfl⟩ := exN (n := 8) (by decide) g2
  rcases hw with rfl | rfl
  · exact sim_afterf h hj hi (fun q => g3 (by rw [q]))
  · exact sim_aftert h hj hi (fun q => g3 (by rw [q]))