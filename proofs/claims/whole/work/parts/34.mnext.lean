/-! the other side: the last due minute, the next one -/
theorem FDP_uniq {due : Int → Bool} {a b r r' : Int} (h : FDP due a b r) (g : FDP due a b r') : r = r' := by
  rcases h with h | h <;> rcases g with g | g
  · rw [h.1, g.1]
  · rw [h.2 r' g.2.1 g.2.2.1 g.2.2.2.1] at g; cases g.1
  · rw [g.2 r h.2.1 h.2.2.1 h.2.2.2.1] at h; cases h.1
  · rcases Int.lt_trichotomy r r' with w | w | w
    · rw [g.2.2.2.2 r h.2.1 h.2.2.1 w] at h; cases h.1
    · exact w
    · rw [h.2.2.2.2 r' g.2.1 g.2.2.1 w] at g; cases g.1
theorem LDP_uniq {due : Int → Bool} {a b r r' : Int} (h : LDP due a b r) (g : LDP due a b r') : r = r' := by
  rcases h with h | h <;> rcases g with g | g
  · rw [h.1, g.1]
  · rw [h.2 r' g.2.1 g.2.2.1 g.2.2.2.1] at g; cases g.1
  · rw [g.2 r h.2.1 h.2.2.1 h.2.2.2.1] at h; cases h.1
  · rcases Int.lt_trichotomy r r' with w | w | w
    · rw [h.2.2.2.2 r' w g.2.2.2.1] at g; cases g.1
    · exact w
    · rw [g.2.2.2.2 r w h.2.2.2.1] at h; cases h.1
theorem NXT_uniq {md : Nat} {due : Int → Bool} {a b r r' : Int} (h : NXT md due a b r) (g : NXT md due a b r') : r = r' := by
  unfold NXT at h g
  by_cases c : md = 1
  · rw [if_pos c] at h g; exact LDP_uniq h g
  · rw [if_neg c] at h g; exact FDP_uniq h g
theorem NXT_r {md : Nat} {due : Int → Bool} {a b r : Int} (h : NXT md due a b r) (hb : 0 ≤ b) : -1 ≤ r ∧ r ≤ b := by
  unfold NXT at h
  by_cases c : md = 1
  · rw [if_pos c] at h
    rcases h with h | h
    · rw [h.1]; omega
    · have := h.2.2.1; have := h.2.2.2.1; omega
  · rw [if_neg c] at h
    rcases h with h | h
    · rw [h.1]; omega
    · have := h.2.2.1; have := h.2.2.2.1; omega
set_option maxHeartbeats 4000000 in
set_option maxRecDepth 100000 in
theorem c_M_lastDue {l : Launch} {E : tk_E} {M : tk_M} {j z h ne n : Nat} {ρ : ru} {mv : Bool} {st os : Nat → Int} {hd ex : Nat → Int32} {a b : Int} (H : mo_ok M j z h ne n ρ mv st os hd ex) (ha : 0 ≤ a) (ha2 : a ≤ 60000000) (hb : -1 ≤ b) (hb2 : b ≤ 52595999) : tk_MS l y_M_lastDue b_M_lastDue 12 (some .int) 8 E [.ref (E.1 + 172), .int (nI j), .long (lI a), .long (lI b)] M  (fun y => ∃ r : Int, y = iI r ∧ LDP (due_of n h ne ρ mv st os hd ex) a b r) := by
  refine tk_ofVS (by decide +kernel) [some (.ref (E.1 + 172)), some (.int (nI j)), some (.long (lI a)), none, some (.long (lI b)), none, none, none, none, none, none, none] rfl (Nat.le_of_ble_eq_true rfl) ?_
  intro p e s m args below meth c cx hB
  have hj := H.1.1
  have hz := H.2.1.1
  have hzj := H.2.1.2.2.1
  have zo0 := H.2.2.1.1
  have hso := H.2.2.1.2.2.2
  have hsn := H.2.2.1.2.2.1
  have hhh := H.1.2.2.1
  have zo1 := zo0
  obtain ⟨hn1, hn9, hst0, hos0, hrg, -⟩ := zo1
  have loop : ∀ (t : Nat) (x : Int) (M1 : tk_M) (w9 w10 w11 : Option Value), x + 1 - a ≤ t → x ≤ b → -1 ≤ x → SC M M1 → (∀ y, x < y → y ≤ b → (due_of n h ne ρ mv st os hd ex) y = false) → tk_V p l e (tk_rm 8 0 0) s m args below meth c (MQ below (tk_QS E M (fun y => ∃ r : Int, y = iI r ∧ LDP (due_of n h ne ρ mv st os hd ex) a b r)) args s 0 0 (tk_A E)) E 12 209 (tk_ct E M1) 0 0 12 [some (.ref (E.1 + 172)), some (.int (nI j)), some (.long (lI a)), none, some (.long (lI b)), none, some (.int (nI z)), some (.long (lI x)), none, w9, w10, w11] [] := by
    intro t
    induction t with
    | zero =>
      intro x M1 w9 w10 w11 ht hx hx1 sc hI
      refine v_lload cx (tk_dc d_M_lastDue 7 rfl) rfl ?_
      refine v_lload_n cx (tk_dc d_M_lastDue 8 rfl) rfl ?_
      refine v_lcmp cx (tk_dc d_M_lastDue 9 rfl) ?_
      refine v_if_lt cx (tk_dc d_M_lastDue 10 rfl) 134 (by decide) (fun _ => ?_) (fun h => absurd ((cl (by omega) (by omega) (by omega) (by omega)).mpr (by omega)) h)
      refine v_iconst cx (tk_dc d_M_lastDue 76 rfl) (-1) (by decide) ?_
      exact v_iretS cx hB (tk_dc d_M_lastDue 77 rfl) (⟨-1, rfl, Or.inl ⟨rfl, fun y g1 g2 g3 => hI y (by omega) g3⟩⟩) (sc)
    | succ t ih =>
      intro x M1 w9 w10 w11 ht hx hx1 sc hI
      by_cases hxa : x < a
      · have hh0 := hI
        refine v_lload cx (tk_dc d_M_lastDue 7 rfl) rfl ?_
        refine v_lload_n cx (tk_dc d_M_lastDue 8 rfl) rfl ?_
        refine v_lcmp cx (tk_dc d_M_lastDue 9 rfl) ?_
        refine v_if_lt cx (tk_dc d_M_lastDue 10 rfl) 134 (by decide) (fun _ => ?_) (fun h => absurd ((cl (by omega) (by omega) (by omega) (by omega)).mpr (by omega)) h)
        refine v_iconst cx (tk_dc d_M_lastDue 76 rfl) (-1) (by decide) ?_
        exact v_iretS cx hB (tk_dc d_M_lastDue 77 rfl) (⟨-1, rfl, Or.inl ⟨rfl, fun y g1 g2 g3 => hI y (by omega) g3⟩⟩) (sc)
      · obtain ⟨hpt, hpl, hpe⟩ := pt_en zo0 (show 0 ≤ x by omega) (show x ≤ 52595999 by omega)
        obtain ⟨q, hq⟩ : ∃ q, q = ptI st x n := ⟨_, rfl⟩
        rw [← hq] at hpt hpl hpe
        have rq := hrg q hpt
        obtain ⟨qh, hqh⟩ : ∃ qh, qh = ((x + os q) % 1440).toNat / 60 := ⟨_, rfl⟩
        have eh := hhh qh (by omega)
        have hldh : (ru_hh ρ).testBit qh = false → (ldB ρ (jd_of ρ mv h hd)) (x + os q) = false := fun w => by unfold ldB mdB; rw [← hqh, w]; rfl
        refine v_lload cx (tk_dc d_M_lastDue 7 rfl) rfl ?_
        refine v_lload_n cx (tk_dc d_M_lastDue 8 rfl) rfl ?_
        refine v_lcmp cx (tk_dc d_M_lastDue 9 rfl) ?_
        refine v_if_lt cx (tk_dc d_M_lastDue 10 rfl) 134 (by decide) (fun h => absurd h (fun w => absurd ((cl (by omega) (by omega) (by omega) (by omega)).mp w) (by omega))) (fun _ => ?_)
        refine v_aload_n cx (tk_dc d_M_lastDue 11 rfl) rfl ?_
        refine v_iload cx (tk_dc d_M_lastDue 12 rfl) rfl ?_
        refine v_lload cx (tk_dc d_M_lastDue 13 rfl) rfl ?_
        refine v_l2i cx (tk_dc d_M_lastDue 14 rfl) ?_
        refine v_eqi (iI x) (lI_l x) ?_
        refine v_callV (rest := _) cx (tk_dc d_M_lastDue 15 rfl) m_M_199 kn_M_localOf kv_M_localOf k_M_localOf o_M (by decide) rfl (c_M_localOf (H.2.2.1.sc sc) (by omega) (by omega)) rfl rfl (Nat.le_of_ble_eq_true rfl) (by decide) ?_
        refine v_eqi (iI (x + os q)) (by rw [hq]) ?_
        refine v_istore (lo' := [_, _, _, _, _, _, _, _, _, _, _, _]) cx (tk_dc d_M_lastDue 16 rfl) (by decide) rfl ?_
        refine v_aload_n cx (tk_dc d_M_lastDue 17 rfl) rfl ?_
        refine v_iload cx (tk_dc d_M_lastDue 18 rfl) rfl ?_
        refine v_lload cx (tk_dc d_M_lastDue 19 rfl) rfl ?_
        refine v_l2i cx (tk_dc d_M_lastDue 20 rfl) ?_
        refine v_eqi (iI x) (lI_l x) ?_
        refine v_callV (rest := _) cx (tk_dc d_M_lastDue 21 rfl) m_M_190 kn_M_shiftsBy kv_M_shiftsBy k_M_shiftsBy o_M (by decide) rfl (c_M_shiftsBy (H.2.2.1.sc sc) (by omega) (by omega)) rfl rfl (Nat.le_of_ble_eq_true rfl) (by decide) ?_
        refine v_eqi (nI q) (by rw [hq]) ?_
        refine v_if_le cx (tk_dc d_M_lastDue 22 rfl) 75 (by decide) (fun h39 => ?_) (fun h39 => ?_)
        · have gb : ¬ (0 < q ∧ st q = x) := fun w => absurd h39 (nI_nle w.1 (by omega))
          refine v_iconst cx (tk_dc d_M_lastDue 43 rfl) (0) (by decide) ?_
          refine v_istore (lo' := [_, _, _, _, _, _, _, _, _, _, _, _]) cx (tk_dc d_M_lastDue 44 rfl) (by decide) rfl ?_
          refine v_iload cx (tk_dc d_M_lastDue 45 rfl) rfl ?_
          refine v_sipush cx (tk_dc d_M_lastDue 46 rfl) (1440) (by decide) ?_
          refine v_callS (rest := _) cx (tk_dc d_M_lastDue 47 rfl) m_M_124 ks_M_modulo k_M_modulo (c_M_modulo (b := 1440) (by omega) (by omega) (by omega) (by omega)) rfl rfl (Nat.le_of_ble_eq_true rfl) (by decide) ?_
          refine v_bipush cx (tk_dc d_M_lastDue 48 rfl) (60) (by decide) ?_
          refine v_idiv cx (tk_dc d_M_lastDue 49 rfl) (by decide) ?_
          refine v_eqi (nI qh) (by rw [show (60 : Int32) = iI 60 from rfl, iI_divN (by omega) (by omega) (by omega) (by omega), iI_nI, hqh]; congr 1; omega) ?_
          refine v_istore (lo' := [_, _, _, _, _, _, _, _, _, _, _, _]) cx (tk_dc d_M_lastDue 50 rfl) (by decide) rfl ?_
          refine v_iload cx (tk_dc d_M_lastDue 51 rfl) rfl ?_
          refine v_if_ne cx (tk_dc d_M_lastDue 52 rfl) 111 (by decide) (fun h => absurd (by decide) h) (fun _ => ?_)
          refine v_aload_n cx (tk_dc d_M_lastDue 53 rfl) rfl ?_
          refine v_getC cx 179 (tk_dc d_M_lastDue 54 rfl) f_M_29 o_M (by decide) (by rfl) ?_
          refine v_iload_n cx (tk_dc d_M_lastDue 55 rfl) rfl ?_
          refine w_iald cx (tk_dc d_M_lastDue 56 rfl) a_179 j (rfl) (by omega) (by decide) ?_
          refine v_eqi (M.1 179 j) (sc.at _ rfl) ?_
          refine v_iload cx (tk_dc d_M_lastDue 57 rfl) rfl ?_
          refine v_ishr cx (tk_dc d_M_lastDue 58 rfl) ?_
          refine v_iconst cx (tk_dc d_M_lastDue 59 rfl) (1) (by decide) ?_
          refine v_iand cx (tk_dc d_M_lastDue 60 rfl) ?_
          refine v_eqi (b01 ((ru_hh ρ).testBit qh)) (by rw [bt_is _ (by omega), eh]) ?_
          refine v_iconst cx (tk_dc d_M_lastDue 61 rfl) (1) (by decide) ?_
          refine v_icmp_ne cx (tk_dc d_M_lastDue 62 rfl) 125 (by decide) (fun h108 => ?_) (fun h108 => ?_)
          · have g108 : (ru_hh ρ).testBit qh = false := by cases hv : (ru_hh ρ).testBit qh with | false => rfl | true => (rw [hv] at h108; exact absurd rfl h108)
            refine v_lload cx (tk_dc d_M_lastDue 71 rfl) rfl ?_
            refine v_lconst cx (tk_dc d_M_lastDue 72 rfl) (1) (by decide) ?_
            refine v_lsub cx (tk_dc d_M_lastDue 73 rfl) ?_
            refine v_eql (lI (x - 1)) (lI_sub x 1) ?_
            refine v_lstore (lo' := [_, _, _, _, _, _, _, _, _, _, _, _]) cx (tk_dc d_M_lastDue 74 rfl) (by decide) rfl ?_
            refine v_goto cx (tk_dc d_M_lastDue 75 rfl) 12 (by decide) ?_
            exact ih (x - 1) M1 _ _ _ (by omega) (by omega) (by omega) (sc) (fun y g1 g2 => by by_cases g3 : y = x; (rw [g3]; exact due_nol (by rw [← hq]; exact hldh g108) (by rw [← hq]; exact fun w => gb w.2)); exact hI y (by omega) g2)
          · have g108 := (b01_1 _).mp h108
            refine v_aload_n cx (tk_dc d_M_lastDue 63 rfl) rfl ?_
            refine v_iload_n cx (tk_dc d_M_lastDue 64 rfl) rfl ?_
            refine v_lload cx (tk_dc d_M_lastDue 65 rfl) rfl ?_
            refine v_callVS (rest := _) cx (tk_dc d_M_lastDue 66 rfl) m_M_208 kn_M_isDueAt kv_M_isDueAt k_M_isDueAt o_M (by decide) rfl (c_M_isDueAt (H.sc sc) (by omega) (by omega)) rfl rfl (Nat.le_of_ble_eq_true rfl) (by decide) (fun x9 M2 hx9 sc2 => ?_)
            subst hx9
            refine v_if_eq cx (tk_dc d_M_lastDue 67 rfl) 125 (by decide) (fun h118 => ?_) (fun h118 => ?_)
            · have g118 := b01_z h118
              refine v_lload cx (tk_dc d_M_lastDue 71 rfl) rfl ?_
              refine v_lconst cx (tk_dc d_M_lastDue 72 rfl) (1) (by decide) ?_
              refine v_lsub cx (tk_dc d_M_lastDue 73 rfl) ?_
              refine v_eql (lI (x - 1)) (lI_sub x 1) ?_
              refine v_lstore (lo' := [_, _, _, _, _, _, _, _, _, _, _, _]) cx (tk_dc d_M_lastDue 74 rfl) (by decide) rfl ?_
              refine v_goto cx (tk_dc d_M_lastDue 75 rfl) 12 (by decide) ?_
              exact ih (x - 1) M2 _ _ _ (by omega) (by omega) (by omega) (sc.tr sc2) (fun y g1 g2 => by by_cases g3 : y = x; (rw [g3]; exact g118); exact hI y (by omega) g2)
            · have g118 := b01_nz h118
              refine v_lload cx (tk_dc d_M_lastDue 68 rfl) rfl ?_
              refine v_l2i cx (tk_dc d_M_lastDue 69 rfl) ?_
              refine v_eqi (iI x) (lI_l x) ?_
              exact v_iretS cx hB (tk_dc d_M_lastDue 70 rfl) (⟨x, rfl, Or.inr ⟨g118, by omega, by omega, by omega, hI⟩⟩) (sc.tr sc2)
        · have g39 : 0 < q := by rcases Nat.eq_zero_or_pos q with w | w; (exact absurd (by rw [w]; decide) h39); exact w
          refine v_aload_n cx (tk_dc d_M_lastDue 23 rfl) rfl ?_
          refine v_getC cx 173 (tk_dc d_M_lastDue 24 rfl) f_M_7 o_M (by decide) (by rfl) ?_
          refine v_bipush cx (tk_dc d_M_lastDue 25 rfl) (8) (by decide) ?_
          refine v_iload cx (tk_dc d_M_lastDue 26 rfl) rfl ?_
          refine v_imul cx (tk_dc d_M_lastDue 27 rfl) ?_
          refine v_aload_n cx (tk_dc d_M_lastDue 28 rfl) rfl ?_
          refine v_iload cx (tk_dc d_M_lastDue 29 rfl) rfl ?_
          refine v_lload cx (tk_dc d_M_lastDue 30 rfl) rfl ?_
          refine v_l2i cx (tk_dc d_M_lastDue 31 rfl) ?_
          refine v_eqi (iI x) (lI_l x) ?_
          refine v_callV (rest := _) cx (tk_dc d_M_lastDue 32 rfl) m_M_190 kn_M_shiftsBy kv_M_shiftsBy k_M_shiftsBy o_M (by decide) rfl (c_M_shiftsBy (H.2.2.1.sc sc) (by omega) (by omega)) rfl rfl (Nat.le_of_ble_eq_true rfl) (by decide) ?_
          refine v_eqi (nI q) (by rw [hq]) ?_
          refine v_iadd cx (tk_dc d_M_lastDue 33 rfl) ?_
          refine v_iconst cx (tk_dc d_M_lastDue 34 rfl) (1) (by decide) ?_
          refine v_isub cx (tk_dc d_M_lastDue 35 rfl) ?_
          refine w_iald cx (tk_dc d_M_lastDue 36 rfl) a_173 (8 * z + (q - 1)) (by rw [show (8 : Int32) = nI 8 from rfl, pk_mul, nI_add, nI_sub1 (by omega)]; congr 1; omega) (by omega) (by decide) ?_
          refine v_eqi (iI (st q)) (by rw [sc.at _ rfl, (hso (q - 1) (by omega)).1, Nat.sub_add_cancel g39]) ?_
          refine v_i2l cx (tk_dc d_M_lastDue 37 rfl) ?_
          refine v_eql (lI (st q)) (lI_i (by omega) (by omega)) ?_
          refine v_lload cx (tk_dc d_M_lastDue 38 rfl) rfl ?_
          refine v_lcmp cx (tk_dc d_M_lastDue 39 rfl) ?_
          refine v_if_ne cx (tk_dc d_M_lastDue 40 rfl) 75 (by decide) (fun h68 => ?_) (fun h68 => ?_)
          · have gb : ¬ (0 < q ∧ st q = x) := fun w => h68 ((ce (by omega) (by omega) (by omega) (by omega)).mpr w.2)
            refine v_iconst cx (tk_dc d_M_lastDue 43 rfl) (0) (by decide) ?_
            refine v_istore (lo' := [_, _, _, _, _, _, _, _, _, _, _, _]) cx (tk_dc d_M_lastDue 44 rfl) (by decide) rfl ?_
            refine v_iload cx (tk_dc d_M_lastDue 45 rfl) rfl ?_
            refine v_sipush cx (tk_dc d_M_lastDue 46 rfl) (1440) (by decide) ?_
            refine v_callS (rest := _) cx (tk_dc d_M_lastDue 47 rfl) m_M_124 ks_M_modulo k_M_modulo (c_M_modulo (b := 1440) (by omega) (by omega) (by omega) (by omega)) rfl rfl (Nat.le_of_ble_eq_true rfl) (by decide) ?_
            refine v_bipush cx (tk_dc d_M_lastDue 48 rfl) (60) (by decide) ?_
            refine v_idiv cx (tk_dc d_M_lastDue 49 rfl) (by decide) ?_
            refine v_eqi (nI qh) (by rw [show (60 : Int32) = iI 60 from rfl, iI_divN (by omega) (by omega) (by omega) (by omega), iI_nI, hqh]; congr 1; omega) ?_
            refine v_istore (lo' := [_, _, _, _, _, _, _, _, _, _, _, _]) cx (tk_dc d_M_lastDue 50 rfl) (by decide) rfl ?_
            refine v_iload cx (tk_dc d_M_lastDue 51 rfl) rfl ?_
            refine v_if_ne cx (tk_dc d_M_lastDue 52 rfl) 111 (by decide) (fun h => absurd (by decide) h) (fun _ => ?_)
            refine v_aload_n cx (tk_dc d_M_lastDue 53 rfl) rfl ?_
            refine v_getC cx 179 (tk_dc d_M_lastDue 54 rfl) f_M_29 o_M (by decide) (by rfl) ?_
            refine v_iload_n cx (tk_dc d_M_lastDue 55 rfl) rfl ?_
            refine w_iald cx (tk_dc d_M_lastDue 56 rfl) a_179 j (rfl) (by omega) (by decide) ?_
            refine v_eqi (M.1 179 j) (sc.at _ rfl) ?_
            refine v_iload cx (tk_dc d_M_lastDue 57 rfl) rfl ?_
            refine v_ishr cx (tk_dc d_M_lastDue 58 rfl) ?_
            refine v_iconst cx (tk_dc d_M_lastDue 59 rfl) (1) (by decide) ?_
            refine v_iand cx (tk_dc d_M_lastDue 60 rfl) ?_
            refine v_eqi (b01 ((ru_hh ρ).testBit qh)) (by rw [bt_is _ (by omega), eh]) ?_
            refine v_iconst cx (tk_dc d_M_lastDue 61 rfl) (1) (by decide) ?_
            refine v_icmp_ne cx (tk_dc d_M_lastDue 62 rfl) 125 (by decide) (fun h108 => ?_) (fun h108 => ?_)
            · have g108 : (ru_hh ρ).testBit qh = false := by cases hv : (ru_hh ρ).testBit qh with | false => rfl | true => (rw [hv] at h108; exact absurd rfl h108)
              refine v_lload cx (tk_dc d_M_lastDue 71 rfl) rfl ?_
              refine v_lconst cx (tk_dc d_M_lastDue 72 rfl) (1) (by decide) ?_
              refine v_lsub cx (tk_dc d_M_lastDue 73 rfl) ?_
              refine v_eql (lI (x - 1)) (lI_sub x 1) ?_
              refine v_lstore (lo' := [_, _, _, _, _, _, _, _, _, _, _, _]) cx (tk_dc d_M_lastDue 74 rfl) (by decide) rfl ?_
              refine v_goto cx (tk_dc d_M_lastDue 75 rfl) 12 (by decide) ?_
              exact ih (x - 1) M1 _ _ _ (by omega) (by omega) (by omega) (sc) (fun y g1 g2 => by by_cases g3 : y = x; (rw [g3]; exact due_nol (by rw [← hq]; exact hldh g108) (by rw [← hq]; exact fun w => gb w.2)); exact hI y (by omega) g2)
            · have g108 := (b01_1 _).mp h108
              refine v_aload_n cx (tk_dc d_M_lastDue 63 rfl) rfl ?_
              refine v_iload_n cx (tk_dc d_M_lastDue 64 rfl) rfl ?_
              refine v_lload cx (tk_dc d_M_lastDue 65 rfl) rfl ?_
              refine v_callVS (rest := _) cx (tk_dc d_M_lastDue 66 rfl) m_M_208 kn_M_isDueAt kv_M_isDueAt k_M_isDueAt o_M (by decide) rfl (c_M_isDueAt (H.sc sc) (by omega) (by omega)) rfl rfl (Nat.le_of_ble_eq_true rfl) (by decide) (fun x9 M2 hx9 sc2 => ?_)
              subst hx9
              refine v_if_eq cx (tk_dc d_M_lastDue 67 rfl) 125 (by decide) (fun h118 => ?_) (fun h118 => ?_)
              · have g118 := b01_z h118
                refine v_lload cx (tk_dc d_M_lastDue 71 rfl) rfl ?_
                refine v_lconst cx (tk_dc d_M_lastDue 72 rfl) (1) (by decide) ?_
                refine v_lsub cx (tk_dc d_M_lastDue 73 rfl) ?_
                refine v_eql (lI (x - 1)) (lI_sub x 1) ?_
                refine v_lstore (lo' := [_, _, _, _, _, _, _, _, _, _, _, _]) cx (tk_dc d_M_lastDue 74 rfl) (by decide) rfl ?_
                refine v_goto cx (tk_dc d_M_lastDue 75 rfl) 12 (by decide) ?_
                exact ih (x - 1) M2 _ _ _ (by omega) (by omega) (by omega) (sc.tr sc2) (fun y g1 g2 => by by_cases g3 : y = x; (rw [g3]; exact g118); exact hI y (by omega) g2)
              · have g118 := b01_nz h118
                refine v_lload cx (tk_dc d_M_lastDue 68 rfl) rfl ?_
                refine v_l2i cx (tk_dc d_M_lastDue 69 rfl) ?_
                refine v_eqi (iI x) (lI_l x) ?_
                exact v_iretS cx hB (tk_dc d_M_lastDue 70 rfl) (⟨x, rfl, Or.inr ⟨g118, by omega, by omega, by omega, hI⟩⟩) (sc.tr sc2)
          · have g68 : st q = x := (ce (by omega) (by omega) (by omega) (by omega)).mp h68
            refine v_iconst cx (tk_dc d_M_lastDue 41 rfl) (1) (by decide) ?_
            refine v_goto cx (tk_dc d_M_lastDue 42 rfl) 76 (by decide) ?_
            refine v_istore (lo' := [_, _, _, _, _, _, _, _, _, _, _, _]) cx (tk_dc d_M_lastDue 44 rfl) (by decide) rfl ?_
            refine v_iload cx (tk_dc d_M_lastDue 45 rfl) rfl ?_
            refine v_sipush cx (tk_dc d_M_lastDue 46 rfl) (1440) (by decide) ?_
            refine v_callS (rest := _) cx (tk_dc d_M_lastDue 47 rfl) m_M_124 ks_M_modulo k_M_modulo (c_M_modulo (b := 1440) (by omega) (by omega) (by omega) (by omega)) rfl rfl (Nat.le_of_ble_eq_true rfl) (by decide) ?_
            refine v_bipush cx (tk_dc d_M_lastDue 48 rfl) (60) (by decide) ?_
            refine v_idiv cx (tk_dc d_M_lastDue 49 rfl) (by decide) ?_
            refine v_eqi (nI qh) (by rw [show (60 : Int32) = iI 60 from rfl, iI_divN (by omega) (by omega) (by omega) (by omega), iI_nI, hqh]; congr 1; omega) ?_
            refine v_istore (lo' := [_, _, _, _, _, _, _, _, _, _, _, _]) cx (tk_dc d_M_lastDue 50 rfl) (by decide) rfl ?_
            refine v_iload cx (tk_dc d_M_lastDue 51 rfl) rfl ?_
            refine v_if_ne cx (tk_dc d_M_lastDue 52 rfl) 111 (by decide) (fun _ => ?_) (fun h => absurd h (by decide))
            refine v_aload_n cx (tk_dc d_M_lastDue 63 rfl) rfl ?_
            refine v_iload_n cx (tk_dc d_M_lastDue 64 rfl) rfl ?_
            refine v_lload cx (tk_dc d_M_lastDue 65 rfl) rfl ?_
            refine v_callVS (rest := _) cx (tk_dc d_M_lastDue 66 rfl) m_M_208 kn_M_isDueAt kv_M_isDueAt k_M_isDueAt o_M (by decide) rfl (c_M_isDueAt (H.sc sc) (by omega) (by omega)) rfl rfl (Nat.le_of_ble_eq_true rfl) (by decide) (fun x9 M2 hx9 sc2 => ?_)
            subst hx9
            refine v_if_eq cx (tk_dc d_M_lastDue 67 rfl) 125 (by decide) (fun h118 => ?_) (fun h118 => ?_)
            · have g118 := b01_z h118
              refine v_lload cx (tk_dc d_M_lastDue 71 rfl) rfl ?_
              refine v_lconst cx (tk_dc d_M_lastDue 72 rfl) (1) (by decide) ?_
              refine v_lsub cx (tk_dc d_M_lastDue 73 rfl) ?_
              refine v_eql (lI (x - 1)) (lI_sub x 1) ?_
              refine v_lstore (lo' := [_, _, _, _, _, _, _, _, _, _, _, _]) cx (tk_dc d_M_lastDue 74 rfl) (by decide) rfl ?_
              refine v_goto cx (tk_dc d_M_lastDue 75 rfl) 12 (by decide) ?_
              exact ih (x - 1) M2 _ _ _ (by omega) (by omega) (by omega) (sc.tr sc2) (fun y g1 g2 => by by_cases g3 : y = x; (rw [g3]; exact g118); exact hI y (by omega) g2)
            · have g118 := b01_nz h118
              refine v_lload cx (tk_dc d_M_lastDue 68 rfl) rfl ?_
              refine v_l2i cx (tk_dc d_M_lastDue 69 rfl) ?_
              refine v_eqi (iI x) (lI_l x) ?_
              exact v_iretS cx hB (tk_dc d_M_lastDue 70 rfl) (⟨x, rfl, Or.inr ⟨g118, by omega, by omega, by omega, hI⟩⟩) (sc.tr sc2)
  refine v_aload_n cx (tk_dc d_M_lastDue 0 rfl) rfl ?_
  refine v_getC cx 185 (tk_dc d_M_lastDue 1 rfl) f_M_47 o_M (by decide) (by rfl) ?_
  refine v_iload_n cx (tk_dc d_M_lastDue 2 rfl) rfl ?_
  refine w_iald cx (tk_dc d_M_lastDue 3 rfl) a_185 j (rfl) (by omega) (by decide) ?_
  refine v_eqi (nI z) hzj ?_
  refine v_istore (lo' := [_, _, _, _, _, _, _, _, _, _, _, _]) cx (tk_dc d_M_lastDue 4 rfl) (by decide) rfl ?_
  refine v_lload cx (tk_dc d_M_lastDue 5 rfl) rfl ?_
  refine v_lstore (lo' := [_, _, _, _, _, _, _, _, _, _, _, _]) cx (tk_dc d_M_lastDue 6 rfl) (by decide) rfl ?_
  exact loop (b + 1 - a).toNat b M _ _ _ (by omega) (by omega) hb SC.rf (fun y g1 g2 => by omega)

set_option maxHeartbeats 4000000 in
set_option maxRecDepth 100000 in
theorem c_M_nextOf {l : Launch} {E : tk_E} {M : tk_M} {j z h ne n : Nat} {ρ : ru} {mv : Bool} {st os : Nat → Int} {hd ex : Nat → Int32} {md : Nat} {lt bh nw : Int} (H : mo_ok M j z h ne n ρ mv st os hd ex) (hnw : M.1 172 1 = iI nw) (hlt : M.1 187 j = iI lt) (hmd : M.1 186 j = nI md) (hm2 : md ≤ 2) (g1 : -1 ≤ bh) (g2 : bh ≤ 52595999) (g3 : 0 ≤ nw) (g4 : nw ≤ 52595999) (g5 : 0 ≤ lt) (g6 : lt ≤ 100000) : tk_MS l y_M_nextOf b_M_nextOf 5 (some .int) 9 E [.ref (E.1 + 172), .int (nI j), .int (iI bh)] M  (fun y => ∃ r : Int, y = iI r ∧ NXT md (due_of n h ne ρ mv st os hd ex) (ewI md lt bh nw) nw r) := by
  refine tk_ofVS (by decide +kernel) [some (.ref (E.1 + 172)), some (.int (nI j)), some (.int (iI bh)), none, none] rfl (Nat.le_of_ble_eq_true rfl) ?_
  intro p e s m args below meth c cx hB
  have hj := H.1.1
  obtain ⟨w, hw⟩ : ∃ w : Int, w = if bh + 1 < nw - lt then nw - lt else bh + 1 := ⟨_, rfl⟩
  have hwr : 0 ≤ w ∧ w ≤ 52596000 := by rw [hw]; split <;> omega
  have hew : ¬ md = 2 → ewI md lt bh nw = w := fun c2 => by unfold ewI; rw [if_neg c2, hw]
  have tail : tk_V p l e (tk_rm 9 0 0) s m args below meth c (MQ below (tk_QS E M (fun y => ∃ r : Int, y = iI r ∧ NXT md (due_of n h ne ρ mv st os hd ex) (ewI md lt bh nw) nw r)) args s 0 0 (tk_A E)) E 5 209 (tk_ct E M) 0 0 53 [some (.ref (E.1 + 172)), some (.int (nI j)), some (.int (iI bh)), some (.long (lI w)), none] [.long (lI w)] := by
    refine v_lstore_n (lo' := [_, _, _, _, _]) cx (tk_dc d_M_nextOf 37 rfl) (by decide) rfl ?_
    refine v_aload_n cx (tk_dc d_M_nextOf 38 rfl) rfl ?_
    refine v_getC cx 186 (tk_dc d_M_nextOf 39 rfl) f_M_50 o_M (by decide) (by rfl) ?_
    refine v_iload_n cx (tk_dc d_M_nextOf 40 rfl) rfl ?_
    refine w_iald cx (tk_dc d_M_nextOf 41 rfl) a_186 j (rfl) (by omega) (by decide) ?_
    refine v_eqi (nI md) hmd ?_
    refine v_if_ne cx (tk_dc d_M_nextOf 42 rfl) 75 (by decide) (fun h60 => ?_) (fun h60 => ?_)
    · have g60 : ¬ md = 0 := fun v => h60 (by rw [v]; rfl)
      refine v_aload_n cx (tk_dc d_M_nextOf 51 rfl) rfl ?_
      refine v_getC cx 186 (tk_dc d_M_nextOf 52 rfl) f_M_50 o_M (by decide) (by rfl) ?_
      refine v_iload_n cx (tk_dc d_M_nextOf 53 rfl) rfl ?_
      refine w_iald cx (tk_dc d_M_nextOf 54 rfl) a_186 j (rfl) (by omega) (by decide) ?_
      refine v_eqi (nI md) hmd ?_
      refine v_iconst cx (tk_dc d_M_nextOf 55 rfl) (1) (by decide) ?_
      refine v_icmp_ne cx (tk_dc d_M_nextOf 56 rfl) 97 (by decide) (fun h82 => ?_) (fun h82 => ?_)
      · have g82 : ¬ md = 1 := fun v => h82 (by rw [v]; rfl)
        have gm2 : md = 2 := by omega
        refine v_iload_n cx (tk_dc d_M_nextOf 65 rfl) rfl ?_
        refine v_aload_n cx (tk_dc d_M_nextOf 66 rfl) rfl ?_
        refine v_getI cx (tk_dc d_M_nextOf 67 rfl) f_M_129 o_M (by decide) (by rfl) ?_
        refine v_eqi (iI nw) hnw ?_
        refine v_icmp_ge cx (tk_dc d_M_nextOf 68 rfl) 125 (by decide) (fun h102 => ?_) (fun h102 => ?_)
        · have g102 : nw ≤ bh := (iI_le (by omega) (by omega) (by omega) (by omega)).mp h102
          have he2 : nw < ewI md lt bh nw := by unfold ewI; rw [if_pos gm2]; split <;> omega
          refine v_iconst cx (tk_dc d_M_nextOf 79 rfl) (-1) (by decide) ?_
          exact v_iretS cx hB (tk_dc d_M_nextOf 80 rfl) (⟨-1, rfl, by unfold NXT; rw [if_neg (by omega)]; exact Or.inl ⟨rfl, fun y v1 v2 v3 => by omega⟩⟩) (by first | exact SC.rf | exact sc2)
        · have g102 : bh < nw := Int.not_le.mp (fun v => h102 ((iI_le (by omega) (by omega) (by omega) (by omega)).mpr v))
          have he2 : ewI md lt bh nw = nw := by unfold ewI; rw [if_pos gm2]; split <;> omega
          refine v_aload_n cx (tk_dc d_M_nextOf 69 rfl) rfl ?_
          refine v_iload_n cx (tk_dc d_M_nextOf 70 rfl) rfl ?_
          refine v_aload_n cx (tk_dc d_M_nextOf 71 rfl) rfl ?_
          refine v_getI cx (tk_dc d_M_nextOf 72 rfl) f_M_129 o_M (by decide) (by rfl) ?_
          refine v_eqi (iI nw) hnw ?_
          refine v_i2l cx (tk_dc d_M_nextOf 73 rfl) ?_
          refine v_eql (lI nw) (lI_i (by omega) (by omega)) ?_
          refine v_callVS (rest := _) cx (tk_dc d_M_nextOf 74 rfl) m_M_208 kn_M_isDueAt kv_M_isDueAt k_M_isDueAt o_M (by decide) rfl (c_M_isDueAt H (by omega) (by omega)) rfl rfl (Nat.le_of_ble_eq_true rfl) (by decide) (fun x9 M2 hx9 sc2 => ?_)
          subst hx9
          refine v_if_eq cx (tk_dc d_M_nextOf 75 rfl) 125 (by decide) (fun h115 => ?_) (fun h115 => ?_)
          · have g115 := b01_z h115
            refine v_iconst cx (tk_dc d_M_nextOf 79 rfl) (-1) (by decide) ?_
            exact v_iretS cx hB (tk_dc d_M_nextOf 80 rfl) (⟨-1, rfl, by unfold NXT; rw [if_neg (by omega), he2]; exact Or.inl ⟨rfl, fun y v1 v2 v3 => by rw [show y = nw by omega]; exact g115⟩⟩) (by first | exact SC.rf | exact sc2)
          · have g115 := b01_nz h115
            refine v_aload_n cx (tk_dc d_M_nextOf 76 rfl) rfl ?_
            refine v_getI cx (tk_dc d_M_nextOf 77 rfl) f_M_129 o_M (by decide) (by rfl) ?_
            refine v_eqi (iI nw) (by rw [sc2.2 172 1 (by omega)]; exact hnw) ?_
            refine v_goto cx (tk_dc d_M_nextOf 78 rfl) 126 (by decide) ?_
            exact v_iretS cx hB (tk_dc d_M_nextOf 80 rfl) (⟨nw, rfl, by unfold NXT; rw [if_neg (by omega), he2]; exact Or.inr ⟨g115, by omega, g3, by omega, fun y v1 v2 v3 => by omega⟩⟩) (by first | exact SC.rf | exact sc2)
      · have g82 : md = 1 := nI_inj (by omega) (by decide) (show nI md = nI 1 from h82)
        refine v_aload_n cx (tk_dc d_M_nextOf 57 rfl) rfl ?_
        refine v_iload_n cx (tk_dc d_M_nextOf 58 rfl) rfl ?_
        refine v_lload_n cx (tk_dc d_M_nextOf 59 rfl) rfl ?_
        refine v_aload_n cx (tk_dc d_M_nextOf 60 rfl) rfl ?_
        refine v_getI cx (tk_dc d_M_nextOf 61 rfl) f_M_129 o_M (by decide) (by rfl) ?_
        refine v_eqi (iI nw) hnw ?_
        refine v_i2l cx (tk_dc d_M_nextOf 62 rfl) ?_
        refine v_eql (lI nw) (lI_i (by omega) (by omega)) ?_
        refine v_callVS (rest := _) cx (tk_dc d_M_nextOf 63 rfl) m_M_218 kn_M_lastDue kv_M_lastDue k_M_lastDue o_M (by decide) rfl (c_M_lastDue H (by omega) (by omega) (by omega) (by omega)) rfl rfl (Nat.le_of_ble_eq_true rfl) (by decide) (fun x9 M2 hx9 sc2 => ?_)
        exact v_iretS cx hB (tk_dc d_M_nextOf 64 rfl) (by obtain ⟨r, e1, e2⟩ := hx9; exact ⟨r, e1, by unfold NXT; rw [if_pos g82, hew (by omega)]; exact e2⟩) (sc2)
    · have g60 : md = 0 := nI_inj (b := 0) (by omega) (by decide) h60
      refine v_aload_n cx (tk_dc d_M_nextOf 43 rfl) rfl ?_
      refine v_iload_n cx (tk_dc d_M_nextOf 44 rfl) rfl ?_
      refine v_lload_n cx (tk_dc d_M_nextOf 45 rfl) rfl ?_
      refine v_aload_n cx (tk_dc d_M_nextOf 46 rfl) rfl ?_
      refine v_getI cx (tk_dc d_M_nextOf 47 rfl) f_M_129 o_M (by decide) (by rfl) ?_
      refine v_eqi (iI nw) hnw ?_
      refine v_i2l cx (tk_dc d_M_nextOf 48 rfl) ?_
      refine v_eql (lI nw) (lI_i (by omega) (by omega)) ?_
      refine v_callVS (rest := _) cx (tk_dc d_M_nextOf 49 rfl) m_M_214 kn_M_firstDue kv_M_firstDue k_M_firstDue o_M (by decide) rfl (c_M_firstDue H (by omega) (by omega) (by omega) (by omega)) rfl rfl (Nat.le_of_ble_eq_true rfl) (by decide) (fun x9 M2 hx9 sc2 => ?_)
      exact v_iretS cx hB (tk_dc d_M_nextOf 50 rfl) (by obtain ⟨r, e1, e2⟩ := hx9; exact ⟨r, e1, by unfold NXT; rw [if_neg (by omega), hew (by omega)]; exact e2⟩) (sc2)
  refine v_iload_n cx (tk_dc d_M_nextOf 0 rfl) rfl ?_
  refine v_i2l cx (tk_dc d_M_nextOf 1 rfl) ?_
  refine v_eql (lI bh) (lI_i (by omega) (by omega)) ?_
  refine v_lconst cx (tk_dc d_M_nextOf 2 rfl) (1) (by decide) ?_
  refine v_ladd cx (tk_dc d_M_nextOf 3 rfl) ?_
  refine v_eql (lI (bh + 1)) (lI_add bh 1) ?_
  refine v_aload_n cx (tk_dc d_M_nextOf 4 rfl) rfl ?_
  refine v_getI cx (tk_dc d_M_nextOf 5 rfl) f_M_129 o_M (by decide) (by rfl) ?_
  refine v_eqi (iI nw) hnw ?_
  refine v_i2l cx (tk_dc d_M_nextOf 6 rfl) ?_
  refine v_eql (lI nw) (lI_i (by omega) (by omega)) ?_
  refine v_aload_n cx (tk_dc d_M_nextOf 7 rfl) rfl ?_
  refine v_getC cx 187 (tk_dc d_M_nextOf 8 rfl) f_M_53 o_M (by decide) (by rfl) ?_
  refine v_iload_n cx (tk_dc d_M_nextOf 9 rfl) rfl ?_
  refine w_iald cx (tk_dc d_M_nextOf 10 rfl) a_187 j (rfl) (by omega) (by decide) ?_
  refine v_eqi (iI lt) hlt ?_
  refine v_i2l cx (tk_dc d_M_nextOf 11 rfl) ?_
  refine v_eql (lI lt) (lI_i (by omega) (by omega)) ?_
  refine v_lsub cx (tk_dc d_M_nextOf 12 rfl) ?_
  refine v_eql (lI (nw - lt)) (lI_sub _ _) ?_
  refine v_lcmp cx (tk_dc d_M_nextOf 13 rfl) ?_
  refine v_if_le cx (tk_dc d_M_nextOf 14 rfl) 28 (by decide) (fun h18 => ?_) (fun h18 => ?_)
  · have g18 : ¬ nw - lt < bh + 1 := fun v => absurd h18 (Int32.not_le.mpr ((cg (by omega) (by omega) (by omega) (by omega)).mpr v))
    refine v_aload_n cx (tk_dc d_M_nextOf 20 rfl) rfl ?_
    refine v_getI cx (tk_dc d_M_nextOf 21 rfl) f_M_129 o_M (by decide) (by rfl) ?_
    refine v_eqi (iI nw) hnw ?_
    refine v_i2l cx (tk_dc d_M_nextOf 22 rfl) ?_
    refine v_eql (lI nw) (lI_i (by omega) (by omega)) ?_
    refine v_aload_n cx (tk_dc d_M_nextOf 23 rfl) rfl ?_
    refine v_getC cx 187 (tk_dc d_M_nextOf 24 rfl) f_M_53 o_M (by decide) (by rfl) ?_
    refine v_iload_n cx (tk_dc d_M_nextOf 25 rfl) rfl ?_
    refine w_iald cx (tk_dc d_M_nextOf 26 rfl) a_187 j (rfl) (by omega) (by decide) ?_
    refine v_eqi (iI lt) hlt ?_
    refine v_i2l cx (tk_dc d_M_nextOf 27 rfl) ?_
    refine v_eql (lI lt) (lI_i (by omega) (by omega)) ?_
    refine v_lsub cx (tk_dc d_M_nextOf 28 rfl) ?_
    refine v_eql (lI w) (by rw [lI_sub]; congr 1; rw [hw]; split <;> omega) ?_
    refine v_lstore_n (lo' := [_, _, _, _, _]) cx (tk_dc d_M_nextOf 29 rfl) (by decide) rfl ?_
    refine v_lload_n cx (tk_dc d_M_nextOf 30 rfl) rfl ?_
    refine v_lconst cx (tk_dc d_M_nextOf 31 rfl) (0) (by decide) ?_
    refine v_lcmp cx (tk_dc d_M_nextOf 32 rfl) ?_
    refine v_if_le cx (tk_dc d_M_nextOf 33 rfl) 52 (by decide) (fun h45 => ?_) (fun h45 => ?_)
    · have g45 : w = 0 := by have := Int.not_lt.mp (fun v => absurd h45 (Int32.not_le.mpr ((cg (a := w) (b := 0) (by omega) (by omega) (by omega) (by omega)).mpr v))); omega
      rw [g45] at tail ⊢
      refine v_lconst cx (tk_dc d_M_nextOf 36 rfl) (0) (by decide) ?_
      exact tail
    · refine v_lload_n cx (tk_dc d_M_nextOf 34 rfl) rfl ?_
      refine v_goto cx (tk_dc d_M_nextOf 35 rfl) 53 (by decide) ?_
      exact tail
  · have g18 : nw - lt < bh + 1 := (cg (by omega) (by omega) (by omega) (by omega)).mp (Int32.not_le.mp h18)
    refine v_iload_n cx (tk_dc d_M_nextOf 15 rfl) rfl ?_
    refine v_i2l cx (tk_dc d_M_nextOf 16 rfl) ?_
    refine v_eql (lI bh) (lI_i (by omega) (by omega)) ?_
    refine v_lconst cx (tk_dc d_M_nextOf 17 rfl) (1) (by decide) ?_
    refine v_ladd cx (tk_dc d_M_nextOf 18 rfl) ?_
    refine v_eql (lI w) (by rw [show (1 : Int64) = lI 1 from rfl, lI_add]; congr 1; rw [hw, if_neg (by omega)]) ?_
    refine v_goto cx (tk_dc d_M_nextOf 19 rfl) 41 (by decide) ?_
    refine v_lstore_n (lo' := [_, _, _, _, _]) cx (tk_dc d_M_nextOf 29 rfl) (by decide) rfl ?_
    refine v_lload_n cx (tk_dc d_M_nextOf 30 rfl) rfl ?_
    refine v_lconst cx (tk_dc d_M_nextOf 31 rfl) (0) (by decide) ?_
    refine v_lcmp cx (tk_dc d_M_nextOf 32 rfl) ?_
    refine v_if_le cx (tk_dc d_M_nextOf 33 rfl) 52 (by decide) (fun h45 => ?_) (fun h45 => ?_)
    · have g45 : w = 0 := by have := Int.not_lt.mp (fun v => absurd h45 (Int32.not_le.mpr ((cg (a := w) (b := 0) (by omega) (by omega) (by omega) (by omega)).mpr v))); omega
      rw [g45] at tail ⊢
      refine v_lconst cx (tk_dc d_M_nextOf 36 rfl) (0) (by decide) ?_
      exact tail
    · refine v_lload_n cx (tk_dc d_M_nextOf 34 rfl) rfl ?_
      refine v_goto cx (tk_dc d_M_nextOf 35 rfl) 53 (by decide) ?_
      exact tail
