/-! the other side: the first and the last due minute, the next one -/
/-- not due, as neither its local minute nor a skipped one is -/
theorem due_nol {n h ne : Nat} {ρ : ru} {mv : Bool} {st os : Nat → Int} {hd ex : Nat → Int32} {x : Int} (h1 : ldB ρ (jd_of ρ mv h hd) (x + os (ptI st x n)) = false) (h2 : ¬ (x ≠ 0 ∧ 0 < ptI st x n ∧ st (ptI st x n) = x)) : due_of n h ne ρ mv st os hd ex x = false := by
  unfold due_of dueB
  refine due_no h1 ?_
  unfold skB
  rw [decide_eq_false h2, Bool.false_and]
set_option maxHeartbeats 4000000 in
set_option maxRecDepth 100000 in
theorem c_M_firstDue {l : Launch} {E : tk_E} {M : tk_M} {j z h ne n : Nat} {ρ : ru} {mv : Bool} {st os : Nat → Int} {hd ex : Nat → Int32} {a b : Int} (H : mo_ok M j z h ne n ρ mv st os hd ex) (ha : 0 ≤ a) (ha2 : a ≤ 60000000) (hb : -1 ≤ b) (hb2 : b ≤ 52595999) : tk_MS l y_M_firstDue b_M_firstDue 17 (some .int) 8 E [.ref (E.1 + 172), .int (nI j), .long (lI a), .long (lI b)] M  (fun y => ∃ r : Int, y = iI r ∧ FDP (due_of n h ne ρ mv st os hd ex) a b r) := by
  refine tk_ofVS (by decide +kernel) [some (.ref (E.1 + 172)), some (.int (nI j)), some (.long (lI a)), none, some (.long (lI b)), none, none, none, none, none, none, none, none, none, none, none, none] rfl (Nat.le_of_ble_eq_true rfl) ?_
  intro p e s m args below meth c cx hB
  have hj := H.1.1
  have hz := H.2.1.1
  have hzj := H.2.1.2.2.1
  have zo0 := H.2.2.1.1
  have hso := H.2.2.1.2.2.2
  have hsn := H.2.2.1.2.2.1
  have zo1 := zo0
  obtain ⟨hn1, hn9, hst0, hos0, hrg, -⟩ := zo1
  have outer : ∀ (t : Nat) (x : Int) (M1 : tk_M) (w9 w10 w11 w12 w13 w14 w15 w16 : Option Value), b + 1 - x < t → a ≤ x → x ≤ 60000000 → SC M M1 → (∀ y, a ≤ y → y < x → y ≤ b → (due_of n h ne ρ mv st os hd ex) y = false) → tk_V p l e (tk_rm 8 0 0) s m args below meth c (MQ below (tk_QS E M (fun y => ∃ r : Int, y = iI r ∧ FDP (due_of n h ne ρ mv st os hd ex) a b r)) args s 0 0 (tk_A E)) E 17 209 (tk_ct E M1) 0 0 11 [some (.ref (E.1 + 172)), some (.int (nI j)), some (.long (lI a)), none, some (.long (lI b)), none, some (.int (nI z)), some (.long (lI x)), none, w9, w10, w11, w12, w13, w14, w15, w16] [] := by
    intro t
    induction t with
    | zero =>
      intro x M1 w9 w10 w11 w12 w13 w14 w15 w16 ht hx hx2 sc hI
      refine v_lload cx (tk_dc d_M_firstDue 7 rfl) rfl ?_
      refine v_lload cx (tk_dc d_M_firstDue 8 rfl) rfl ?_
      refine v_lcmp cx (tk_dc d_M_firstDue 9 rfl) ?_
      refine v_if_gt cx (tk_dc d_M_firstDue 10 rfl) 230 (by decide) (fun _ => ?_) (fun h => absurd ((cg (by omega) (by omega) (by omega) (by omega)).mpr (by omega)) h)
      refine v_iconst cx (tk_dc d_M_firstDue 126 rfl) (-1) (by decide) ?_
      exact v_iretS cx hB (tk_dc d_M_firstDue 127 rfl) (⟨-1, rfl, Or.inl ⟨rfl, fun y g1 g2 g3 => hI y g1 (by omega) g3⟩⟩) (sc)
    | succ t ih =>
      intro x M1 w9 w10 w11 w12 w13 w14 w15 w16 ht hx hx2 sc hI
      by_cases hxb : b < x
      · have hh0 := hI
        refine v_lload cx (tk_dc d_M_firstDue 7 rfl) rfl ?_
        refine v_lload cx (tk_dc d_M_firstDue 8 rfl) rfl ?_
        refine v_lcmp cx (tk_dc d_M_firstDue 9 rfl) ?_
        refine v_if_gt cx (tk_dc d_M_firstDue 10 rfl) 230 (by decide) (fun _ => ?_) (fun h => absurd ((cg (by omega) (by omega) (by omega) (by omega)).mpr (by omega)) h)
        refine v_iconst cx (tk_dc d_M_firstDue 126 rfl) (-1) (by decide) ?_
        exact v_iretS cx hB (tk_dc d_M_firstDue 127 rfl) (⟨-1, rfl, Or.inl ⟨rfl, fun y g1 g2 g3 => hI y g1 (by omega) g3⟩⟩) (sc)
      · obtain ⟨hpt, hpl, hpe⟩ := pt_en zo0 (show 0 ≤ x by omega) (show x ≤ 52595999 by omega)
        obtain ⟨q, hq⟩ : ∃ q, q = ptI st x n := ⟨_, rfl⟩
        rw [← hq] at hpt hpl hpe
        have rq := hrg q hpt
        obtain ⟨u, hu⟩ : ∃ u : Int, u = if q + 1 < n ∧ st (q + 1) < x + (1440 - (x + os q) % 1440) then st (q + 1) else x + (1440 - (x + os q) % 1440) := ⟨_, rfl⟩
        have hu1 : x < u ∧ u ≤ x + (1440 - (x + os q) % 1440) ∧ (q + 1 < n → u ≤ st (q + 1)) := by
          rw [hu]
          unfold enI at hpe
          by_cases g : q + 1 < n ∧ st (q + 1) < x + (1440 - (x + os q) % 1440)
          · rw [if_pos g]; rw [if_pos g.1] at hpe; omega
          · rw [if_neg g]
            refine ⟨by omega, by omega, fun w => ?_⟩
            have := fun w2 => g ⟨w, w2⟩
            rcases Int.lt_or_le (st (q + 1)) (x + (1440 - (x + os q) % 1440)) with w3 | w3
            · exact absurd w3 this
            · exact w3
        have hsame : ∀ y, x ≤ y → y < u → y ≤ 52595999 → ptI st y n = q ∧ (y + os q) / 1440 = (x + os q) / 1440 := fun y g1 g2 g3 => by
          refine ⟨pt_is zo0 (by omega) hpt (by omega) ?_, by omega⟩
          unfold enI
          split
          · rename_i w
            have := hu1.2.2 w
            omega
          · exact g3
        have isj : ∀ (M2 : tk_M), SC M M2 → (0 < q ∧ st q = x → (due_of n h ne ρ mv st os hd ex) x = false) → tk_V p l e (tk_rm 8 0 0) s m args below meth c (MQ below (tk_QS E M (fun y => ∃ r : Int, y = iI r ∧ FDP (due_of n h ne ρ mv st os hd ex) a b r)) args s 0 0 (tk_A E)) E 17 209 (tk_ct E M2) 0 0 160 [some (.ref (E.1 + 172)), some (.int (nI j)), some (.long (lI a)), none, some (.long (lI b)), none, some (.int (nI z)), some (.long (lI x)), none, some (.int (nI q)), some (.int (iI (x + os q))), some (.int (iI (1440 - (x + os q) % 1440))), some (.long (lI u)), none, w14, w15, w16] [] := by
          intro M2 sc2 hbeg
          have inner : ∀ (d : Nat) (k : Int) (jb : Bool) (M3 : tk_M), u - k ≤ d → x ≤ k → k ≤ 60000000 → SC M M3 → jb = jd_of ρ mv h hd ((x + os q) / 1440) → (∀ y, a ≤ y → y < k → y ≤ b → (due_of n h ne ρ mv st os hd ex) y = false) → tk_V p l e (tk_rm 8 0 0) s m args below meth c (MQ below (tk_QS E M (fun y => ∃ r : Int, y = iI r ∧ FDP (due_of n h ne ρ mv st os hd ex) a b r)) args s 0 0 (tk_A E)) E 17 209 (tk_ct E M3) 0 0 179 [some (.ref (E.1 + 172)), some (.int (nI j)), some (.long (lI a)), none, some (.long (lI b)), none, some (.int (nI z)), some (.long (lI x)), none, some (.int (nI q)), some (.int (iI (x + os q))), some (.int (iI (1440 - (x + os q) % 1440))), some (.long (lI u)), none, some (.int (b01 jb)), some (.long (lI k)), none] [] := by
            intro d
            induction d with
            | zero =>
              intro k jb M3 hk hk1 hk2 sc3 hjb hI3
              refine v_iload cx (tk_dc d_M_firstDue 100 rfl) rfl ?_
              refine v_if_eq cx (tk_dc d_M_firstDue 101 rfl) 223 (by decide) (fun h181 => ?_) (fun h181 => ?_)
              · have g181 : jb = false := b01_z h181
                refine v_lload cx (tk_dc d_M_firstDue 123 rfl) rfl ?_
                refine v_lstore (lo' := [_, _, _, _, _, _, _, _, _, _, _, _, _, _, _, _, _]) cx (tk_dc d_M_firstDue 124 rfl) (by decide) rfl ?_
                refine v_goto cx (tk_dc d_M_firstDue 125 rfl) 11 (by decide) ?_
                exact ih u M3 _ _ _ _ _ _ _ _ (by omega) (by omega) (by omega) sc3 (fun y g1 g2 g3 => by by_cases g4 : y < k; (exact hI3 y g1 g4 g3); (obtain ⟨g5, g6⟩ := hsame y (by omega) g2 (by omega); by_cases g7 : 0 < q ∧ st q = y; (have g8 : y = x := by omega); (rw [g8]; exact hbeg ⟨g7.1, by omega⟩); exact due_nol (by rw [g5]; unfold ldB; rw [g6, ← hjb, g181, Bool.and_false]) (by rw [g5]; exact fun w => g7 w.2)))
              · have g181 : jb = true := b01_nz h181
                refine v_lload cx (tk_dc d_M_firstDue 102 rfl) rfl ?_
                refine v_lload cx (tk_dc d_M_firstDue 103 rfl) rfl ?_
                refine v_lcmp cx (tk_dc d_M_firstDue 104 rfl) ?_
                refine v_if_ge cx (tk_dc d_M_firstDue 105 rfl) 223 (by decide) (fun _ => ?_) (fun h => absurd (Int32.not_lt.mp (fun w => absurd ((cl (by omega) (by omega) (by omega) (by omega)).mp w) (by omega))) h)
                refine v_lload cx (tk_dc d_M_firstDue 123 rfl) rfl ?_
                refine v_lstore (lo' := [_, _, _, _, _, _, _, _, _, _, _, _, _, _, _, _, _]) cx (tk_dc d_M_firstDue 124 rfl) (by decide) rfl ?_
                refine v_goto cx (tk_dc d_M_firstDue 125 rfl) 11 (by decide) ?_
                exact ih u M3 _ _ _ _ _ _ _ _ (by omega) (by omega) (by omega) sc3 (fun y g1 g2 g3 => hI3 y g1 (by omega) g3)
            | succ d ihd =>
              intro k jb M3 hk hk1 hk2 sc3 hjb hI3
              refine v_iload cx (tk_dc d_M_firstDue 100 rfl) rfl ?_
              refine v_if_eq cx (tk_dc d_M_firstDue 101 rfl) 223 (by decide) (fun h181 => ?_) (fun h181 => ?_)
              · have g181 : jb = false := b01_z h181
                refine v_lload cx (tk_dc d_M_firstDue 123 rfl) rfl ?_
                refine v_lstore (lo' := [_, _, _, _, _, _, _, _, _, _, _, _, _, _, _, _, _]) cx (tk_dc d_M_firstDue 124 rfl) (by decide) rfl ?_
                refine v_goto cx (tk_dc d_M_firstDue 125 rfl) 11 (by decide) ?_
                exact ih u M3 _ _ _ _ _ _ _ _ (by omega) (by omega) (by omega) sc3 (fun y g1 g2 g3 => by by_cases g4 : y < k; (exact hI3 y g1 g4 g3); (obtain ⟨g5, g6⟩ := hsame y (by omega) g2 (by omega); by_cases g7 : 0 < q ∧ st q = y; (have g8 : y = x := by omega); (rw [g8]; exact hbeg ⟨g7.1, by omega⟩); exact due_nol (by rw [g5]; unfold ldB; rw [g6, ← hjb, g181, Bool.and_false]) (by rw [g5]; exact fun w => g7 w.2)))
              · have g181 : jb = true := b01_nz h181
                refine v_lload cx (tk_dc d_M_firstDue 102 rfl) rfl ?_
                refine v_lload cx (tk_dc d_M_firstDue 103 rfl) rfl ?_
                refine v_lcmp cx (tk_dc d_M_firstDue 104 rfl) ?_
                refine v_if_ge cx (tk_dc d_M_firstDue 105 rfl) 223 (by decide) (fun h189 => ?_) (fun h189 => ?_)
                · have g189 : u ≤ k := Int.not_lt.mp (fun w => absurd h189 (Int32.not_le.mpr ((cl (by omega) (by omega) (by omega) (by omega)).mpr w)))
                  refine v_lload cx (tk_dc d_M_firstDue 123 rfl) rfl ?_
                  refine v_lstore (lo' := [_, _, _, _, _, _, _, _, _, _, _, _, _, _, _, _, _]) cx (tk_dc d_M_firstDue 124 rfl) (by decide) rfl ?_
                  refine v_goto cx (tk_dc d_M_firstDue 125 rfl) 11 (by decide) ?_
                  exact ih u M3 _ _ _ _ _ _ _ _ (by omega) (by omega) (by omega) sc3 (fun y g1 g2 g3 => hI3 y g1 (by omega) g3)
                · have g189 : k < u := (cl (by omega) (by omega) (by omega) (by omega)).mp (Int32.not_le.mp h189)
                  refine v_lload cx (tk_dc d_M_firstDue 106 rfl) rfl ?_
                  refine v_lload cx (tk_dc d_M_firstDue 107 rfl) rfl ?_
                  refine v_lcmp cx (tk_dc d_M_firstDue 108 rfl) ?_
                  refine v_if_gt cx (tk_dc d_M_firstDue 109 rfl) 223 (by decide) (fun h197 => ?_) (fun h197 => ?_)
                  · have g197 : b < k := (cg (by omega) (by omega) (by omega) (by omega)).mp h197
                    refine v_lload cx (tk_dc d_M_firstDue 123 rfl) rfl ?_
                    refine v_lstore (lo' := [_, _, _, _, _, _, _, _, _, _, _, _, _, _, _, _, _]) cx (tk_dc d_M_firstDue 124 rfl) (by decide) rfl ?_
                    refine v_goto cx (tk_dc d_M_firstDue 125 rfl) 11 (by decide) ?_
                    exact ih u M3 _ _ _ _ _ _ _ _ (by omega) (by omega) (by omega) sc3 (fun y g1 g2 g3 => hI3 y g1 (by omega) g3)
                  · have g197 : k ≤ b := Int.not_lt.mp (fun w => h197 ((cg (by omega) (by omega) (by omega) (by omega)).mpr w))
                    refine v_aload_n cx (tk_dc d_M_firstDue 110 rfl) rfl ?_
                    refine v_iload_n cx (tk_dc d_M_firstDue 111 rfl) rfl ?_
                    refine v_lload cx (tk_dc d_M_firstDue 112 rfl) rfl ?_
                    refine v_callVS (rest := _) cx (tk_dc d_M_firstDue 113 rfl) m_M_208 kn_M_isDueAt kv_M_isDueAt k_M_isDueAt o_M (by decide) rfl (c_M_isDueAt (H.sc sc3) (by omega) (by omega)) rfl rfl (Nat.le_of_ble_eq_true rfl) (by decide) (fun x9 M4 hx9 sc4 => ?_)
                    subst hx9
                    refine v_if_eq cx (tk_dc d_M_firstDue 114 rfl) 214 (by decide) (fun h207 => ?_) (fun h207 => ?_)
                    · have g207 := b01_z h207
                      refine v_lload cx (tk_dc d_M_firstDue 118 rfl) rfl ?_
                      refine v_lconst cx (tk_dc d_M_firstDue 119 rfl) (1) (by decide) ?_
                      refine v_ladd cx (tk_dc d_M_firstDue 120 rfl) ?_
                      refine v_eql (lI (k + 1)) (lI_add k 1) ?_
                      refine v_lstore (lo' := [_, _, _, _, _, _, _, _, _, _, _, _, _, _, _, _, _]) cx (tk_dc d_M_firstDue 121 rfl) (by decide) rfl ?_
                      refine v_goto cx (tk_dc d_M_firstDue 122 rfl) 179 (by decide) ?_
                      exact ihd (k + 1) jb M4 (by omega) (by omega) (by omega) (sc3.tr sc4) hjb (fun y g1 g2 g3 => by by_cases g4 : y = k; (rw [g4]; exact g207); exact hI3 y g1 (by omega) g3)
                    · have g207 := b01_nz h207
                      refine v_lload cx (tk_dc d_M_firstDue 115 rfl) rfl ?_
                      refine v_l2i cx (tk_dc d_M_firstDue 116 rfl) ?_
                      refine v_eqi (iI k) (lI_l k) ?_
                      exact v_iretS cx hB (tk_dc d_M_firstDue 117 rfl) (⟨k, rfl, Or.inr ⟨g207, by omega, by omega, g197, fun y g1 _ g3 => hI3 y g1 g3 (by omega)⟩⟩) (sc3.tr sc4)
          refine v_aload_n cx (tk_dc d_M_firstDue 91 rfl) rfl ?_
          refine v_iload_n cx (tk_dc d_M_firstDue 92 rfl) rfl ?_
          refine v_iload cx (tk_dc d_M_firstDue 93 rfl) rfl ?_
          refine v_sipush cx (tk_dc d_M_firstDue 94 rfl) (1440) (by decide) ?_
          refine v_callS (rest := _) cx (tk_dc d_M_firstDue 95 rfl) m_M_184 ks_M_parts k_M_parts (c_M_parts (b := 1440) (by omega) (by omega) (by omega) (by omega)) rfl rfl (Nat.le_of_ble_eq_true rfl) (by decide) ?_
          refine v_callVS (rest := _) cx (tk_dc d_M_firstDue 96 rfl) m_M_187 kn_M_isJobs kv_M_isJobs k_M_isJobs o_M (by decide) rfl (c_M_isJobs (H.1.sc sc2) (H.2.1.sc sc2) (by omega) (by omega)) rfl rfl (Nat.le_of_ble_eq_true rfl) (by decide) (fun x9 M3 hx9 sc3 => ?_)
          subst hx9
          refine v_istore (lo' := [_, _, _, _, _, _, _, _, _, _, _, _, _, _, _, _, _]) cx (tk_dc d_M_firstDue 97 rfl) (by decide) rfl ?_
          refine v_lload cx (tk_dc d_M_firstDue 98 rfl) rfl ?_
          refine v_lstore (lo' := [_, _, _, _, _, _, _, _, _, _, _, _, _, _, _, _, _]) cx (tk_dc d_M_firstDue 99 rfl) (by decide) rfl ?_
          exact inner (u - x).toNat x _ M3 (by omega) (by omega) (by omega) (sc2.tr sc3) rfl hI
        have rest : tk_V p l e (tk_rm 8 0 0) s m args below meth c (MQ below (tk_QS E M (fun y => ∃ r : Int, y = iI r ∧ FDP (due_of n h ne ρ mv st os hd ex) a b r)) args s 0 0 (tk_A E)) E 17 209 (tk_ct E M1) 0 0 119 [some (.ref (E.1 + 172)), some (.int (nI j)), some (.long (lI a)), none, some (.long (lI b)), none, some (.int (nI z)), some (.long (lI x)), none, some (.int (nI q)), some (.int (iI (x + os q))), some (.int (iI (1440 - (x + os q) % 1440))), some (.long (lI u)), none, w14, w15, w16] [] := by
          refine v_iload cx (tk_dc d_M_firstDue 67 rfl) rfl ?_
          refine v_if_le cx (tk_dc d_M_firstDue 68 rfl) 160 (by decide) (fun h121 => ?_) (fun h121 => ?_)
          · have g121 : q = 0 := by rcases Nat.eq_zero_or_pos q with w | w; (exact w); exact absurd h121 (nI_nle w (by omega))
            exact isj M1 sc (fun w => by omega)
          · have g121 : 0 < q := by rcases Nat.eq_zero_or_pos q with w | w; (exact absurd (by rw [w]; decide) h121); exact w
            refine v_aload_n cx (tk_dc d_M_firstDue 69 rfl) rfl ?_
            refine v_getC cx 173 (tk_dc d_M_firstDue 70 rfl) f_M_7 o_M (by decide) (by rfl) ?_
            refine v_bipush cx (tk_dc d_M_firstDue 71 rfl) (8) (by decide) ?_
            refine v_iload cx (tk_dc d_M_firstDue 72 rfl) rfl ?_
            refine v_imul cx (tk_dc d_M_firstDue 73 rfl) ?_
            refine v_iload cx (tk_dc d_M_firstDue 74 rfl) rfl ?_
            refine v_iadd cx (tk_dc d_M_firstDue 75 rfl) ?_
            refine v_iconst cx (tk_dc d_M_firstDue 76 rfl) (1) (by decide) ?_
            refine v_isub cx (tk_dc d_M_firstDue 77 rfl) ?_
            refine w_iald cx (tk_dc d_M_firstDue 78 rfl) a_173 (8 * z + (q - 1)) (by rw [show (8 : Int32) = nI 8 from rfl, pk_mul, nI_add, nI_sub1 (by omega)]; congr 1; omega) (by omega) (by decide) ?_
            refine v_eqi (iI (st q)) (by rw [sc.at _ rfl, (hso (q - 1) (by omega)).1, Nat.sub_add_cancel g121]) ?_
            refine v_i2l cx (tk_dc d_M_firstDue 79 rfl) ?_
            refine v_eql (lI (st q)) (lI_i (by omega) (by omega)) ?_
            refine v_lload cx (tk_dc d_M_firstDue 80 rfl) rfl ?_
            refine v_lcmp cx (tk_dc d_M_firstDue 81 rfl) ?_
            refine v_if_ne cx (tk_dc d_M_firstDue 82 rfl) 160 (by decide) (fun h143 => ?_) (fun h143 => ?_)
            · have g143 : ¬ st q = x := fun w => h143 ((ce (by omega) (by omega) (by omega) (by omega)).mpr w)
              exact isj M1 sc (fun w => absurd w.2 g143)
            · have g143 : st q = x := (ce (by omega) (by omega) (by omega) (by omega)).mp h143
              refine v_aload_n cx (tk_dc d_M_firstDue 83 rfl) rfl ?_
              refine v_iload_n cx (tk_dc d_M_firstDue 84 rfl) rfl ?_
              refine v_lload cx (tk_dc d_M_firstDue 85 rfl) rfl ?_
              refine v_callVS (rest := _) cx (tk_dc d_M_firstDue 86 rfl) m_M_208 kn_M_isDueAt kv_M_isDueAt k_M_isDueAt o_M (by decide) rfl (c_M_isDueAt (H.sc sc) (by omega) (by omega)) rfl rfl (Nat.le_of_ble_eq_true rfl) (by decide) (fun x9 M4 hx9 sc4 => ?_)
              subst hx9
              refine v_if_eq cx (tk_dc d_M_firstDue 87 rfl) 160 (by decide) (fun h153 => ?_) (fun h153 => ?_)
              · have g153 := b01_z h153
                exact isj M4 (sc.tr sc4) (fun _ => g153)
              · have g153 := b01_nz h153
                refine v_lload cx (tk_dc d_M_firstDue 88 rfl) rfl ?_
                refine v_l2i cx (tk_dc d_M_firstDue 89 rfl) ?_
                refine v_eqi (iI x) (lI_l x) ?_
                exact v_iretS cx hB (tk_dc d_M_firstDue 90 rfl) (⟨x, rfl, Or.inr ⟨g153, by omega, by omega, by omega, fun y g1 _ g3 => hI y g1 g3 (by omega)⟩⟩) (sc.tr sc4)
        refine v_lload cx (tk_dc d_M_firstDue 7 rfl) rfl ?_
        refine v_lload cx (tk_dc d_M_firstDue 8 rfl) rfl ?_
        refine v_lcmp cx (tk_dc d_M_firstDue 9 rfl) ?_
        refine v_if_gt cx (tk_dc d_M_firstDue 10 rfl) 230 (by decide) (fun h => absurd h (fun w => absurd ((cg (by omega) (by omega) (by omega) (by omega)).mp w) (by omega))) (fun _ => ?_)
        refine v_aload_n cx (tk_dc d_M_firstDue 11 rfl) rfl ?_
        refine v_iload cx (tk_dc d_M_firstDue 12 rfl) rfl ?_
        refine v_lload cx (tk_dc d_M_firstDue 13 rfl) rfl ?_
        refine v_l2i cx (tk_dc d_M_firstDue 14 rfl) ?_
        refine v_eqi (iI x) (lI_l x) ?_
        refine v_callV (rest := _) cx (tk_dc d_M_firstDue 15 rfl) m_M_190 kn_M_shiftsBy kv_M_shiftsBy k_M_shiftsBy o_M (by decide) rfl (c_M_shiftsBy (H.2.2.1.sc sc) (by omega) (by omega)) rfl rfl (Nat.le_of_ble_eq_true rfl) (by decide) ?_
        refine v_eqi (nI q) (by rw [hq]) ?_
        refine v_istore (lo' := [_, _, _, _, _, _, _, _, _, _, _, _, _, _, _, _, _]) cx (tk_dc d_M_firstDue 16 rfl) (by decide) rfl ?_
        refine v_lload cx (tk_dc d_M_firstDue 17 rfl) rfl ?_
        refine v_l2i cx (tk_dc d_M_firstDue 18 rfl) ?_
        refine v_eqi (iI x) (lI_l x) ?_
        refine v_aload_n cx (tk_dc d_M_firstDue 19 rfl) rfl ?_
        refine v_iload cx (tk_dc d_M_firstDue 20 rfl) rfl ?_
        refine v_iload cx (tk_dc d_M_firstDue 21 rfl) rfl ?_
        refine v_callV (rest := _) cx (tk_dc d_M_firstDue 22 rfl) m_M_193 kn_M_offset kv_M_offset k_M_offset o_M (by decide) rfl (c_M_offset (H.2.2.1.sc sc) hpt) rfl rfl (Nat.le_of_ble_eq_true rfl) (by decide) ?_
        refine v_iadd cx (tk_dc d_M_firstDue 23 rfl) ?_
        refine v_eqi (iI (x + os q)) (iI_add _ _) ?_
        refine v_istore (lo' := [_, _, _, _, _, _, _, _, _, _, _, _, _, _, _, _, _]) cx (tk_dc d_M_firstDue 24 rfl) (by decide) rfl ?_
        refine v_sipush cx (tk_dc d_M_firstDue 25 rfl) (1440) (by decide) ?_
        refine v_iload cx (tk_dc d_M_firstDue 26 rfl) rfl ?_
        refine v_sipush cx (tk_dc d_M_firstDue 27 rfl) (1440) (by decide) ?_
        refine v_callS (rest := _) cx (tk_dc d_M_firstDue 28 rfl) m_M_124 ks_M_modulo k_M_modulo (c_M_modulo (b := 1440) (by omega) (by omega) (by omega) (by omega)) rfl rfl (Nat.le_of_ble_eq_true rfl) (by decide) ?_
        refine v_isub cx (tk_dc d_M_firstDue 29 rfl) ?_
        refine v_eqi (iI (1440 - (x + os q) % 1440)) (iI_sub 1440 _) ?_
        refine v_istore (lo' := [_, _, _, _, _, _, _, _, _, _, _, _, _, _, _, _, _]) cx (tk_dc d_M_firstDue 30 rfl) (by decide) rfl ?_
        refine v_iload cx (tk_dc d_M_firstDue 31 rfl) rfl ?_
        refine v_aload_n cx (tk_dc d_M_firstDue 32 rfl) rfl ?_
        refine v_getC cx 175 (tk_dc d_M_firstDue 33 rfl) f_M_16 o_M (by decide) (by rfl) ?_
        refine v_iload cx (tk_dc d_M_firstDue 34 rfl) rfl ?_
        refine w_iald cx (tk_dc d_M_firstDue 35 rfl) a_175 z (rfl) (by omega) (by decide) ?_
        refine v_eqi (nI (n - 1)) (by rw [sc.at _ rfl]; exact hsn) ?_
        refine v_icmp_ge cx (tk_dc d_M_firstDue 36 rfl) 111 (by decide) (fun h67 => ?_) (fun h67 => ?_)
        · have g67 : ¬ q + 1 < n := by have := (nI_leI (by omega) (by omega)).mp h67; omega
          refine v_lload cx (tk_dc d_M_firstDue 62 rfl) rfl ?_
          refine v_iload cx (tk_dc d_M_firstDue 63 rfl) rfl ?_
          refine v_i2l cx (tk_dc d_M_firstDue 64 rfl) ?_
          refine v_eql (lI (1440 - (x + os q) % 1440)) (lI_i (by omega) (by omega)) ?_
          refine v_ladd cx (tk_dc d_M_firstDue 65 rfl) ?_
          refine v_eql (lI u) (by rw [lI_add, hu, if_neg (fun w => g67 w.1)]) ?_
          refine v_lstore (lo' := [_, _, _, _, _, _, _, _, _, _, _, _, _, _, _, _, _]) cx (tk_dc d_M_firstDue 66 rfl) (by decide) rfl ?_
          exact rest
        · have g67 : q + 1 < n := by have := Nat.not_le.mp (fun w => h67 (nI_le w (by omega))); omega
          have rq1 := hrg (q + 1) g67
          refine v_aload_n cx (tk_dc d_M_firstDue 37 rfl) rfl ?_
          refine v_getC cx 173 (tk_dc d_M_firstDue 38 rfl) f_M_7 o_M (by decide) (by rfl) ?_
          refine v_bipush cx (tk_dc d_M_firstDue 39 rfl) (8) (by decide) ?_
          refine v_iload cx (tk_dc d_M_firstDue 40 rfl) rfl ?_
          refine v_imul cx (tk_dc d_M_firstDue 41 rfl) ?_
          refine v_iload cx (tk_dc d_M_firstDue 42 rfl) rfl ?_
          refine v_iadd cx (tk_dc d_M_firstDue 43 rfl) ?_
          refine w_iald cx (tk_dc d_M_firstDue 44 rfl) a_173 (8 * z + q) (by rw [show (8 : Int32) = nI 8 from rfl, pk_mul, nI_add]) (by omega) (by decide) ?_
          refine v_eqi (iI (st (q + 1))) (by rw [sc.at _ rfl]; exact (hso q (by omega)).1) ?_
          refine v_i2l cx (tk_dc d_M_firstDue 45 rfl) ?_
          refine v_eql (lI (st (q + 1))) (lI_i (by omega) (by omega)) ?_
          refine v_lload cx (tk_dc d_M_firstDue 46 rfl) rfl ?_
          refine v_iload cx (tk_dc d_M_firstDue 47 rfl) rfl ?_
          refine v_i2l cx (tk_dc d_M_firstDue 48 rfl) ?_
          refine v_eql (lI (1440 - (x + os q) % 1440)) (lI_i (by omega) (by omega)) ?_
          refine v_ladd cx (tk_dc d_M_firstDue 49 rfl) ?_
          refine v_eql (lI (x + (1440 - (x + os q) % 1440))) (lI_add _ _) ?_
          refine v_lcmp cx (tk_dc d_M_firstDue 50 rfl) ?_
          refine v_if_ge cx (tk_dc d_M_firstDue 51 rfl) 111 (by decide) (fun h91 => ?_) (fun h91 => ?_)
          · have g91 : ¬ st (q + 1) < x + (1440 - (x + os q) % 1440) := fun w => absurd h91 (Int32.not_le.mpr ((cl (by omega) (by omega) (by omega) (by omega)).mpr w))
            refine v_lload cx (tk_dc d_M_firstDue 62 rfl) rfl ?_
            refine v_iload cx (tk_dc d_M_firstDue 63 rfl) rfl ?_
            refine v_i2l cx (tk_dc d_M_firstDue 64 rfl) ?_
            refine v_eql (lI (1440 - (x + os q) % 1440)) (lI_i (by omega) (by omega)) ?_
            refine v_ladd cx (tk_dc d_M_firstDue 65 rfl) ?_
            refine v_eql (lI u) (by rw [lI_add, hu, if_neg (fun w => g91 w.2)]) ?_
            refine v_lstore (lo' := [_, _, _, _, _, _, _, _, _, _, _, _, _, _, _, _, _]) cx (tk_dc d_M_firstDue 66 rfl) (by decide) rfl ?_
            exact rest
          · have g91 : st (q + 1) < x + (1440 - (x + os q) % 1440) := (cl (by omega) (by omega) (by omega) (by omega)).mp (Int32.not_le.mp h91)
            refine v_aload_n cx (tk_dc d_M_firstDue 52 rfl) rfl ?_
            refine v_getC cx 173 (tk_dc d_M_firstDue 53 rfl) f_M_7 o_M (by decide) (by rfl) ?_
            refine v_bipush cx (tk_dc d_M_firstDue 54 rfl) (8) (by decide) ?_
            refine v_iload cx (tk_dc d_M_firstDue 55 rfl) rfl ?_
            refine v_imul cx (tk_dc d_M_firstDue 56 rfl) ?_
            refine v_iload cx (tk_dc d_M_firstDue 57 rfl) rfl ?_
            refine v_iadd cx (tk_dc d_M_firstDue 58 rfl) ?_
            refine w_iald cx (tk_dc d_M_firstDue 59 rfl) a_173 (8 * z + q) (by rw [show (8 : Int32) = nI 8 from rfl, pk_mul, nI_add]) (by omega) (by decide) ?_
            refine v_eqi (iI (st (q + 1))) (by rw [sc.at _ rfl]; exact (hso q (by omega)).1) ?_
            refine v_i2l cx (tk_dc d_M_firstDue 60 rfl) ?_
            refine v_eql (lI u) (by rw [lI_i (by omega) (by omega), hu, if_pos ⟨g67, g91⟩]) ?_
            refine v_goto cx (tk_dc d_M_firstDue 61 rfl) 117 (by decide) ?_
            refine v_lstore (lo' := [_, _, _, _, _, _, _, _, _, _, _, _, _, _, _, _, _]) cx (tk_dc d_M_firstDue 66 rfl) (by decide) rfl ?_
            exact rest
  refine v_aload_n cx (tk_dc d_M_firstDue 0 rfl) rfl ?_
  refine v_getC cx 185 (tk_dc d_M_firstDue 1 rfl) f_M_47 o_M (by decide) (by rfl) ?_
  refine v_iload_n cx (tk_dc d_M_firstDue 2 rfl) rfl ?_
  refine w_iald cx (tk_dc d_M_firstDue 3 rfl) a_185 j (rfl) (by omega) (by decide) ?_
  refine v_eqi (nI z) hzj ?_
  refine v_istore (lo' := [_, _, _, _, _, _, _, _, _, _, _, _, _, _, _, _, _]) cx (tk_dc d_M_firstDue 4 rfl) (by decide) rfl ?_
  refine v_lload_n cx (tk_dc d_M_firstDue 5 rfl) rfl ?_
  refine v_lstore (lo' := [_, _, _, _, _, _, _, _, _, _, _, _, _, _, _, _, _]) cx (tk_dc d_M_firstDue 6 rfl) (by decide) rfl ?_
  exact outer (b + 1 - a).toNat.succ a M _ _ _ _ _ _ _ _ (by omega) (by omega) ha2 SC.rf (fun y g1 g2 _ => by omega)
