/-! the job's first day and minute -/
/-- what the memory holds of job j: its zone z with h holidays, its rule r, whether it is moved -/
def j_ok (M : tk_M) (j z h : Nat) (r : ru) (mv : Bool) : Prop := j < 8 ∧ z < 4 ∧ M.2.2 (jN j) 3 = zN z ∧ h ≤ 16 ∧ M.1 (zN z) 4 = nI h ∧ ru_ok r ∧ M.1 (jN j + 1) 1 = nI (ru_hh r) ∧ M.2.1 (jN j + 1) 0 = lN (ru_mn r) ∧ M.2.1 (jN j + 1) 2 = lN (ru_dd r) ∧ M.1 (jN j + 1) 3 = nI (ru_mo r) ∧ M.1 (jN j + 1) 4 = nI (ru_ww r) ∧ M.1 (jN j + 1) 5 = nI (ru_nd r) ∧ M.1 (jN j + 1) 6 = nI (ru_np r) ∧ M.1 (jN j) 5 = b01 mv
def j_jd (M : tk_M) (z h : Nat) (r : ru) (mv : Bool) : Int → Bool := jdB mv (z_fr M z h) (fitI r)
theorem b01_z {b : Bool} (h : b01 b = 0) : b = false := by
  cases b with
  | false => rfl
  | true => exact absurd h (by decide)
theorem b01_nz {b : Bool} (h : ¬ b01 b = 0) : b = true := by
  cases b with
  | true => rfl
  | false => exact absurd rfl h
theorem fitI_at {r : ru} {m d : Nat} (h1 : 1 ≤ d) (h2 : d ≤ mlen m) : fitI r (fday m + d - 1) = ((ru_mo r).testBit (m % 12 + 1) && fitD (ru_dd r) (ru_ww r) (ru_nd r) (ru_np r) (mlen m) ((fday m + 1461) % 7).toNat d) := by
  unfold fitI
  have e := mth_at (m := m) (k := d - 1) (by omega)
  rw [show (fday m + d - 1 + 1461).toNat = (fday m + 1461 + ((d - 1 : Nat) : Int)).toNat by omega, e, show (fday m + (d : Int) - 1 - fday m + 1).toNat = d by omega]
theorem fitD_len {dd ww nd np len f d : Nat} (h : fitD dd ww nd np len f d = true) : 1 ≤ d ∧ d ≤ len := by
  unfold fitD at h
  simp only [Bool.and_eq_true, decide_eq_true_eq] at h
  exact ⟨h.1, h.2.1⟩
theorem nog_le {mv : Bool} {fr fit : Int → Bool} {a x e e' : Int} (h : nog mv fr fit a x e) (he : e' ≤ e) : nog mv fr fit a x e' := fun f h1 h2 => h f h1 (by omega)
theorem nog_nf {mv : Bool} {fr fit : Int → Bool} {a x e e' : Int} (h : nog mv fr fit a x e) (hn : ∀ f, x ≤ f → e ≤ f → f < e' → fit f = false) : nog mv fr fit a x e' := by
  intro f h1 h2 h3
  by_cases he : f < e
  · exact h f h1 he h3
  · rw [hn f h1 (by omega) h2] at h3
    cases h3
theorem nog_s {mv : Bool} {fr fit : Int → Bool} {a x e : Int} (h : nog mv fr fit a x e) (hn : x ≤ e → fit e = true → ¬ (a ≤ mvd mv fr e ∧ mvd mv fr e ≤ e + 20)) : nog mv fr fit a x (e + 1) := by
  intro f h1 h2 h3
  by_cases he : f < e
  · exact h f h1 he h3
  · obtain rfl : f = e := by omega
    exact hn h1 h3
set_option maxHeartbeats 4000000 in
set_option maxRecDepth 100000 in
theorem c_J_firstJobDay {l : Launch} {E : tk_E} {M : tk_M} {j z h : Nat} {ρ : ru} {mv : Bool} {a b : Int} (H : j_ok M j z h ρ mv) (ha : -1000 ≤ a) (ha2 : a ≤ 100000) (hb : -1000 ≤ b) (hb2 : b ≤ 100000) : tk_MI l y_J_firstJobDay b_J_firstJobDay 12 (some .int) 2 E [.ref (E.1 + jN j), .int (iI a), .int (iI b)] M M (fun x => ∃ r : Int, x = iI r ∧ FJD (j_jd M z h ρ mv) a b r ∧ r ≤ b + 60) := by
  refine tk_ofVI (by decide +kernel) [some (.ref (E.1 + jN j)), some (.int (iI a)), some (.int (iI b)), none, none, none, none, none, none, none, none, none] rfl (Nat.le_of_ble_eq_true rfl) ?_
  intro p e s m args below meth c cx hB
  obtain ⟨hj, hz, hzr, hh, hhc, hr, -, -, hdd, hmo, hww, hnd, hnp, hmv⟩ := H
  obtain ⟨-, -, r3, r4, r5, r6, r7⟩ := hr
  have hq := mth_in (b + 1461).toNat
  have hx0 : ∃ x : Int, x = if mv = true then a - 20 else a := ⟨_, rfl⟩
  obtain ⟨x, hx⟩ := hx0
  have hxr : -1020 ≤ x ∧ x ≤ 100000 ∧ x ≤ a := by rw [hx]; split <;> omega
  have hp := mth_in (x + 1461).toNat
  have hmb0 : ∃ mb, mb = mth (b + 1461).toNat := ⟨_, rfl⟩
  obtain ⟨mb, hmb⟩ := hmb0
  have hma0 : ∃ ma, ma = mth (x + 1461).toNat := ⟨_, rfl⟩
  obtain ⟨ma, hma⟩ := hma0
  rw [← hmb] at hq
  rw [← hma] at hp
  have hmbs : mb < 9000 := by rw [hmb, mth_eq]; have := (mmr_in ((b + 1461).toNat % 1461) (Nat.mod_lt _ (by decide))).1; omega
  have hmas : ma < 9000 := by rw [hma, mth_eq]; have := (mmr_in ((x + 1461).toNat % 1461) (Nat.mod_lt _ (by decide))).1; omega
  have hab : ma ≤ mb + 1 ∨ mb + 1 < ma := by omega
  have outer : ∀ (t mi : Nat) (w6 w7 w8 w9 w10 w11 : Option Value), mb + 1 ≤ mi + t → mi < 9001 → nog mv (z_fr M z h) (fitI ρ) a x (fday mi) → tk_V p l e (tk_rm 2 0 0) s m args below meth c (MQ below (tk_QI E 209 (tk_ct E M) (fun x => ∃ r : Int, x = iI r ∧ FJD (j_jd M z h ρ mv) a b r ∧ r ≤ b + 60)) args s 0 0 (tk_A E)) E 12 209 (tk_ct E M) 0 0 28 [some (.ref (E.1 + jN j)), some (.int (iI a)), some (.int (iI b)), some (.int (iI x)), some (.int (nI mb)), some (.int (nI mi)), w6, w7, w8, w9, w10, w11] [] := by
    intro t
    induction t with
    | zero =>
      intro mi w6 w7 w8 w9 w10 w11 hmi hms hn
      refine v_iload cx (tk_dc d_J_firstJobDay 15 rfl) rfl ?_
      refine v_iload cx (tk_dc d_J_firstJobDay 16 rfl) rfl ?_
      refine v_icmp_gt cx (tk_dc d_J_firstJobDay 17 rfl) 159 (by decide) (fun _ => ?_) (fun h => absurd (nI_lt (by omega) (by omega)) h)
      refine v_iload_n cx (tk_dc d_J_firstJobDay 81 rfl) rfl ?_
      refine v_iconst cx (tk_dc d_J_firstJobDay 82 rfl) (1) (by decide) ?_
      refine v_iadd cx (tk_dc d_J_firstJobDay 83 rfl) ?_
      exact v_iretI cx hB (tk_dc d_J_firstJobDay 84 rfl) (⟨b + 1, iI_add b 1, nog_none hx hn (by have := fday_mono (show mb + 1 ≤ mi by omega); rw [fday_succ] at this; omega), by omega⟩) (rfl)
    | succ t ih =>
      intro mi w6 w7 w8 w9 w10 w11 hmi hms hn
      by_cases hcm : mb < mi
      · have hh0 := hn
        refine v_iload cx (tk_dc d_J_firstJobDay 15 rfl) rfl ?_
        refine v_iload cx (tk_dc d_J_firstJobDay 16 rfl) rfl ?_
        refine v_icmp_gt cx (tk_dc d_J_firstJobDay 17 rfl) 159 (by decide) (fun _ => ?_) (fun h => absurd (nI_lt (by omega) (by omega)) h)
        refine v_iload_n cx (tk_dc d_J_firstJobDay 81 rfl) rfl ?_
        refine v_iconst cx (tk_dc d_J_firstJobDay 82 rfl) (1) (by decide) ?_
        refine v_iadd cx (tk_dc d_J_firstJobDay 83 rfl) ?_
        exact v_iretI cx hB (tk_dc d_J_firstJobDay 84 rfl) (⟨b + 1, iI_add b 1, nog_none hx hn (by have := fday_mono (show mb + 1 ≤ mi by omega); rw [fday_succ] at this; omega), by omega⟩) (rfl)
      · obtain ⟨F, eF, bF, tF⟩ := u_fit_spec (M := M) (i := jN j + 1) (n := mi) hdd hmo hww hnd hnp r3 r4 r5 r6 r7
        have hlen := mlen_in mi
        have hfs := fday_succ mi
        have hfm := fday_mono (show mi ≤ mb by omega)
        have hfl : -1461 ≤ fday mi := by unfold fday; omega
        have hfit : ∀ d : Nat, 1 ≤ d → d ≤ mlen mi → fitI ρ (fday mi + d - 1) = F.testBit d := fun d g1 g2 => by rw [fitI_at g1 g2, tF]
        have inner : ∀ (q d : Nat) (w10 w11 : Option Value), d + q = 32 → 1 ≤ d → nog mv (z_fr M z h) (fitI ρ) a x (fday mi + (min (d - 1) (mlen mi) : Nat)) → tk_V p l e (tk_rm 2 0 0) s m args below meth c (MQ below (tk_QI E 209 (tk_ct E M) (fun x => ∃ r : Int, x = iI r ∧ FJD (j_jd M z h ρ mv) a b r ∧ r ≤ b + 60)) args s 0 0 (tk_A E)) E 12 209 (tk_ct E M) 0 0 58 [some (.ref (E.1 + jN j)), some (.int (iI a)), some (.int (iI b)), some (.int (iI x)), some (.int (nI mb)), some (.int (nI mi)), some (.long (lN F)), none, some (.int (iI (fday mi - 1))), some (.int (nI d)), w10, w11] [] := by
          intro q
          induction q with
          | zero =>
            intro d w10 w11 hd h1 hn2
            obtain rfl : d = 32 := by omega
            refine v_iload cx (tk_dc d_J_firstJobDay 30 rfl) rfl ?_
            refine v_bipush cx (tk_dc d_J_firstJobDay 31 rfl) (31) (by decide) ?_
            refine v_icmp_gt cx (tk_dc d_J_firstJobDay 32 rfl) 153 (by decide) (fun _ => ?_) (fun h => absurd (by decide) h)
            refine v_iinc (lo' := [_, _, _, _, _, _, _, _, _, _, _, _]) cx (tk_dc d_J_firstJobDay 79 rfl) rfl (nI (mi + 1)) ((nI_succ mi).symm) (by decide) rfl ?_
            refine v_goto cx (tk_dc d_J_firstJobDay 80 rfl) 28 (by decide) ?_
            exact ih (mi + 1) _ _ _ _ _ _ (by omega) (by omega) (nog_le hn2 (by omega))
          | succ q ihq =>
            intro d w10 w11 hd h1 hn2
            refine v_iload cx (tk_dc d_J_firstJobDay 30 rfl) rfl ?_
            refine v_bipush cx (tk_dc d_J_firstJobDay 31 rfl) (31) (by decide) ?_
            refine v_icmp_gt cx (tk_dc d_J_firstJobDay 32 rfl) 153 (by decide) (fun h => absurd h (nI_nlt (a := 31) (by omega) (by decide))) (fun _ => ?_)
            refine v_lload cx (tk_dc d_J_firstJobDay 33 rfl) rfl ?_
            refine v_iload cx (tk_dc d_J_firstJobDay 34 rfl) rfl ?_
            refine v_lshr cx (tk_dc d_J_firstJobDay 35 rfl) ?_
            refine v_lconst cx (tk_dc d_J_firstJobDay 36 rfl) (0) (by decide) ?_
            refine v_lcmp cx (tk_dc d_J_firstJobDay 37 rfl) ?_
            refine v_if_eq cx (tk_dc d_J_firstJobDay 38 rfl) 153 (by decide) (fun h72 => ?_) (fun h72 => ?_)
            · have hz0 : F / 2 ^ d = 0 := (sL_zero (by omega) (by omega)).mp ((lgc0 _ _).mp h72)
              have hno : ∀ t, d ≤ t → F.testBit t = false := fun t ht => tb_small (by rcases Nat.lt_or_ge F (2 ^ d) with z | z; (exact z); exact absurd hz0 (by have := Nat.div_pos z (Nat.two_pow_pos d); omega)) ht
              have hnx : nog mv (z_fr M z h) (fitI ρ) a x (fday (mi + 1)) := nog_nf hn2 (fun f _ g2 g3 => by have e9 := hfit (f - fday mi + 1).toNat (by omega) (by omega); rw [show fday mi + ((f - fday mi + 1).toNat : Int) - 1 = f by omega] at e9; rw [e9]; exact hno _ (by omega))
              refine v_iinc (lo' := [_, _, _, _, _, _, _, _, _, _, _, _]) cx (tk_dc d_J_firstJobDay 79 rfl) rfl (nI (mi + 1)) ((nI_succ mi).symm) (by decide) rfl ?_
              refine v_goto cx (tk_dc d_J_firstJobDay 80 rfl) 28 (by decide) ?_
              exact ih (mi + 1) _ _ _ _ _ _ (by omega) (by omega) (hnx)
            · refine v_iload cx (tk_dc d_J_firstJobDay 39 rfl) rfl ?_
              refine v_iload cx (tk_dc d_J_firstJobDay 40 rfl) rfl ?_
              refine v_iadd cx (tk_dc d_J_firstJobDay 41 rfl) ?_
              refine v_eqi (iI (fday mi + d - 1)) (by rw [iI_nI, iI_add]; congr 1; omega) ?_
              refine v_istore (lo' := [_, _, _, _, _, _, _, _, _, _, _, _]) cx (tk_dc d_J_firstJobDay 42 rfl) (by decide) rfl ?_
              refine v_lload cx (tk_dc d_J_firstJobDay 43 rfl) rfl ?_
              refine v_iload cx (tk_dc d_J_firstJobDay 44 rfl) rfl ?_
              refine v_lshr cx (tk_dc d_J_firstJobDay 45 rfl) ?_
              refine v_lconst cx (tk_dc d_J_firstJobDay 46 rfl) (1) (by decide) ?_
              refine v_land cx (tk_dc d_J_firstJobDay 47 rfl) ?_
              refine v_lconst cx (tk_dc d_J_firstJobDay 48 rfl) (0) (by decide) ?_
              refine v_lcmp cx (tk_dc d_J_firstJobDay 49 rfl) ?_
              refine v_if_eq cx (tk_dc d_J_firstJobDay 50 rfl) 147 (by decide) (fun h91 => ?_) (fun h91 => ?_)
              · have hbit : F.testBit d = false := (sL_bit (by omega) (by omega)).mp ((lgc0 _ _).mp h91)
                have hnxt : nog mv (z_fr M z h) (fitI ρ) a x (fday mi + (min (d + 1 - 1) (mlen mi) : Nat)) := by
                  by_cases hl : d ≤ mlen mi
                  · rw [show fday mi + ((min (d + 1 - 1) (mlen mi) : Nat) : Int) = fday mi + d - 1 + 1 by omega]
                    refine nog_s (by rw [show fday mi + (d : Int) - 1 = fday mi + ((min (d - 1) (mlen mi) : Nat) : Int) by omega]; exact hn2) (fun _ g2 => ?_)
                    rw [hfit d h1 hl, hbit] at g2
                    cases g2
                  · rw [show min (d + 1 - 1) (mlen mi) = min (d - 1) (mlen mi) by omega]; exact hn2
                refine v_iinc (lo' := [_, _, _, _, _, _, _, _, _, _, _, _]) cx (tk_dc d_J_firstJobDay 77 rfl) rfl (nI (d + 1)) ((nI_succ d).symm) (by decide) rfl ?_
                refine v_goto cx (tk_dc d_J_firstJobDay 78 rfl) 58 (by decide) ?_
                exact ihq (d + 1) _ _ (by omega) (by omega) hnxt
              · have hbit : F.testBit d = true := by cases hv : F.testBit d with | true => rfl | false => exact absurd ((lgc0 _ _).mpr ((sL_bit (by omega) (by omega)).mpr hv)) h91
                have hl : d ≤ mlen mi := by rw [tF, Bool.and_eq_true] at hbit; exact (fitD_len hbit.2).2
                have hft : fitI ρ (fday mi + d - 1) = true := by rw [hfit d h1 hl]; exact hbit
                refine v_iload cx (tk_dc d_J_firstJobDay 51 rfl) rfl ?_
                refine v_iload_n cx (tk_dc d_J_firstJobDay 52 rfl) rfl ?_
                refine v_icmp_lt cx (tk_dc d_J_firstJobDay 53 rfl) 147 (by decide) (fun h97 => ?_) (fun h97 => ?_)
                · have hgo : x ≤ fday mi + d - 1 → fitI ρ (fday mi + d - 1) = true → ¬ (a ≤ mvd mv (z_fr M z h) (fday mi + d - 1) ∧ mvd mv (z_fr M z h) (fday mi + d - 1) ≤ fday mi + d - 1 + 20) := fun g1 _ => absurd ((iI_lt (by omega) (by omega) (by omega) (by omega)).mp h97) (by omega)
                  have hnxt : nog mv (z_fr M z h) (fitI ρ) a x (fday mi + (min (d + 1 - 1) (mlen mi) : Nat)) := by rw [show fday mi + ((min (d + 1 - 1) (mlen mi) : Nat) : Int) = fday mi + d - 1 + 1 by omega]; refine nog_s (by rw [show fday mi + (d : Int) - 1 = fday mi + ((min (d - 1) (mlen mi) : Nat) : Int) by omega]; exact hn2) hgo
                  refine v_iinc (lo' := [_, _, _, _, _, _, _, _, _, _, _, _]) cx (tk_dc d_J_firstJobDay 77 rfl) rfl (nI (d + 1)) ((nI_succ d).symm) (by decide) rfl ?_
                  refine v_goto cx (tk_dc d_J_firstJobDay 78 rfl) 58 (by decide) ?_
                  exact ihq (d + 1) _ _ (by omega) (by omega) hnxt
                · have hge : x ≤ fday mi + d - 1 := Int.not_lt.mp (fun w => h97 ((iI_lt (by omega) (by omega) (by omega) (by omega)).mpr w))
                  refine v_aload_n cx (tk_dc d_J_firstJobDay 54 rfl) rfl ?_
                  refine v_getI cx (tk_dc d_J_firstJobDay 55 rfl) f_J_30 (o_J (by assumption)) (by decide) (by rfl) ?_
                  refine v_if_eq cx (tk_dc d_J_firstJobDay 56 rfl) 124 (by decide) (fun h104 => ?_) (fun h104 => ?_)
                  · have hm0 : mv = false := b01_z (by rw [← hmv]; exact h104)
                    refine v_iload cx (tk_dc d_J_firstJobDay 65 rfl) rfl ?_
                    have hmd := mvd_ge mv (z_fr M z h) (fday mi + d - 1)
                    refine v_eqi (iI (mvd mv (z_fr M z h) (fday mi + d - 1))) (by rw [hm0]; rfl) ?_
                    refine v_istore (lo' := [_, _, _, _, _, _, _, _, _, _, _, _]) cx (tk_dc d_J_firstJobDay 66 rfl) (by decide) rfl ?_
                    refine v_iload cx (tk_dc d_J_firstJobDay 67 rfl) rfl ?_
                    refine v_iload_n cx (tk_dc d_J_firstJobDay 68 rfl) rfl ?_
                    refine v_icmp_lt cx (tk_dc d_J_firstJobDay 69 rfl) 147 (by decide) (fun h131 => ?_) (fun h131 => ?_)
                    · have hgo : x ≤ fday mi + d - 1 → fitI ρ (fday mi + d - 1) = true → ¬ (a ≤ mvd mv (z_fr M z h) (fday mi + d - 1) ∧ mvd mv (z_fr M z h) (fday mi + d - 1) ≤ fday mi + d - 1 + 20) := fun _ _ g => absurd ((iI_lt (by omega) (by omega) (by omega) (by omega)).mp h131) (by omega)
                      have hnxt : nog mv (z_fr M z h) (fitI ρ) a x (fday mi + (min (d + 1 - 1) (mlen mi) : Nat)) := by rw [show fday mi + ((min (d + 1 - 1) (mlen mi) : Nat) : Int) = fday mi + d - 1 + 1 by omega]; refine nog_s (by rw [show fday mi + (d : Int) - 1 = fday mi + ((min (d - 1) (mlen mi) : Nat) : Int) by omega]; exact hn2) hgo
                      refine v_iinc (lo' := [_, _, _, _, _, _, _, _, _, _, _, _]) cx (tk_dc d_J_firstJobDay 77 rfl) rfl (nI (d + 1)) ((nI_succ d).symm) (by decide) rfl ?_
                      refine v_goto cx (tk_dc d_J_firstJobDay 78 rfl) 58 (by decide) ?_
                      exact ihq (d + 1) _ _ (by omega) (by omega) hnxt
                    · have hfa : a ≤ mvd mv (z_fr M z h) (fday mi + d - 1) := Int.not_lt.mp (fun w => h131 ((iI_lt (by omega) (by omega) (by omega) (by omega)).mpr w))
                      refine v_iload cx (tk_dc d_J_firstJobDay 70 rfl) rfl ?_
                      refine v_iload cx (tk_dc d_J_firstJobDay 71 rfl) rfl ?_
                      refine v_bipush cx (tk_dc d_J_firstJobDay 72 rfl) (20) (by decide) ?_
                      refine v_iadd cx (tk_dc d_J_firstJobDay 73 rfl) ?_
                      refine v_eqi (iI (fday mi + d - 1 + 20)) (iI_add _ 20) ?_
                      refine v_icmp_gt cx (tk_dc d_J_firstJobDay 74 rfl) 147 (by decide) (fun h141 => ?_) (fun h141 => ?_)
                      · have hgo : x ≤ fday mi + d - 1 → fitI ρ (fday mi + d - 1) = true → ¬ (a ≤ mvd mv (z_fr M z h) (fday mi + d - 1) ∧ mvd mv (z_fr M z h) (fday mi + d - 1) ≤ fday mi + d - 1 + 20) := fun _ _ g => absurd ((iI_lt (by omega) (by omega) (by omega) (by omega)).mp h141) (by omega)
                        have hnxt : nog mv (z_fr M z h) (fitI ρ) a x (fday mi + (min (d + 1 - 1) (mlen mi) : Nat)) := by rw [show fday mi + ((min (d + 1 - 1) (mlen mi) : Nat) : Int) = fday mi + d - 1 + 1 by omega]; refine nog_s (by rw [show fday mi + (d : Int) - 1 = fday mi + ((min (d - 1) (mlen mi) : Nat) : Int) by omega]; exact hn2) hgo
                        refine v_iinc (lo' := [_, _, _, _, _, _, _, _, _, _, _, _]) cx (tk_dc d_J_firstJobDay 77 rfl) rfl (nI (d + 1)) ((nI_succ d).symm) (by decide) rfl ?_
                        refine v_goto cx (tk_dc d_J_firstJobDay 78 rfl) 58 (by decide) ?_
                        exact ihq (d + 1) _ _ (by omega) (by omega) hnxt
                      · have hfb : mvd mv (z_fr M z h) (fday mi + d - 1) ≤ fday mi + d - 1 + 20 := Int.not_lt.mp (fun w => h141 ((iI_lt (by omega) (by omega) (by omega) (by omega)).mpr w))
                        refine v_iload cx (tk_dc d_J_firstJobDay 75 rfl) rfl ?_
                        exact v_iretI cx hB (tk_dc d_J_firstJobDay 76 rfl) (⟨_, rfl, nog_found hx (e := fday mi + d - 1) (by rw [show fday mi + (d : Int) - 1 = fday mi + ((min (d - 1) (mlen mi) : Nat) : Int) by omega]; exact hn2) hft hfa hfb, by omega⟩) (rfl)
                  · have hm0 : mv = true := b01_nz (by rw [← hmv]; exact h104)
                    refine v_aload_n cx (tk_dc d_J_firstJobDay 57 rfl) rfl ?_
                    refine v_getR cx (tk_dc d_J_firstJobDay 58 rfl) f_J_43 (o_J (by assumption)) (by decide) (by rfl) (hzr) ?_
                    refine v_iload cx (tk_dc d_J_firstJobDay 59 rfl) rfl ?_
                    refine v_iload cx (tk_dc d_J_firstJobDay 60 rfl) rfl ?_
                    refine v_bipush cx (tk_dc d_J_firstJobDay 61 rfl) (20) (by decide) ?_
                    refine v_iadd cx (tk_dc d_J_firstJobDay 62 rfl) ?_
                    refine v_eqi (iI (fday mi + d - 1 + 20)) (iI_add _ 20) ?_
                    refine v_callV (rest := _) cx (tk_dc d_J_firstJobDay 63 rfl) m_J_65 kn_Z_workdayFrom kv_Z_workdayFrom k_Z_workdayFrom (o_Z hz) (by decide) rfl (c_Z_workdayFrom hz hh hhc (by omega) (by omega)) rfl rfl (Nat.le_of_ble_eq_true rfl) (by decide) ?_
                    refine v_goto cx (tk_dc d_J_firstJobDay 64 rfl) 126 (by decide) ?_
                    have hmd := mvd_ge mv (z_fr M z h) (fday mi + d - 1)
                    refine v_eqi (iI (mvd mv (z_fr M z h) (fday mi + d - 1))) (by rw [hm0]; rfl) ?_
                    refine v_istore (lo' := [_, _, _, _, _, _, _, _, _, _, _, _]) cx (tk_dc d_J_firstJobDay 66 rfl) (by decide) rfl ?_
                    refine v_iload cx (tk_dc d_J_firstJobDay 67 rfl) rfl ?_
                    refine v_iload_n cx (tk_dc d_J_firstJobDay 68 rfl) rfl ?_
                    refine v_icmp_lt cx (tk_dc d_J_firstJobDay 69 rfl) 147 (by decide) (fun h131 => ?_) (fun h131 => ?_)
                    · have hgo : x ≤ fday mi + d - 1 → fitI ρ (fday mi + d - 1) = true → ¬ (a ≤ mvd mv (z_fr M z h) (fday mi + d - 1) ∧ mvd mv (z_fr M z h) (fday mi + d - 1) ≤ fday mi + d - 1 + 20) := fun _ _ g => absurd ((iI_lt (by omega) (by omega) (by omega) (by omega)).mp h131) (by omega)
                      have hnxt : nog mv (z_fr M z h) (fitI ρ) a x (fday mi + (min (d + 1 - 1) (mlen mi) : Nat)) := by rw [show fday mi + ((min (d + 1 - 1) (mlen mi) : Nat) : Int) = fday mi + d - 1 + 1 by omega]; refine nog_s (by rw [show fday mi + (d : Int) - 1 = fday mi + ((min (d - 1) (mlen mi) : Nat) : Int) by omega]; exact hn2) hgo
                      refine v_iinc (lo' := [_, _, _, _, _, _, _, _, _, _, _, _]) cx (tk_dc d_J_firstJobDay 77 rfl) rfl (nI (d + 1)) ((nI_succ d).symm) (by decide) rfl ?_
                      refine v_goto cx (tk_dc d_J_firstJobDay 78 rfl) 58 (by decide) ?_
                      exact ihq (d + 1) _ _ (by omega) (by omega) hnxt
                    · have hfa : a ≤ mvd mv (z_fr M z h) (fday mi + d - 1) := Int.not_lt.mp (fun w => h131 ((iI_lt (by omega) (by omega) (by omega) (by omega)).mpr w))
                      refine v_iload cx (tk_dc d_J_firstJobDay 70 rfl) rfl ?_
                      refine v_iload cx (tk_dc d_J_firstJobDay 71 rfl) rfl ?_
                      refine v_bipush cx (tk_dc d_J_firstJobDay 72 rfl) (20) (by decide) ?_
                      refine v_iadd cx (tk_dc d_J_firstJobDay 73 rfl) ?_
                      refine v_eqi (iI (fday mi + d - 1 + 20)) (iI_add _ 20) ?_
                      refine v_icmp_gt cx (tk_dc d_J_firstJobDay 74 rfl) 147 (by decide) (fun h141 => ?_) (fun h141 => ?_)
                      · have hgo : x ≤ fday mi + d - 1 → fitI ρ (fday mi + d - 1) = true → ¬ (a ≤ mvd mv (z_fr M z h) (fday mi + d - 1) ∧ mvd mv (z_fr M z h) (fday mi + d - 1) ≤ fday mi + d - 1 + 20) := fun _ _ g => absurd ((iI_lt (by omega) (by omega) (by omega) (by omega)).mp h141) (by omega)
                        have hnxt : nog mv (z_fr M z h) (fitI ρ) a x (fday mi + (min (d + 1 - 1) (mlen mi) : Nat)) := by rw [show fday mi + ((min (d + 1 - 1) (mlen mi) : Nat) : Int) = fday mi + d - 1 + 1 by omega]; refine nog_s (by rw [show fday mi + (d : Int) - 1 = fday mi + ((min (d - 1) (mlen mi) : Nat) : Int) by omega]; exact hn2) hgo
                        refine v_iinc (lo' := [_, _, _, _, _, _, _, _, _, _, _, _]) cx (tk_dc d_J_firstJobDay 77 rfl) rfl (nI (d + 1)) ((nI_succ d).symm) (by decide) rfl ?_
                        refine v_goto cx (tk_dc d_J_firstJobDay 78 rfl) 58 (by decide) ?_
                        exact ihq (d + 1) _ _ (by omega) (by omega) hnxt
                      · have hfb : mvd mv (z_fr M z h) (fday mi + d - 1) ≤ fday mi + d - 1 + 20 := Int.not_lt.mp (fun w => h141 ((iI_lt (by omega) (by omega) (by omega) (by omega)).mpr w))
                        refine v_iload cx (tk_dc d_J_firstJobDay 75 rfl) rfl ?_
                        exact v_iretI cx hB (tk_dc d_J_firstJobDay 76 rfl) (⟨_, rfl, nog_found hx (e := fday mi + d - 1) (by rw [show fday mi + (d : Int) - 1 = fday mi + ((min (d - 1) (mlen mi) : Nat) : Int) by omega]; exact hn2) hft hfa hfb, by omega⟩) (rfl)
        refine v_iload cx (tk_dc d_J_firstJobDay 15 rfl) rfl ?_
        refine v_iload cx (tk_dc d_J_firstJobDay 16 rfl) rfl ?_
        refine v_icmp_gt cx (tk_dc d_J_firstJobDay 17 rfl) 159 (by decide) (fun h => absurd h (nI_nlt (by omega) (by omega))) (fun _ => ?_)
        refine v_aload_n cx (tk_dc d_J_firstJobDay 18 rfl) rfl ?_
        refine v_getC cx (jN _ + 1) (tk_dc d_J_firstJobDay 19 rfl) f_J_12 (o_J (by assumption)) (by decide) (by rfl) ?_
        refine v_iload cx (tk_dc d_J_firstJobDay 20 rfl) rfl ?_
        refine v_callV (rest := _) cx (tk_dc d_J_firstJobDay 21 rfl) m_J_58 kn_U_fittingDays kv_U_fittingDays k_U_fittingDays (o_J1 hj) (by decide) rfl (c_U_fittingDays hj (by omega)) rfl rfl (Nat.le_of_ble_eq_true rfl) (by decide) ?_
        refine v_eql (lN F) eF ?_
        refine v_lstore (lo' := [_, _, _, _, _, _, _, _, _, _, _, _]) cx (tk_dc d_J_firstJobDay 22 rfl) (by decide) rfl ?_
        refine v_iload cx (tk_dc d_J_firstJobDay 23 rfl) rfl ?_
        refine v_callS (rest := _) cx (tk_dc d_J_firstJobDay 24 rfl) m_J_62 ks_O_firstDayOf k_O_firstDayOf (c_O_firstDayOf (by omega)) rfl rfl (Nat.le_of_ble_eq_true rfl) (by decide) ?_
        refine v_iconst cx (tk_dc d_J_firstJobDay 25 rfl) (1) (by decide) ?_
        refine v_isub cx (tk_dc d_J_firstJobDay 26 rfl) ?_
        refine v_eqi (iI (fday mi - 1)) (iI_sub _ 1) ?_
        refine v_istore (lo' := [_, _, _, _, _, _, _, _, _, _, _, _]) cx (tk_dc d_J_firstJobDay 27 rfl) (by decide) rfl ?_
        refine v_iconst cx (tk_dc d_J_firstJobDay 28 rfl) (1) (by decide) ?_
        refine v_istore (lo' := [_, _, _, _, _, _, _, _, _, _, _, _]) cx (tk_dc d_J_firstJobDay 29 rfl) (by decide) rfl ?_
        exact inner 31 1 _ _ rfl (by omega) (nog_le hn (by omega))
  have main : tk_V p l e (tk_rm 2 0 0) s m args below meth c (MQ below (tk_QI E 209 (tk_ct E M) (fun x => ∃ r : Int, x = iI r ∧ FJD (j_jd M z h ρ mv) a b r ∧ r ≤ b + 60)) args s 0 0 (tk_A E)) E 12 209 (tk_ct E M) 0 0 15 [some (.ref (E.1 + jN j)), some (.int (iI a)), some (.int (iI b)), none, none, none, none, none, none, none, none, none] [.int (iI x)] := by
    refine v_istore_n (lo' := [_, _, _, _, _, _, _, _, _, _, _, _]) cx (tk_dc d_J_firstJobDay 8 rfl) (by decide) rfl ?_
    refine v_iload_n cx (tk_dc d_J_firstJobDay 9 rfl) rfl ?_
    refine v_eqi (iI (((b + 1461).toNat : Int) - 1461)) (by congr 1; omega) ?_
    refine v_callS (rest := _) cx (tk_dc d_J_firstJobDay 10 rfl) m_J_52 ks_O_monthOf k_O_monthOf (c_O_monthOf (by omega)) rfl rfl (Nat.le_of_ble_eq_true rfl) (by decide) ?_
    refine v_eqi (nI mb) (by rw [hmb]) ?_
    refine v_istore (lo' := [_, _, _, _, _, _, _, _, _, _, _, _]) cx (tk_dc d_J_firstJobDay 11 rfl) (by decide) rfl ?_
    refine v_iload_n cx (tk_dc d_J_firstJobDay 12 rfl) rfl ?_
    refine v_eqi (iI (((x + 1461).toNat : Int) - 1461)) (by congr 1; omega) ?_
    refine v_callS (rest := _) cx (tk_dc d_J_firstJobDay 13 rfl) m_J_52 ks_O_monthOf k_O_monthOf (c_O_monthOf (by omega)) rfl rfl (Nat.le_of_ble_eq_true rfl) (by decide) ?_
    refine v_eqi (nI ma) (by rw [hma]) ?_
    refine v_istore (lo' := [_, _, _, _, _, _, _, _, _, _, _, _]) cx (tk_dc d_J_firstJobDay 14 rfl) (by decide) rfl ?_
    exact outer (mb + 1) ma _ _ _ _ _ _ (by omega) (by omega) (fun f g1 g2 => by omega)
  refine v_aload_n cx (tk_dc d_J_firstJobDay 0 rfl) rfl ?_
  refine v_getI cx (tk_dc d_J_firstJobDay 1 rfl) f_J_30 (o_J (by assumption)) (by decide) (by rfl) ?_
  refine v_if_eq cx (tk_dc d_J_firstJobDay 2 rfl) 14 (by decide) (fun h4 => ?_) (fun h4 => ?_)
  · have hm0 : mv = false := b01_z (by rw [← hmv]; exact h4)
    have hxe : x = a := by rw [hx, hm0]; rfl
    rw [hxe] at main
    refine v_iload_n cx (tk_dc d_J_firstJobDay 7 rfl) rfl ?_
    exact main
  · have hm0 : mv = true := b01_nz (by rw [← hmv]; exact h4)
    have hxe : x = a - 20 := by rw [hx, hm0]; rfl
    rw [hxe] at main
    refine v_iload_n cx (tk_dc d_J_firstJobDay 3 rfl) rfl ?_
    refine v_bipush cx (tk_dc d_J_firstJobDay 4 rfl) (20) (by decide) ?_
    refine v_isub cx (tk_dc d_J_firstJobDay 5 rfl) ?_
    refine v_eqi (iI (a - 20)) (iI_sub a 20) ?_
    refine v_goto cx (tk_dc d_J_firstJobDay 6 rfl) 15 (by decide) ?_
    exact main
