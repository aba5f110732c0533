/-! the other side's dates -/
def ysN (k : Nat) : Nat := ([0, 366, 731, 1096, 1461] : List Nat).getD k 0
theorem ys_sN : ∀ k, k < 5 → tk_sN (12 * k) = ysN k := by decide
theorem leap_at : ∀ cy, cy < 26 → ∀ k, k < 4 → leapN (1996 + 4 * cy + k) = decide (k = 0) := by decide +kernel
theorem days_at : ∀ cy, cy < 26 → ∀ k, k < 4 → ∀ i, i < 12 → daysN (i + 1) (1996 + 4 * cy + k) = tk_sN (12 * k + i + 1) - tk_sN (12 * k + i) := by decide +kernel
theorem ys_len : ∀ k, k < 4 → ysN (k + 1) = ysN k + (if k = 0 then 366 else 365) := by decide
/-- the date's fields -/
def dt_w (M : tk_M) (y mo da ln : Nat) : tk_M := wI (wI (wI (wI M 172 39 (nI y)) 172 40 (nI mo)) 172 41 (nI da)) 172 42 (nI ln)
/-- y stands for the year, whatever it is -/
def dt_of (M M' : tk_M) (n : Nat) : Prop := ∃ y, M' = dt_w M y (mth n % 12 + 1) (n - (fday (mth n) + 1461).toNat + 1) (mlen (mth n))
def ykN (r : Nat) : Nat := if r < 366 then 0 else if r < 731 then 1 else if r < 1096 then 2 else 3
theorem yk_is {k r : Nat} (hk : k < 4) (h1 : ysN k ≤ r) (h2 : r < ysN (k + 1)) : ykN r = k := by
  unfold ykN
  rcases (show k = 0 ∨ k = 1 ∨ k = 2 ∨ k = 3 by omega) with rfl | rfl | rfl | rfl
  · rw [if_pos (show r < 366 from h2)]
  · rw [if_neg (Nat.not_lt.mpr (show 366 ≤ r from h1)), if_pos (show r < 731 from h2)]
  · rw [if_neg (by have : 731 ≤ r := h1; omega), if_neg (Nat.not_lt.mpr (show 731 ≤ r from h1)), if_pos (show r < 1096 from h2)]
  · rw [if_neg (by have : 1096 ≤ r := h1; omega), if_neg (by have : 1096 ≤ r := h1; omega), if_neg (Nat.not_lt.mpr (show 1096 ≤ r from h1))]
def dt_m (M : tk_M) (n : Nat) : tk_M := dt_w M (1996 + 4 * (n / 1461) + ykN (n % 1461)) (mth n % 12 + 1) (n - (fday (mth n) + 1461).toNat + 1) (mlen (mth n))
set_option maxHeartbeats 4000000 in
set_option maxRecDepth 100000 in
theorem c_M_dateOf {l : Launch} {E : tk_E} {M : tk_M} {d : Int} (h1 : -365 ≤ d) (h2 : d ≤ 36550) : tk_Mt l y_M_dateOf b_M_dateOf 4 none 2 E [.ref (E.1 + 172), .int (iI d)] M (dt_m M (d + 1461).toNat) none := by
  refine tk_ofV (by decide +kernel) [some (.ref (E.1 + 172)), some (.int (iI d)), none, none] rfl (Nat.le_of_ble_eq_true rfl) ?_
  intro p e s m args below meth c cx hB
  obtain ⟨n, hn⟩ : ∃ n, n = (d + 1461).toNat := ⟨_, rfl⟩
  rw [← hn]
  obtain ⟨cy, hcy⟩ : ∃ cy, cy = n / 1461 := ⟨_, rfl⟩
  obtain ⟨r, hr⟩ : ∃ r, r = n % 1461 := ⟨_, rfl⟩
  have hgood : cy < 26 ∨ (cy = 26 ∧ r < 31) := by omega
  have mon : ∀ k, k < 4 → ysN k ≤ r → r < ysN (k + 1) → (cy = 26 → k = 0) → ∀ (t i : Nat) (w3 : Option Value), i + t = 12 → tk_sN (12 * k + i) ≤ r → tk_V p l e (tk_rm 2 0 0) s m args below meth c (MQ below (tk_Q E 209 (tk_ct E (dt_m M n)) none) args s 0 0 (tk_A E)) E 4 209 (tk_ct E (wI (wI M 172 39 (nI (1996 + 4 * cy + k))) 172 40 (nI (i + 1)))) 0 0 131 [some (.ref (E.1 + 172)), some (.int (iI d)), some (.int (nI (r - tk_sN (12 * k + i)))), w3] [] := by
    intro k hk hk1 hk2 hk26 t
    have hys := ys_sN (k + 1) (by omega)
    induction t with
    | zero =>
      intro i w3 hi hs
      obtain rfl : i = 12 := by omega
      rw [show 12 * k + 12 = 12 * (k + 1) by omega, hys] at hs
      omega
    | succ t ih =>
      intro i w3 hi hs
      have hlt := tk_sN_lt (12 * k + i) (by omega)
      have hle := tk_sN_le (12 * k + i + 1) (by omega)
      obtain ⟨ln, hln⟩ : ∃ ln, ln = tk_sN (12 * k + i + 1) - tk_sN (12 * k + i) := ⟨_, rfl⟩
      have hdays : (cy = 26 → i = 0) → daysN (i + 1) (1996 + 4 * cy + k) = ln := fun hi0 => by
        rcases hgood with g | g
        · rw [hln]; exact days_at cy g k hk i (by omega)
        · obtain rfl : k = 0 := hk26 g.1
          obtain rfl : i = 0 := hi0 g.1
          rw [hln, g.1]
          decide
      have hi26 : cy = 26 → i = 0 := fun w => by
        have h0 := hk26 w
        subst h0
        rcases Nat.eq_zero_or_pos i with z | z
        · exact z
        · have : tk_sN 1 ≤ tk_sN (12 * 0 + i) := by
            have key : ∀ i, i < 12 → 1 ≤ i → tk_sN 1 ≤ tk_sN (12 * 0 + i) := by decide
            exact key i (by omega) z
          have e1 : tk_sN 1 = 31 := by decide
          omega
      refine v_iload_n cx (tk_dc d_M_dateOf 67 rfl) rfl ?_
      refine v_aload_n cx (tk_dc d_M_dateOf 68 rfl) rfl ?_
      refine v_getI cx (tk_dc d_M_dateOf 69 rfl) f_M_158 o_M (by decide) (by rfl) ?_
      refine v_eqi (nI (i + 1)) (by simp [wI]) ?_
      refine v_aload_n cx (tk_dc d_M_dateOf 70 rfl) rfl ?_
      refine v_getI cx (tk_dc d_M_dateOf 71 rfl) f_M_155 o_M (by decide) (by rfl) ?_
      refine v_eqi (nI (1996 + 4 * cy + k)) (by simp [wI]) ?_
      refine v_callS (rest := _) cx (tk_dc d_M_dateOf 72 rfl) m_M_161 ks_M_daysOf k_M_daysOf (c_M_daysOf (by omega) (by omega)) rfl rfl (Nat.le_of_ble_eq_true rfl) (by decide) ?_
      refine v_eqi (nI ln) (by rw [hdays hi26]) ?_
      refine v_icmp_lt cx (tk_dc d_M_dateOf 73 rfl) 173 (by decide) (fun h143 => ?_) (fun h143 => ?_)
      · have hx : r - tk_sN (12 * k + i) < ln := (nI_ltI (by omega) (by omega)).mp h143
        have hmm : mmr r = 12 * k + i := by
          have e9 := mmr_at (12 * k + i) (by omega) (r - tk_sN (12 * k + i)) (by omega) (by omega)
          rwa [show tk_sN (12 * k + i) + (r - tk_sN (12 * k + i)) = r by omega] at e9
        have hmth : mth n = cy * 48 + (12 * k + i) := by rw [mth_eq, ← hr, hmm, ← hcy]
        have hyk : ykN r = k := yk_is hk hk1 hk2
        have hfd : (fday (mth n) + 1461).toNat = cy * 1461 + tk_sN (12 * k + i) := by unfold fday; rw [hmth, show (cy * 48 + (12 * k + i)) / 48 = cy by omega, show (cy * 48 + (12 * k + i)) % 48 = 12 * k + i by omega]; omega
        have hml : mlen (mth n) = ln := by unfold mlen; rw [hmth, show (cy * 48 + (12 * k + i)) % 48 = 12 * k + i by omega, hln]
        have hm12 : mth n % 12 + 1 = i + 1 := by rw [hmth]; omega
        have hda : n - (fday (mth n) + 1461).toNat + 1 = r - tk_sN (12 * k + i) + 1 := by rw [hfd]; omega
        refine v_aload_n cx (tk_dc d_M_dateOf 89 rfl) rfl ?_
        refine v_iload_n cx (tk_dc d_M_dateOf 90 rfl) rfl ?_
        refine v_iconst cx (tk_dc d_M_dateOf 91 rfl) (1) (by decide) ?_
        refine v_iadd cx (tk_dc d_M_dateOf 92 rfl) ?_
        refine v_eqi (nI (r - tk_sN (12 * k + i) + 1)) (nI_succ _).symm ?_
        refine v_putI cx (tk_dc d_M_dateOf 93 rfl) f_M_164 o_M (by decide) (by rfl) ⟨rfl, rfl⟩ ?_
        refine v_aload_n cx (tk_dc d_M_dateOf 94 rfl) rfl ?_
        refine v_aload_n cx (tk_dc d_M_dateOf 95 rfl) rfl ?_
        refine v_getI cx (tk_dc d_M_dateOf 96 rfl) f_M_158 o_M (by decide) (by rfl) ?_
        refine v_eqi (nI (i + 1)) (by simp [wI]) ?_
        refine v_aload_n cx (tk_dc d_M_dateOf 97 rfl) rfl ?_
        refine v_getI cx (tk_dc d_M_dateOf 98 rfl) f_M_155 o_M (by decide) (by rfl) ?_
        refine v_eqi (nI (1996 + 4 * cy + k)) (by simp [wI]) ?_
        refine v_callS (rest := _) cx (tk_dc d_M_dateOf 99 rfl) m_M_161 ks_M_daysOf k_M_daysOf (c_M_daysOf (by omega) (by omega)) rfl rfl (Nat.le_of_ble_eq_true rfl) (by decide) ?_
        refine v_eqi (nI ln) (by rw [hdays hi26]) ?_
        refine v_putI cx (tk_dc d_M_dateOf 100 rfl) f_M_167 o_M (by decide) (by rfl) ⟨rfl, rfl⟩ ?_
        exact v_vret cx hB (tk_dc d_M_dateOf 101 rfl) (by unfold dt_m dt_w; rw [hda, hml, hm12, ← hcy, ← hr, hyk])
      · have hx : ln ≤ r - tk_sN (12 * k + i) := Nat.not_lt.mp (fun w => h143 (nI_lt w (by omega)))
        refine v_iload_n cx (tk_dc d_M_dateOf 74 rfl) rfl ?_
        refine v_aload_n cx (tk_dc d_M_dateOf 75 rfl) rfl ?_
        refine v_getI cx (tk_dc d_M_dateOf 76 rfl) f_M_158 o_M (by decide) (by rfl) ?_
        refine v_eqi (nI (i + 1)) (by simp [wI]) ?_
        refine v_aload_n cx (tk_dc d_M_dateOf 77 rfl) rfl ?_
        refine v_getI cx (tk_dc d_M_dateOf 78 rfl) f_M_155 o_M (by decide) (by rfl) ?_
        refine v_eqi (nI (1996 + 4 * cy + k)) (by simp [wI]) ?_
        refine v_callS (rest := _) cx (tk_dc d_M_dateOf 79 rfl) m_M_161 ks_M_daysOf k_M_daysOf (c_M_daysOf (by omega) (by omega)) rfl rfl (Nat.le_of_ble_eq_true rfl) (by decide) ?_
        refine v_eqi (nI ln) (by rw [hdays hi26]) ?_
        refine v_isub cx (tk_dc d_M_dateOf 80 rfl) ?_
        refine v_eqi (nI (r - tk_sN (12 * k + (i + 1)))) (by rw [pk_sub hx]; congr 1; rw [show 12 * k + (i + 1) = 12 * k + i + 1 by omega]; omega) ?_
        refine v_istore_n (lo' := [_, _, _, _]) cx (tk_dc d_M_dateOf 81 rfl) (by decide) rfl ?_
        refine v_aload_n cx (tk_dc d_M_dateOf 82 rfl) rfl ?_
        refine v_dup cx (tk_dc d_M_dateOf 83 rfl) rfl ?_
        refine v_getI cx (tk_dc d_M_dateOf 84 rfl) f_M_158 o_M (by decide) (by rfl) ?_
        refine v_eqi (nI (i + 1)) (by simp [wI]) ?_
        refine v_iconst cx (tk_dc d_M_dateOf 85 rfl) (1) (by decide) ?_
        refine v_iadd cx (tk_dc d_M_dateOf 86 rfl) ?_
        refine v_eqi (nI (i + 1 + 1)) (nI_succ _).symm ?_
        refine v_putI cx (tk_dc d_M_dateOf 87 rfl) f_M_158 o_M (by decide) (by rfl) ⟨rfl, rfl⟩ ?_
        rw [wI_wI]
        refine v_goto cx (tk_dc d_M_dateOf 88 rfl) 131 (by decide) ?_
        exact ih (i + 1) _ (by omega) (by rw [show 12 * k + (i + 1) = 12 * k + i + 1 by omega]; omega)
  have yrs : ∀ (t k : Nat) (w3 : Option Value), k + t = 3 → ysN k ≤ r → (cy = 26 → k = 0) → (cy = 0 → k = 3) → tk_V p l e (tk_rm 2 0 0) s m args below meth c (MQ below (tk_Q E 209 (tk_ct E (dt_m M n)) none) args s 0 0 (tk_A E)) E 4 209 (tk_ct E (wI M 172 39 (nI (1996 + 4 * cy + k)))) 0 0 13 [some (.ref (E.1 + 172)), some (.int (iI d)), some (.int (nI (r - ysN k))), w3] [] := by
    intro t
    induction t with
    | zero =>
      intro k w3 hk hs h26 h0
      obtain rfl : k = 3 := by omega
      have hlp : leapN (1996 + 4 * cy + 3) = false := by
        rcases hgood with g | g
        · exact leap_at cy g 3 (by omega)
        · exact absurd (h26 g.1) (by omega)
      have e3 : ysN 3 = 1096 := rfl
      refine v_iload_n cx (tk_dc d_M_dateOf 7 rfl) rfl ?_
      refine v_aload_n cx (tk_dc d_M_dateOf 8 rfl) rfl ?_
      refine v_getI cx (tk_dc d_M_dateOf 9 rfl) f_M_155 o_M (by decide) (by rfl) ?_
      refine v_eqi (nI (1996 + 4 * cy + 3)) (by simp [wI]) ?_
      refine v_callS (rest := _) cx (tk_dc d_M_dateOf 10 rfl) m_M_152 ks_M_isLeap k_M_isLeap (c_M_isLeap (by omega)) rfl rfl (Nat.le_of_ble_eq_true rfl) (by decide) ?_
      refine v_eqi (b01 false) (by rw [hlp]) ?_
      refine v_if_eq cx (tk_dc d_M_dateOf 11 rfl) 30 (by decide) (fun _ => ?_) (fun h => absurd (rfl) h)
      refine v_sipush cx (tk_dc d_M_dateOf 14 rfl) (365) (by decide) ?_
      refine v_icmp_lt cx (tk_dc d_M_dateOf 15 rfl) 126 (by decide) (fun _ => ?_) (fun h => absurd (show nI (r - ysN 3) < nI 365 from nI_lt (by omega) (by decide)) h)
      refine v_aload_n cx (tk_dc d_M_dateOf 64 rfl) rfl ?_
      refine v_iconst cx (tk_dc d_M_dateOf 65 rfl) (1) (by decide) ?_
      refine v_putI cx (tk_dc d_M_dateOf 66 rfl) f_M_158 o_M (by decide) (by rfl) ⟨rfl, rfl⟩ ?_
      have hm := mon 3 (by omega) hs (by have e4 : ysN (3 + 1) = 1461 := rfl; omega) h26 12 0 w3 (by omega) (by rw [Nat.add_zero, ys_sN 3 (by omega)]; exact hs)
      rw [show 12 * 3 + 0 = 12 * 3 from rfl, ys_sN 3 (by omega)] at hm
      exact hm
    | succ t ih =>
      intro k w3 hk hs h26 h0
      have hyl := ys_len k (by omega)
      have hc0 : cy ≠ 0 := fun w => by have := h0 w; omega
      cases hlp : leapN (1996 + 4 * cy + k) with
      | true =>
        have hk0 : k = 0 ∧ cy < 26 := by
          rcases hgood with g | g
          · rw [leap_at cy g k (by omega)] at hlp; exact ⟨of_decide_eq_true hlp, g⟩
          · have := h26 g.1; subst this; rw [g.1] at hlp; exact absurd hlp (by decide)
        rw [if_pos hk0.1] at hyl
        refine v_iload_n cx (tk_dc d_M_dateOf 7 rfl) rfl ?_
        refine v_aload_n cx (tk_dc d_M_dateOf 8 rfl) rfl ?_
        refine v_getI cx (tk_dc d_M_dateOf 9 rfl) f_M_155 o_M (by decide) (by rfl) ?_
        refine v_eqi (nI (1996 + 4 * cy + k)) (by simp [wI]) ?_
        refine v_callS (rest := _) cx (tk_dc d_M_dateOf 10 rfl) m_M_152 ks_M_isLeap k_M_isLeap (c_M_isLeap (by omega)) rfl rfl (Nat.le_of_ble_eq_true rfl) (by decide) ?_
        refine v_eqi (b01 true) (by rw [hlp]) ?_
        refine v_if_eq cx (tk_dc d_M_dateOf 11 rfl) 30 (by decide) (fun h => absurd h (by decide)) (fun _ => ?_)
        refine v_sipush cx (tk_dc d_M_dateOf 12 rfl) (366) (by decide) ?_
        refine v_goto cx (tk_dc d_M_dateOf 13 rfl) 33 (by decide) ?_
        refine v_icmp_lt cx (tk_dc d_M_dateOf 15 rfl) 126 (by decide) (fun h33 => ?_) (fun h33 => ?_)
        · have hx : r - ysN k < 366 := (nI_ltI (by omega) (by decide)).mp (show nI (r - ysN k) < nI 366 from h33)
          refine v_aload_n cx (tk_dc d_M_dateOf 64 rfl) rfl ?_
          refine v_iconst cx (tk_dc d_M_dateOf 65 rfl) (1) (by decide) ?_
          refine v_putI cx (tk_dc d_M_dateOf 66 rfl) f_M_158 o_M (by decide) (by rfl) ⟨rfl, rfl⟩ ?_
          have hm := mon k (by omega) hs (by omega) h26 12 0 w3 (by omega) (by rw [Nat.add_zero, ys_sN k (by omega)]; exact hs)
          rw [show 12 * k + 0 = 12 * k from rfl, ys_sN k (by omega)] at hm
          exact hm
        · have hx : 366 ≤ r - ysN k := Nat.not_lt.mp (fun w => h33 (show nI (r - ysN k) < nI 366 from nI_lt w (by decide)))
          refine v_iload_n cx (tk_dc d_M_dateOf 16 rfl) rfl ?_
          refine v_aload_n cx (tk_dc d_M_dateOf 17 rfl) rfl ?_
          refine v_getI cx (tk_dc d_M_dateOf 18 rfl) f_M_155 o_M (by decide) (by rfl) ?_
          refine v_eqi (nI (1996 + 4 * cy + k)) (by simp [wI]) ?_
          refine v_callS (rest := _) cx (tk_dc d_M_dateOf 19 rfl) m_M_152 ks_M_isLeap k_M_isLeap (c_M_isLeap (by omega)) rfl rfl (Nat.le_of_ble_eq_true rfl) (by decide) ?_
          refine v_eqi (b01 true) (by rw [hlp]) ?_
          refine v_if_eq cx (tk_dc d_M_dateOf 20 rfl) 53 (by decide) (fun h => absurd h (by decide)) (fun _ => ?_)
          refine v_sipush cx (tk_dc d_M_dateOf 21 rfl) (366) (by decide) ?_
          refine v_goto cx (tk_dc d_M_dateOf 22 rfl) 56 (by decide) ?_
          refine v_isub cx (tk_dc d_M_dateOf 24 rfl) ?_
          refine v_eqi (nI (r - ysN (k + 1))) (by rw [show (366 : Int32) = nI 366 from rfl, pk_sub hx]; congr 1; omega) ?_
          refine v_istore_n (lo' := [_, _, _, _]) cx (tk_dc d_M_dateOf 25 rfl) (by decide) rfl ?_
          refine v_aload_n cx (tk_dc d_M_dateOf 26 rfl) rfl ?_
          refine v_dup cx (tk_dc d_M_dateOf 27 rfl) rfl ?_
          refine v_getI cx (tk_dc d_M_dateOf 28 rfl) f_M_155 o_M (by decide) (by rfl) ?_
          refine v_eqi (nI (1996 + 4 * cy + k)) (by simp [wI]) ?_
          refine v_iconst cx (tk_dc d_M_dateOf 29 rfl) (1) (by decide) ?_
          refine v_iadd cx (tk_dc d_M_dateOf 30 rfl) ?_
          refine v_eqi (nI (1996 + 4 * cy + (k + 1))) (by rw [show (1 : Int32) = nI 1 from rfl, nI_add]; congr 1) ?_
          refine v_putI cx (tk_dc d_M_dateOf 31 rfl) f_M_155 o_M (by decide) (by rfl) ⟨rfl, rfl⟩ ?_
          rw [wI_wI]
          refine v_aload_n cx (tk_dc d_M_dateOf 32 rfl) rfl ?_
          refine v_getI cx (tk_dc d_M_dateOf 33 rfl) f_M_155 o_M (by decide) (by rfl) ?_
          refine v_eqi (nI (1996 + 4 * cy + (k + 1))) (by simp [wI]) ?_
          refine v_sipush cx (tk_dc d_M_dateOf 34 rfl) (2000) (by decide) ?_
          refine v_icmp_ne cx (tk_dc d_M_dateOf 35 rfl) 101 (by decide) (fun _ => ?_) (fun h => absurd h (fun w => absurd (nI_inj (by omega) (by decide) (show nI (1996 + 4 * cy + (k + 1)) = nI 2000 from w)) (by omega)))
          refine v_iconst cx (tk_dc d_M_dateOf 47 rfl) (0) (by decide) ?_
          refine v_istore_n (lo' := [_, _, _, _]) cx (tk_dc d_M_dateOf 48 rfl) (by decide) rfl ?_
          refine v_iload_n cx (tk_dc d_M_dateOf 49 rfl) rfl ?_
          refine v_sipush cx (tk_dc d_M_dateOf 50 rfl) (1461) (by decide) ?_
          refine v_iload_n cx (tk_dc d_M_dateOf 51 rfl) rfl ?_
          refine v_imul cx (tk_dc d_M_dateOf 52 rfl) ?_
          refine v_isub cx (tk_dc d_M_dateOf 53 rfl) ?_
          refine v_eqi (nI (r - ysN (k + 1))) (by rw [show (1461 : Int32) * 0 = nI 0 from rfl, pk_sub (Nat.zero_le _), Nat.sub_zero]) ?_
          refine v_istore_n (lo' := [_, _, _, _]) cx (tk_dc d_M_dateOf 54 rfl) (by decide) rfl ?_
          refine v_aload_n cx (tk_dc d_M_dateOf 55 rfl) rfl ?_
          refine v_dup cx (tk_dc d_M_dateOf 56 rfl) rfl ?_
          refine v_getI cx (tk_dc d_M_dateOf 57 rfl) f_M_155 o_M (by decide) (by rfl) ?_
          refine v_eqi (nI (1996 + 4 * cy + (k + 1))) (by simp [wI]) ?_
          refine v_iconst cx (tk_dc d_M_dateOf 58 rfl) (4) (by decide) ?_
          refine v_iload_n cx (tk_dc d_M_dateOf 59 rfl) rfl ?_
          refine v_imul cx (tk_dc d_M_dateOf 60 rfl) ?_
          refine v_iadd cx (tk_dc d_M_dateOf 61 rfl) ?_
          refine v_eqi (nI (1996 + 4 * cy + (k + 1))) (by rw [show (4 : Int32) * 0 = nI 0 from rfl, nI_add, Nat.add_zero]) ?_
          refine v_putI cx (tk_dc d_M_dateOf 62 rfl) f_M_155 o_M (by decide) (by rfl) ⟨rfl, rfl⟩ ?_
          rw [wI_wI]
          refine v_goto cx (tk_dc d_M_dateOf 63 rfl) 13 (by decide) ?_
          exact ih (k + 1) _ (by omega) (by omega) (fun w => by omega) (fun w => by omega)
      | false =>
        have hk0 : (k ≠ 0 ∧ cy < 26) ∨ (k = 0 ∧ cy = 26 ∧ r < 31) := by
          rcases hgood with g | g
          · rw [leap_at cy g k (by omega)] at hlp; exact Or.inl ⟨of_decide_eq_false hlp, g⟩
          · exact Or.inr ⟨h26 g.1, g⟩
        have hyl2 : (k ≠ 0 → ysN (k + 1) = ysN k + 365) ∧ ysN k + 365 ≤ ysN (k + 1) := by split at hyl <;> omega
        refine v_iload_n cx (tk_dc d_M_dateOf 7 rfl) rfl ?_
        refine v_aload_n cx (tk_dc d_M_dateOf 8 rfl) rfl ?_
        refine v_getI cx (tk_dc d_M_dateOf 9 rfl) f_M_155 o_M (by decide) (by rfl) ?_
        refine v_eqi (nI (1996 + 4 * cy + k)) (by simp [wI]) ?_
        refine v_callS (rest := _) cx (tk_dc d_M_dateOf 10 rfl) m_M_152 ks_M_isLeap k_M_isLeap (c_M_isLeap (by omega)) rfl rfl (Nat.le_of_ble_eq_true rfl) (by decide) ?_
        refine v_eqi (b01 false) (by rw [hlp]) ?_
        refine v_if_eq cx (tk_dc d_M_dateOf 11 rfl) 30 (by decide) (fun _ => ?_) (fun h => absurd (rfl) h)
        refine v_sipush cx (tk_dc d_M_dateOf 14 rfl) (365) (by decide) ?_
        refine v_icmp_lt cx (tk_dc d_M_dateOf 15 rfl) 126 (by decide) (fun h33 => ?_) (fun h33 => ?_)
        · have hx : r - ysN k < 365 := (nI_ltI (by omega) (by decide)).mp (show nI (r - ysN k) < nI 365 from h33)
          refine v_aload_n cx (tk_dc d_M_dateOf 64 rfl) rfl ?_
          refine v_iconst cx (tk_dc d_M_dateOf 65 rfl) (1) (by decide) ?_
          refine v_putI cx (tk_dc d_M_dateOf 66 rfl) f_M_158 o_M (by decide) (by rfl) ⟨rfl, rfl⟩ ?_
          have hm := mon k (by omega) hs (by omega) h26 12 0 w3 (by omega) (by rw [Nat.add_zero, ys_sN k (by omega)]; exact hs)
          rw [show 12 * k + 0 = 12 * k from rfl, ys_sN k (by omega)] at hm
          exact hm
        · have hx : 365 ≤ r - ysN k := Nat.not_lt.mp (fun w => h33 (show nI (r - ysN k) < nI 365 from nI_lt w (by decide)))
          refine v_iload_n cx (tk_dc d_M_dateOf 16 rfl) rfl ?_
          refine v_aload_n cx (tk_dc d_M_dateOf 17 rfl) rfl ?_
          refine v_getI cx (tk_dc d_M_dateOf 18 rfl) f_M_155 o_M (by decide) (by rfl) ?_
          refine v_eqi (nI (1996 + 4 * cy + k)) (by simp [wI]) ?_
          refine v_callS (rest := _) cx (tk_dc d_M_dateOf 19 rfl) m_M_152 ks_M_isLeap k_M_isLeap (c_M_isLeap (by omega)) rfl rfl (Nat.le_of_ble_eq_true rfl) (by decide) ?_
          refine v_eqi (b01 false) (by rw [hlp]) ?_
          refine v_if_eq cx (tk_dc d_M_dateOf 20 rfl) 53 (by decide) (fun _ => ?_) (fun h => absurd (rfl) h)
          refine v_sipush cx (tk_dc d_M_dateOf 23 rfl) (365) (by decide) ?_
          refine v_isub cx (tk_dc d_M_dateOf 24 rfl) ?_
          refine v_eqi (nI (r - ysN (k + 1))) (by rw [show (365 : Int32) = nI 365 from rfl, pk_sub hx]; congr 1; omega) ?_
          refine v_istore_n (lo' := [_, _, _, _]) cx (tk_dc d_M_dateOf 25 rfl) (by decide) rfl ?_
          refine v_aload_n cx (tk_dc d_M_dateOf 26 rfl) rfl ?_
          refine v_dup cx (tk_dc d_M_dateOf 27 rfl) rfl ?_
          refine v_getI cx (tk_dc d_M_dateOf 28 rfl) f_M_155 o_M (by decide) (by rfl) ?_
          refine v_eqi (nI (1996 + 4 * cy + k)) (by simp [wI]) ?_
          refine v_iconst cx (tk_dc d_M_dateOf 29 rfl) (1) (by decide) ?_
          refine v_iadd cx (tk_dc d_M_dateOf 30 rfl) ?_
          refine v_eqi (nI (1996 + 4 * cy + (k + 1))) (by rw [show (1 : Int32) = nI 1 from rfl, nI_add]; congr 1) ?_
          refine v_putI cx (tk_dc d_M_dateOf 31 rfl) f_M_155 o_M (by decide) (by rfl) ⟨rfl, rfl⟩ ?_
          rw [wI_wI]
          refine v_aload_n cx (tk_dc d_M_dateOf 32 rfl) rfl ?_
          refine v_getI cx (tk_dc d_M_dateOf 33 rfl) f_M_155 o_M (by decide) (by rfl) ?_
          refine v_eqi (nI (1996 + 4 * cy + (k + 1))) (by simp [wI]) ?_
          refine v_sipush cx (tk_dc d_M_dateOf 34 rfl) (2000) (by decide) ?_
          refine v_icmp_ne cx (tk_dc d_M_dateOf 35 rfl) 101 (by decide) (fun _ => ?_) (fun h => absurd h (fun w => absurd (nI_inj (by omega) (by decide) (show nI (1996 + 4 * cy + (k + 1)) = nI 2000 from w)) (by omega)))
          refine v_iconst cx (tk_dc d_M_dateOf 47 rfl) (0) (by decide) ?_
          refine v_istore_n (lo' := [_, _, _, _]) cx (tk_dc d_M_dateOf 48 rfl) (by decide) rfl ?_
          refine v_iload_n cx (tk_dc d_M_dateOf 49 rfl) rfl ?_
          refine v_sipush cx (tk_dc d_M_dateOf 50 rfl) (1461) (by decide) ?_
          refine v_iload_n cx (tk_dc d_M_dateOf 51 rfl) rfl ?_
          refine v_imul cx (tk_dc d_M_dateOf 52 rfl) ?_
          refine v_isub cx (tk_dc d_M_dateOf 53 rfl) ?_
          refine v_eqi (nI (r - ysN (k + 1))) (by rw [show (1461 : Int32) * 0 = nI 0 from rfl, pk_sub (Nat.zero_le _), Nat.sub_zero]) ?_
          refine v_istore_n (lo' := [_, _, _, _]) cx (tk_dc d_M_dateOf 54 rfl) (by decide) rfl ?_
          refine v_aload_n cx (tk_dc d_M_dateOf 55 rfl) rfl ?_
          refine v_dup cx (tk_dc d_M_dateOf 56 rfl) rfl ?_
          refine v_getI cx (tk_dc d_M_dateOf 57 rfl) f_M_155 o_M (by decide) (by rfl) ?_
          refine v_eqi (nI (1996 + 4 * cy + (k + 1))) (by simp [wI]) ?_
          refine v_iconst cx (tk_dc d_M_dateOf 58 rfl) (4) (by decide) ?_
          refine v_iload_n cx (tk_dc d_M_dateOf 59 rfl) rfl ?_
          refine v_imul cx (tk_dc d_M_dateOf 60 rfl) ?_
          refine v_iadd cx (tk_dc d_M_dateOf 61 rfl) ?_
          refine v_eqi (nI (1996 + 4 * cy + (k + 1))) (by rw [show (4 : Int32) * 0 = nI 0 from rfl, nI_add, Nat.add_zero]) ?_
          refine v_putI cx (tk_dc d_M_dateOf 62 rfl) f_M_155 o_M (by decide) (by rfl) ⟨rfl, rfl⟩ ?_
          rw [wI_wI]
          refine v_goto cx (tk_dc d_M_dateOf 63 rfl) 13 (by decide) ?_
          exact ih (k + 1) _ (by omega) (by omega) (fun w => by omega) (fun w => by omega)
  by_cases hd : d < 0
  · have h0 := yrs 0 3
    refine v_iload_n cx (tk_dc d_M_dateOf 0 rfl) rfl ?_
    refine v_sipush cx (tk_dc d_M_dateOf 1 rfl) (365) (by decide) ?_
    refine v_iadd cx (tk_dc d_M_dateOf 2 rfl) ?_
    refine v_eqi (nI (r - ysN 3)) (by rw [show (365 : Int32) = iI 365 from rfl, iI_add, iI_nI]; congr 1; have e3 : ysN 3 = 1096 := rfl; omega) ?_
    refine v_istore_n (lo' := [_, _, _, _]) cx (tk_dc d_M_dateOf 3 rfl) (by decide) rfl ?_
    refine v_aload_n cx (tk_dc d_M_dateOf 4 rfl) rfl ?_
    refine v_sipush cx (tk_dc d_M_dateOf 5 rfl) (1999) (by decide) ?_
    refine v_eqi (nI (1996 + 4 * cy + 3)) (by rw [show cy = 0 by omega]; rfl) ?_
    refine v_putI cx (tk_dc d_M_dateOf 6 rfl) f_M_155 o_M (by decide) (by rfl) ⟨rfl, rfl⟩ ?_
    exact yrs 0 3 _ rfl (by have e3 : ysN 3 = 1096 := rfl; omega) (fun w => by omega) (fun _ => rfl)
  · have hcd : (cy : Int) = d / 1461 + 1 := by omega
    have hrd : (r : Int) = d % 1461 := by omega
    refine v_iload_n cx (tk_dc d_M_dateOf 0 rfl) rfl ?_
    refine v_sipush cx (tk_dc d_M_dateOf 1 rfl) (365) (by decide) ?_
    refine v_iadd cx (tk_dc d_M_dateOf 2 rfl) ?_
    refine v_eqi (iI (d + 365)) (iI_add d 365) ?_
    refine v_istore_n (lo' := [_, _, _, _]) cx (tk_dc d_M_dateOf 3 rfl) (by decide) rfl ?_
    refine v_aload_n cx (tk_dc d_M_dateOf 4 rfl) rfl ?_
    refine v_sipush cx (tk_dc d_M_dateOf 5 rfl) (1999) (by decide) ?_
    refine v_eqi (nI 1999) rfl ?_
    refine v_putI cx (tk_dc d_M_dateOf 6 rfl) f_M_155 o_M (by decide) (by rfl) ⟨rfl, rfl⟩ ?_
    refine v_iload_n cx (tk_dc d_M_dateOf 7 rfl) rfl ?_
    refine v_aload_n cx (tk_dc d_M_dateOf 8 rfl) rfl ?_
    refine v_getI cx (tk_dc d_M_dateOf 9 rfl) f_M_155 o_M (by decide) (by rfl) ?_
    refine v_eqi (nI 1999) (by simp [wI]) ?_
    refine v_callS (rest := _) cx (tk_dc d_M_dateOf 10 rfl) m_M_152 ks_M_isLeap k_M_isLeap (c_M_isLeap (by omega)) rfl rfl (Nat.le_of_ble_eq_true rfl) (by decide) ?_
    refine v_eqi (b01 false) rfl ?_
    refine v_if_eq cx (tk_dc d_M_dateOf 11 rfl) 30 (by decide) (fun _ => ?_) (fun h => absurd (rfl) h)
    refine v_sipush cx (tk_dc d_M_dateOf 14 rfl) (365) (by decide) ?_
    refine v_icmp_lt cx (tk_dc d_M_dateOf 15 rfl) 126 (by decide) (fun h => absurd h (fun w => absurd ((iI_lt (b := 365) (by omega) (by omega) (by omega) (by omega)).mp w) (by omega))) (fun _ => ?_)
    refine v_iload_n cx (tk_dc d_M_dateOf 16 rfl) rfl ?_
    refine v_aload_n cx (tk_dc d_M_dateOf 17 rfl) rfl ?_
    refine v_getI cx (tk_dc d_M_dateOf 18 rfl) f_M_155 o_M (by decide) (by rfl) ?_
    refine v_eqi (nI 1999) (by simp [wI]) ?_
    refine v_callS (rest := _) cx (tk_dc d_M_dateOf 19 rfl) m_M_152 ks_M_isLeap k_M_isLeap (c_M_isLeap (by omega)) rfl rfl (Nat.le_of_ble_eq_true rfl) (by decide) ?_
    refine v_eqi (b01 false) rfl ?_
    refine v_if_eq cx (tk_dc d_M_dateOf 20 rfl) 53 (by decide) (fun _ => ?_) (fun h => absurd (rfl) h)
    refine v_sipush cx (tk_dc d_M_dateOf 23 rfl) (365) (by decide) ?_
    refine v_isub cx (tk_dc d_M_dateOf 24 rfl) ?_
    refine v_eqi (iI d) (by rw [show (365 : Int32) = iI 365 from rfl, iI_sub]; congr 1; omega) ?_
    refine v_istore_n (lo' := [_, _, _, _]) cx (tk_dc d_M_dateOf 25 rfl) (by decide) rfl ?_
    refine v_aload_n cx (tk_dc d_M_dateOf 26 rfl) rfl ?_
    refine v_dup cx (tk_dc d_M_dateOf 27 rfl) rfl ?_
    refine v_getI cx (tk_dc d_M_dateOf 28 rfl) f_M_155 o_M (by decide) (by rfl) ?_
    refine v_eqi (nI 1999) (by simp [wI]) ?_
    refine v_iconst cx (tk_dc d_M_dateOf 29 rfl) (1) (by decide) ?_
    refine v_iadd cx (tk_dc d_M_dateOf 30 rfl) ?_
    refine v_eqi (nI 2000) rfl ?_
    refine v_putI cx (tk_dc d_M_dateOf 31 rfl) f_M_155 o_M (by decide) (by rfl) ⟨rfl, rfl⟩ ?_
    rw [wI_wI]
    refine v_aload_n cx (tk_dc d_M_dateOf 32 rfl) rfl ?_
    refine v_getI cx (tk_dc d_M_dateOf 33 rfl) f_M_155 o_M (by decide) (by rfl) ?_
    refine v_eqi (nI 2000) (by simp [wI]) ?_
    refine v_sipush cx (tk_dc d_M_dateOf 34 rfl) (2000) (by decide) ?_
    refine v_icmp_ne cx (tk_dc d_M_dateOf 35 rfl) 101 (by decide) (fun h => absurd (rfl) h) (fun _ => ?_)
    refine v_iload_n cx (tk_dc d_M_dateOf 36 rfl) rfl ?_
    refine v_sipush cx (tk_dc d_M_dateOf 37 rfl) (1461) (by decide) ?_
    refine v_idiv cx (tk_dc d_M_dateOf 38 rfl) (by decide) ?_
    refine v_eqi (nI (cy - 1)) (by rw [show (1461 : Int32) = iI 1461 from rfl, iI_divN (by omega) (by omega) (by omega) (by omega), iI_nI]; congr 1; omega) ?_
    refine v_bipush cx (tk_dc d_M_dateOf 39 rfl) (25) (by decide) ?_
    refine v_icmp_ge cx (tk_dc d_M_dateOf 40 rfl) 96 (by decide) (fun h85 => ?_) (fun h85 => ?_)
    · have h25 : cy - 1 = 25 := by have := Nat.not_lt.mp (fun w => absurd (show nI 25 ≤ nI (cy - 1) from h85) (nI_ge w (by decide))); omega
      refine v_bipush cx (tk_dc d_M_dateOf 45 rfl) (25) (by decide) ?_
      refine v_eqi (nI (cy - 1)) (by rw [h25]; rfl) ?_
      refine v_goto cx (tk_dc d_M_dateOf 46 rfl) 102 (by decide) ?_
      refine v_istore_n (lo' := [_, _, _, _]) cx (tk_dc d_M_dateOf 48 rfl) (by decide) rfl ?_
      refine v_iload_n cx (tk_dc d_M_dateOf 49 rfl) rfl ?_
      refine v_sipush cx (tk_dc d_M_dateOf 50 rfl) (1461) (by decide) ?_
      refine v_iload_n cx (tk_dc d_M_dateOf 51 rfl) rfl ?_
      refine v_imul cx (tk_dc d_M_dateOf 52 rfl) ?_
      refine v_isub cx (tk_dc d_M_dateOf 53 rfl) ?_
      refine v_eqi (nI (r - ysN 0)) (by rw [show (1461 : Int32) = iI 1461 from rfl, iI_nI, iI_mul, iI_sub, iI_nI]; congr 1; have e0 : ysN 0 = 0 := rfl; omega) ?_
      refine v_istore_n (lo' := [_, _, _, _]) cx (tk_dc d_M_dateOf 54 rfl) (by decide) rfl ?_
      refine v_aload_n cx (tk_dc d_M_dateOf 55 rfl) rfl ?_
      refine v_dup cx (tk_dc d_M_dateOf 56 rfl) rfl ?_
      refine v_getI cx (tk_dc d_M_dateOf 57 rfl) f_M_155 o_M (by decide) (by rfl) ?_
      refine v_eqi (nI 2000) (by simp [wI]) ?_
      refine v_iconst cx (tk_dc d_M_dateOf 58 rfl) (4) (by decide) ?_
      refine v_iload_n cx (tk_dc d_M_dateOf 59 rfl) rfl ?_
      refine v_imul cx (tk_dc d_M_dateOf 60 rfl) ?_
      refine v_iadd cx (tk_dc d_M_dateOf 61 rfl) ?_
      refine v_eqi (nI (1996 + 4 * cy + 0)) (by rw [show (4 : Int32) = nI 4 from rfl, pk_mul, nI_add]; congr 1; omega) ?_
      refine v_putI cx (tk_dc d_M_dateOf 62 rfl) f_M_155 o_M (by decide) (by rfl) ⟨rfl, rfl⟩ ?_
      rw [wI_wI]
      refine v_goto cx (tk_dc d_M_dateOf 63 rfl) 13 (by decide) ?_
      exact yrs 3 0 _ rfl (by have e0 : ysN 0 = 0 := rfl; omega) (fun _ => rfl) (fun w => by omega)
    · have h25 : True := trivial
      refine v_iload_n cx (tk_dc d_M_dateOf 41 rfl) rfl ?_
      refine v_sipush cx (tk_dc d_M_dateOf 42 rfl) (1461) (by decide) ?_
      refine v_idiv cx (tk_dc d_M_dateOf 43 rfl) (by decide) ?_
      refine v_eqi (nI (cy - 1)) (by rw [show (1461 : Int32) = iI 1461 from rfl, iI_divN (by omega) (by omega) (by omega) (by omega), iI_nI]; congr 1; omega) ?_
      refine v_goto cx (tk_dc d_M_dateOf 44 rfl) 102 (by decide) ?_
      refine v_istore_n (lo' := [_, _, _, _]) cx (tk_dc d_M_dateOf 48 rfl) (by decide) rfl ?_
      refine v_iload_n cx (tk_dc d_M_dateOf 49 rfl) rfl ?_
      refine v_sipush cx (tk_dc d_M_dateOf 50 rfl) (1461) (by decide) ?_
      refine v_iload_n cx (tk_dc d_M_dateOf 51 rfl) rfl ?_
      refine v_imul cx (tk_dc d_M_dateOf 52 rfl) ?_
      refine v_isub cx (tk_dc d_M_dateOf 53 rfl) ?_
      refine v_eqi (nI (r - ysN 0)) (by rw [show (1461 : Int32) = iI 1461 from rfl, iI_nI, iI_mul, iI_sub, iI_nI]; congr 1; have e0 : ysN 0 = 0 := rfl; omega) ?_
      refine v_istore_n (lo' := [_, _, _, _]) cx (tk_dc d_M_dateOf 54 rfl) (by decide) rfl ?_
      refine v_aload_n cx (tk_dc d_M_dateOf 55 rfl) rfl ?_
      refine v_dup cx (tk_dc d_M_dateOf 56 rfl) rfl ?_
      refine v_getI cx (tk_dc d_M_dateOf 57 rfl) f_M_155 o_M (by decide) (by rfl) ?_
      refine v_eqi (nI 2000) (by simp [wI]) ?_
      refine v_iconst cx (tk_dc d_M_dateOf 58 rfl) (4) (by decide) ?_
      refine v_iload_n cx (tk_dc d_M_dateOf 59 rfl) rfl ?_
      refine v_imul cx (tk_dc d_M_dateOf 60 rfl) ?_
      refine v_iadd cx (tk_dc d_M_dateOf 61 rfl) ?_
      refine v_eqi (nI (1996 + 4 * cy + 0)) (by rw [show (4 : Int32) = nI 4 from rfl, pk_mul, nI_add]; congr 1; omega) ?_
      refine v_putI cx (tk_dc d_M_dateOf 62 rfl) f_M_155 o_M (by decide) (by rfl) ⟨rfl, rfl⟩ ?_
      rw [wI_wI]
      refine v_goto cx (tk_dc d_M_dateOf 63 rfl) 13 (by decide) ?_
      exact yrs 3 0 _ rfl (by have e0 : ysN 0 = 0 := rfl; omega) (fun _ => rfl) (fun w => by omega)
