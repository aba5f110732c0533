/-! which days fit: the bits of fittingDays -/
def dB (dd len d : Nat) : Bool := dd.testBit d || (dd.testBit 0 && decide (d = len))
def nB (np len d : Nat) : Bool := decide (np = 0) || (if np = 6 then decide (len < d + 7) else decide ((d + 6) / 7 = np))
def fitD (dd ww nd np len f d : Nat) : Bool := decide (1 ≤ d) && (decide (d ≤ len) && (dB dd len d && (nB np len d && (ww.testBit ((d - 1 + f) % 7) && (decide (np = 0) || decide ((d - 1 + f) % 7 = nd))))))
def rotN (w f : Nat) : Nat := ((w >>> f) ||| (w <<< (7 - f))) % 128
theorem u_rot_eq : ∀ w, w < 128 → ∀ f, f < 7 → u_rot (nI w) (nI f) = nI (rotN w f) := by decide +kernel
theorem rot_bit : ∀ w, w < 128 → ∀ f, f < 7 → ∀ t, t < 7 → (rotN w f).testBit t = w.testBit ((t + f) % 7) := by decide +kernel
theorem five_bit : ∀ r, r < 128 → ∀ d, d < 36 → (r * 270549121 * 2).testBit d = (decide (1 ≤ d) && r.testBit ((d - 1) % 7)) := by decide +kernel
theorem wk_eq : ∀ w, w < 128 → ∀ q, q < 7 → nI w &&& (1 <<< (nI q &&& 31)) = nI (if w.testBit q = true then 2 ^ q else 0) := by decide +kernel
theorem wk_bit : ∀ w, w < 128 → ∀ q, q < 7 → ∀ t, t < 7 → (if w.testBit q = true then 2 ^ q else 0 : Nat).testBit t = (w.testBit t && decide (t = q)) := by decide +kernel
theorem pw_small : ∀ q, q < 7 → 2 ^ q < 128 := by decide
theorem mlen_in (n : Nat) : 28 ≤ mlen n ∧ mlen n ≤ 31 := by
  have h := tk_sN_lt (n % 48) (by omega)
  unfold mlen
  omega
theorem mask_bit : ∀ n, n < 32 → ∀ d, (2 ^ (n + 1) - 2).testBit d = (decide (1 ≤ d) && decide (d ≤ n)) := by
  intro n hn d
  rw [show 2 ^ (n + 1) - 2 = 2 ^ 1 * (2 ^ n - 1) by rw [Nat.pow_succ]; omega, Nat.testBit_two_pow_mul, Nat.testBit_two_pow_sub_one]
  by_cases h1 : 1 ≤ d
  · simp [h1]
    omega
  · simp [h1]
theorem u_f1_eq {dd n : Nat} (hd : dd < 2 ^ 32) (hn : n < 32) : u_f1 (lN dd) (nI n) = lN (dd &&& (2 ^ (n + 1) - 2)) := by
  unfold u_f1
  have hp : 2 ^ (n + 1) ≤ 2 ^ 32 := Nat.pow_le_pow_right (by decide) (by omega)
  have h2 : 2 ≤ 2 ^ (n + 1) := by
    have := Nat.pow_le_pow_right (n := 2) (by decide) (show 1 ≤ n + 1 by omega)
    simpa using this
  rw [show (1 : Int32) = nI 1 from rfl, nI_add, show (1 : Int64) = lN 1 from rfl, wb_shl 1 (by omega), Nat.one_mul, show (2 : Int64) = lN 2 from rfl, lN_sub h2, wb_and (by omega) (by omega)]
theorem u_f2_eq {dd n : Nat} (hd : dd < 2 ^ 32) (hn : n < 32) : ∃ F, u_f2 (lN dd) (nI n) = lN F ∧ F < 2 ^ 32 ∧ ∀ d, F.testBit d = ((decide (1 ≤ d) && decide (d ≤ n) && dd.testBit d) || (dd.testBit 0 && decide (d = n))) := by
  unfold u_f2
  have h1 : dd &&& (2 ^ (n + 1) - 2) < 2 ^ 32 := Nat.lt_of_le_of_lt Nat.and_le_left hd
  have e0 : (lN dd &&& 1 = 0) ↔ dd.testBit 0 = false := by
    rw [wb_a1 (by omega), show (0 : Int64) = lN 0 from rfl, pk_lEQ (by omega) (by decide), Nat.testBit_zero]
    simp
  have hb : ∀ d, (dd &&& (2 ^ (n + 1) - 2)).testBit d = (decide (1 ≤ d) && decide (d ≤ n) && dd.testBit d) := by
    intro d
    rw [Nat.testBit_and, mask_bit n hn, Bool.and_comm]
  by_cases c : dd.testBit 0 = false
  · rw [if_pos (e0.mpr c), u_f1_eq hd hn]
    refine ⟨_, rfl, h1, fun d => ?_⟩
    rw [hb, c]
    simp
  · rw [if_neg (fun z => c (e0.mp z)), u_f1_eq hd hn, show (1 : Int64) = lN 1 from rfl, wb_shl 1 (by omega), Nat.one_mul]
    have h2 : 2 ^ n < 2 ^ 32 := Nat.pow_lt_pow_right (by decide) hn
    rw [wb_or (by omega) (by omega)]
    refine ⟨_, rfl, Nat.or_lt_two_pow h1 h2, fun d => ?_⟩
    rw [Nat.testBit_or, hb, Nat.testBit_two_pow]
    have : dd.testBit 0 = true := by simpa using c
    rw [this]
    by_cases h : n = d
    · simp [h]
    · simp [h, Ne.symm h]
def fdN (np n : Nat) : Nat := if np = 6 then n - 6 else 7 * np - 6
theorem u_nw_eq {np n : Nat} (h0 : 0 < np) (h6 : np ≤ 6) (hn : 28 ≤ n) (hn2 : n ≤ 31) : u_nw (nI np) (nI n) = lN (127 * 2 ^ fdN np n) := by
  unfold u_nw fdN
  by_cases c : np = 6
  · subst c
    rw [if_pos (show nI 6 = 6 from rfl), if_pos rfl, show (6 : Int32) = nI 6 from rfl, pk_sub (by omega), show (127 : Int64) = lN 127 from rfl, wb_shl 127 (by omega)]
  · rw [if_neg (show ¬ nI np = 6 from fun z => c (nI_inj (b := 6) (by omega) (by omega) z)), if_neg c, show (6 : Int32) = nI 6 from rfl, show (7 : Int32) = nI 7 from rfl, pk_mul, pk_sub (by omega), show (127 : Int64) = lN 127 from rfl, wb_shl 127 (by omega)]
theorem nw_bit (f d : Nat) : (127 * 2 ^ f).testBit d = (decide (f ≤ d) && decide (d < f + 7)) := by
  rw [Nat.mul_comm, Nat.testBit_two_pow_mul, show 127 = 2 ^ 7 - 1 by decide, Nat.testBit_two_pow_sub_one]
  by_cases h : f ≤ d
  · simp [h]
    omega
  · simp [h]
/-- what fittingDays answers -/
theorem u_fit_spec {M : tk_M} {i n dd mo ww nd np : Nat} (h1 : M.2.1 i 2 = lN dd) (h2 : M.1 i 3 = nI mo) (h3 : M.1 i 4 = nI ww) (h4 : M.1 i 5 = nI nd) (h5 : M.1 i 6 = nI np) (hd : dd < 2 ^ 32) (hm : mo < 2 ^ 13) (hw : ww < 128) (hnd : nd < 7) (hnp : np ≤ 6) :
    ∃ F, u_fit M i n = lN F ∧ F < 2 ^ 32 ∧ ∀ d, F.testBit d = (mo.testBit (n % 12 + 1) && fitD dd ww nd np (mlen n) ((fday n + 1461) % 7).toNat d) := by
  obtain ⟨l1, l2⟩ := mlen_in n
  have ef : iI ((fday n + 1461) % 7) = nI ((fday n + 1461) % 7).toNat := by
    rw [iI_nI]; congr 1; omega
  have hf7 : ((fday n + 1461) % 7).toNat < 7 := by omega
  generalize ((fday n + 1461) % 7).toNat = f at ef hf7 ⊢
  unfold u_fit
  rw [h1, h2, h3, h4, h5, ef]
  have eb : (nI mo >>> (nI (n % 12 + 1) &&& 31)) &&& 1 = 0 ↔ mo.testBit (n % 12 + 1) = false := sI_bit (by omega) (by omega)
  by_cases c : mo.testBit (n % 12 + 1) = false
  · rw [if_pos (eb.mpr c)]
    exact ⟨0, rfl, by decide, fun d => by rw [c]; simp⟩
  · rw [if_neg (fun z => c (eb.mp z)), show mo.testBit (n % 12 + 1) = true by simpa using c]
    obtain ⟨F2, e2, b2, t2⟩ := u_f2_eq (dd := dd) (n := mlen n) hd (by omega)
    obtain ⟨W, eW, bW, tW⟩ : ∃ W, u_wk (nI ww) (nI np) (nI nd) = nI W ∧ W < 128 ∧ ∀ t, t < 7 → W.testBit t = (ww.testBit t && (decide (np = 0) || decide (t = nd))) := by
      unfold u_wk
      by_cases c0 : np = 0
      · subst c0
        exact ⟨ww, by rw [if_pos (show nI 0 = 0 from rfl)], hw, fun t ht => by simp⟩
      · rw [if_neg (show ¬ nI np = 0 from fun z => c0 (nI_inj (b := 0) (by omega) (by omega) z)), wk_eq ww hw nd hnd]
        refine ⟨_, rfl, by have := pw_small nd hnd; split <;> omega, fun t ht => ?_⟩
        rw [wk_bit ww hw nd hnd t ht]
        simp [c0]
    obtain ⟨F3, e3, b3, t3⟩ : ∃ F3, u_f3 (lN dd) (nI np) (nI (mlen n)) = lN F3 ∧ F3 < 2 ^ 32 ∧ ∀ d, F3.testBit d = (F2.testBit d && (decide (np = 0) || (decide (fdN np (mlen n) ≤ d) && decide (d < fdN np (mlen n) + 7)))) := by
      unfold u_f3
      by_cases c0 : np = 0
      · subst c0
        exact ⟨F2, by rw [if_pos (show nI 0 = 0 from rfl), e2], b2, fun d => by simp⟩
      · rw [if_neg (show ¬ nI np = 0 from fun z => c0 (nI_inj (b := 0) (by omega) (by omega) z)), e2, u_nw_eq (by omega) hnp l1 l2]
        have hfd : fdN np (mlen n) ≤ 29 := by unfold fdN; split <;> omega
        have hpw : 2 ^ fdN np (mlen n) ≤ 2 ^ 29 := Nat.pow_le_pow_right (by decide) hfd
        rw [wb_and (by omega) (by omega)]
        refine ⟨_, rfl, Nat.lt_of_le_of_lt Nat.and_le_left b2, fun d => ?_⟩
        rw [Nat.testBit_and, nw_bit]
        simp [c0]
    rw [eW, e3, u_rot_eq W bW f hf7]
    have hr : rotN W f < 128 := Nat.mod_lt _ (by decide)
    rw [nI_l (by omega), show (270549121 : Int64) = lN 270549121 from rfl, lN_mul, show (1 : Int32) = nI 1 from rfl, wb_shl _ (by decide), wb_and (by omega) (by omega)]
    refine ⟨_, rfl, Nat.lt_of_le_of_lt Nat.and_le_left b3, fun d => ?_⟩
    rw [Nat.testBit_and, t3, t2]
    unfold fitD
    by_cases hl : 1 ≤ d ∧ d ≤ mlen n
    · have h36 : d < 36 := by omega
      have hm7 : (d - 1) % 7 < 7 := Nat.mod_lt _ (by decide)
      have e9 : ((d - 1) % 7 + f) % 7 = (d - 1 + f) % 7 := by omega
      rw [show 2 ^ 1 = 2 from rfl, five_bit _ hr d h36, rot_bit W bW f hf7 _ hm7, e9, tW _ (Nat.mod_lt _ (by decide))]
      have hnB : (decide (np = 0) || (decide (fdN np (mlen n) ≤ d) && decide (d < fdN np (mlen n) + 7))) = nB np (mlen n) d := by
        unfold nB fdN
        by_cases c0 : np = 0
        · simp [c0]
        · by_cases c6 : np = 6
          · simp only [c0, c6, decide_false, Bool.false_or, if_true, ← Bool.decide_and]
            congr 1
            exact decide_eq_decide.mpr (by omega)
          · simp only [c0, c6, decide_false, Bool.false_or, if_false, ← Bool.decide_and]
            congr 1
            apply propext
            omega
      rw [hnB]
      unfold dB
      simp [hl.1, hl.2, Bool.and_assoc]
    · have hz : (decide (1 ≤ d) && decide (d ≤ mlen n)) = false := by
        rw [← Bool.decide_and, decide_eq_false hl]
      have hne : decide (d = mlen n) = false := decide_eq_false (fun z => hl ⟨by omega, by omega⟩)
      rw [hz, hne]
      have h9 : (decide (1 ≤ d) && (decide (d ≤ mlen n) && (dB dd (mlen n) d && (nB np (mlen n) d && (ww.testBit ((d - 1 + f) % 7) && (decide (np = 0) || decide ((d - 1 + f) % 7 = nd))))))) = false := by
        rw [← Bool.and_assoc, hz, Bool.false_and]
      rw [h9]
      simp
