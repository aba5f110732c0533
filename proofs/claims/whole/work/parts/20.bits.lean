/-! bits: rows of the kit (BITS.to-paste), and mine -/
theorem s_l : ∀ n, n < 32 → ((nI n &&& 31).toBitVec.smod 32).toNat = n := by decide +kernel
theorem wb_tb (n : Nat) : (lN n).toBitVec = BitVec.ofNat 64 n := rfl
theorem wb_inj {a b : Int64} (h : a.toBitVec = b.toBitVec) : a = b := Int64.toBitVec_inj.mp h
theorem wb_tn {n : Nat} (h : n < 2 ^ 64) : (lN n).toBitVec.toNat = n := by rw [wb_tb, BitVec.toNat_ofNat, Nat.mod_eq_of_lt h]
theorem wb_of (x : Int64) : ∃ n, n < 2 ^ 64 ∧ x = lN n := ⟨x.toBitVec.toNat, x.toBitVec.isLt, wb_inj (by rw [wb_tb]; simp)⟩
theorem wb_of32 (x : Int32) : ∃ n, n < 2 ^ 32 ∧ x = nI n := ⟨x.toBitVec.toNat, x.toBitVec.isLt, Int32.toBitVec_inj.mp (by show _ = BitVec.ofNat 32 _; simp)⟩
theorem wb_c : ∀ k, k < 64 → ((nI k).toInt64 &&& 63) = lN k := by decide +kernel
theorem wb_cu : ∀ k, k < 64 → ((nI k).toInt64.toUInt64 &&& Int64.toUInt64 63) = UInt64.ofNat k := by decide +kernel
theorem wb_sm : ∀ k, k < 64 → (BitVec.ofNat 64 k).smod 64 = BitVec.ofNat 64 k := by decide +kernel
theorem wb_pw {a b : Nat} (h : a ≤ b) : 2 ^ b = 2 ^ a * 2 ^ (b - a) := by rw [← Nat.pow_add]; congr 1; omega
theorem wb_lt2 {a b : Nat} (h : a < b) : 2 ^ a < 2 ^ b := Nat.pow_lt_pow_right (by decide) h
theorem wb_mod (n : Nat) : lN n = lN (n % 2 ^ 64) := wb_inj (by rw [wb_tb, wb_tb]; apply BitVec.eq_of_toNat_eq; rw [BitVec.toNat_ofNat, BitVec.toNat_ofNat, Nat.mod_mod])
theorem wb_shr {n k : Nat} (hn : n < 2 ^ 64) (hk : k < 64) : ((lN n).toUInt64 >>> ((nI k).toInt64.toUInt64 &&& Int64.toUInt64 63)).toInt64 = lN (n / 2 ^ k) := by
  rw [wb_cu k hk]
  apply wb_inj
  apply BitVec.eq_of_toNat_eq
  show ((lN n).toUInt64 >>> UInt64.ofNat k).toNat = (BitVec.ofNat 64 _).toNat
  have h1 : (UInt64.ofNat k).toNat = k := by
    show (BitVec.ofNat 64 k).toNat = k
    rw [BitVec.toNat_ofNat, Nat.mod_eq_of_lt (by omega)]
  have h2 : (lN n).toUInt64.toNat = n := wb_tn hn
  rw [UInt64.toNat_shiftRight, h1, h2, Nat.mod_eq_of_lt hk, Nat.shiftRight_eq_div_pow, BitVec.toNat_ofNat, Nat.mod_eq_of_lt (Nat.lt_of_le_of_lt (Nat.div_le_self _ _) hn)]
theorem wb_shl (n : Nat) {k : Nat} (hk : k < 64) : lN n <<< ((nI k).toInt64 &&& 63) = lN (n * 2 ^ k) := by
  rw [wb_c k hk]
  apply wb_inj
  rw [Int64.toBitVec_shiftLeft, wb_tb, wb_tb, wb_tb, wb_sm k hk]
  apply BitVec.eq_of_toNat_eq
  rw [BitVec.shiftLeft_eq', BitVec.toNat_shiftLeft, BitVec.toNat_ofNat, BitVec.toNat_ofNat, BitVec.toNat_ofNat, Nat.mod_eq_of_lt (show k < 2 ^ 64 by omega), Nat.shiftLeft_eq, Nat.mul_mod, Nat.mod_mod, ← Nat.mul_mod]
theorem wb_and {a b : Nat} (ha : a < 2 ^ 64) (hb : b < 2 ^ 64) : lN a &&& lN b = lN (a &&& b) := by
  apply wb_inj
  rw [Int64.toBitVec_and, wb_tb, wb_tb, wb_tb]
  apply BitVec.eq_of_toNat_eq
  rw [BitVec.toNat_and, BitVec.toNat_ofNat, BitVec.toNat_ofNat, BitVec.toNat_ofNat, Nat.mod_eq_of_lt ha, Nat.mod_eq_of_lt hb, Nat.mod_eq_of_lt (Nat.and_lt_two_pow _ hb)]
theorem wb_or {a b : Nat} (ha : a < 2 ^ 64) (hb : b < 2 ^ 64) : lN a ||| lN b = lN (a ||| b) := by
  apply wb_inj
  rw [Int64.toBitVec_or, wb_tb, wb_tb, wb_tb]
  apply BitVec.eq_of_toNat_eq
  rw [BitVec.toNat_or, BitVec.toNat_ofNat, BitVec.toNat_ofNat, BitVec.toNat_ofNat, Nat.mod_eq_of_lt ha, Nat.mod_eq_of_lt hb, Nat.mod_eq_of_lt (Nat.or_lt_two_pow ha hb)]
theorem wb_mask {n k : Nat} (hn : n < 2 ^ 64) (hk : k < 64) : lN n &&& lN (2 ^ k - 1) = lN (n % 2 ^ k) := by
  rw [wb_and hn (by have := wb_lt2 hk; omega), Nat.and_two_pow_sub_one_eq_mod]
theorem wb_a1 {n : Nat} (hn : n < 2 ^ 64) : lN n &&& 1 = lN (n % 2) := wb_mask (k := 1) hn (by decide)
theorem wb_bit {n k : Nat} (hn : n < 2 ^ 64) (hk : k < 64) : ((lN n).toUInt64 >>> ((nI k).toInt64.toUInt64 &&& Int64.toUInt64 63)).toInt64 &&& 1 = lN (n / 2 ^ k % 2) := by
  rw [wb_shr hn hk, wb_a1 (Nat.lt_of_le_of_lt (Nat.div_le_self _ _) hn)]
theorem pf_lI {a : Nat} (h : a < 2 ^ 63) : (lN a).toInt = (a : Int) := lg_ofNat_toInt h
theorem pf_shr {a d : Nat} {D : Int64} (hD : (D.toBitVec.smod 64).toNat = d) (h : a < 2 ^ 62) : lN a >>> D = lN (a / 2 ^ d) := by
  have hd : a / 2 ^ d ≤ a := Nat.div_le_self _ _
  apply Int64.toInt_inj.mp
  have e : (lN a >>> D).toInt = (lN a).toInt >>> d := by
    rw [← hD]
    exact BitVec.toInt_sshiftRight ..
  rw [e, Int.shiftRight_eq_div_pow, pf_lI (by omega), pf_lI (by omega)]
  rfl
theorem sI_bit {h k : Nat} (hh : h < 2 ^ 31) (hk : k < 32) : (nI h >>> (nI k &&& 31)) &&& 1 = 0 ↔ h.testBit k = false := by
  have h1 : h / 2 ^ k < 2 ^ 31 := Nat.lt_of_le_of_lt (Nat.div_le_self _ _) hh
  rw [pk_shrN hh _ k (s_l k hk), pk_andN (m := 1) (by omega) 1 (by decide), Nat.testBit_eq_decide_div_mod_eq, show (0 : Int32) = nI 0 from rfl, nI_eq (by omega) (by decide)]
  simp
theorem sL_shr {f d : Nat} (hf : f < 2 ^ 62) (hd : d < 64) : lN f >>> ((nI d).toInt64 &&& 63) = lN (f / 2 ^ d) := by
  rw [wb_c d hd]
  refine pf_shr ?_ hf
  rw [wb_tb, wb_sm d hd, BitVec.toNat_ofNat]
  omega
theorem sL_bit {f d : Nat} (hf : f < 2 ^ 62) (hd : d < 64) : (lN f >>> ((nI d).toInt64 &&& 63)) &&& 1 = 0 ↔ f.testBit d = false := by
  have h1 : f / 2 ^ d < 2 ^ 62 := Nat.lt_of_le_of_lt (Nat.div_le_self _ _) hf
  rw [sL_shr hf hd, wb_a1 (by omega), Nat.testBit_eq_decide_div_mod_eq, show (0 : Int64) = lN 0 from rfl, pk_lEQ (by omega) (by decide)]
  simp
theorem sL_zero {f d : Nat} (hf : f < 2 ^ 62) (hd : d < 64) : lN f >>> ((nI d).toInt64 &&& 63) = 0 ↔ f / 2 ^ d = 0 := by
  have h1 : f / 2 ^ d < 2 ^ 62 := Nat.lt_of_le_of_lt (Nat.div_le_self _ _) hf
  rw [sL_shr hf hd, show (0 : Int64) = lN 0 from rfl, pk_lEQ (by omega) (by decide)]
/-- the lowest bit -/
def lowb : Nat → Nat → Nat
  | 0, _ => 0
  | f + 1, n => if n % 2 = 1 then 0 else lowb f (n / 2) + 1
theorem lowb_spec : ∀ f n, 0 < n → n < 2 ^ f → n.testBit (lowb f n) = true ∧ (∀ j, j < lowb f n → n.testBit j = false) ∧ lowb f n < f
  | 0, n, h1, h2 => by simp at h2; omega
  | f + 1, n, h1, h2 => by
    unfold lowb
    by_cases h : n % 2 = 1
    · rw [if_pos h]
      refine ⟨?_, fun j hj => by omega, by omega⟩
      rw [Nat.testBit_zero]
      simp [h]
    · rw [if_neg h]
      rw [Nat.pow_succ] at h2
      obtain ⟨a, b, c⟩ := lowb_spec f (n / 2) (by omega) (by omega)
      refine ⟨?_, fun j hj => ?_, by omega⟩
      · rw [Nat.testBit_succ]; exact a
      · cases j with
        | zero => rw [Nat.testBit_zero]; simp [h]
        | succ j => rw [Nat.testBit_succ]; exact b j (by omega)
theorem lowb_form : ∀ f n, 0 < n → n < 2 ^ f → ∃ a, n = 2 ^ lowb f n * (2 * a + 1)
  | 0, n, h1, h2 => by simp at h2; omega
  | f + 1, n, h1, h2 => by
    unfold lowb
    by_cases h : n % 2 = 1
    · rw [if_pos h]
      exact ⟨n / 2, by rw [Nat.pow_zero]; omega⟩
    · rw [if_neg h]
      rw [Nat.pow_succ] at h2
      obtain ⟨a, ha⟩ := lowb_form f (n / 2) (by omega) (by omega)
      refine ⟨a, ?_⟩
      have h3 : n = 2 * (n / 2) := by omega
      rw [h3, ha, Nat.pow_succ]
      rw [show 2 * (2 ^ lowb f (n / 2) * (2 * a + 1)) / 2 = 2 ^ lowb f (n / 2) * (2 * a + 1) by omega, ← ha, Nat.mul_right_comm]
      conv => lhs; rw [ha]
      rw [Nat.mul_comm 2]
theorem tb_odd (k a i : Nat) : (2 ^ k * (2 * a + 1)).testBit i = (if i < k then false else if i = k then true else a.testBit (i - k - 1)) := by
  rw [Nat.testBit_two_pow_mul]
  by_cases h1 : i < k
  · simp [h1, show ¬ k ≤ i by omega]
  · rw [if_neg h1]
    by_cases h2 : i = k
    · subst h2
      simp [Nat.testBit_zero]
    · rw [if_neg h2]
      obtain ⟨j, rfl⟩ : ∃ j, i = k + (j + 1) := ⟨i - k - 1, by omega⟩
      rw [show k + (j + 1) - k = j + 1 by omega, Nat.testBit_succ, show (2 * a + 1) / 2 = a by omega]
      simp
theorem and_neg {n : Nat} (h1 : 0 < n) (h2 : n < 2 ^ 64) : n &&& (2 ^ 64 - n) = 2 ^ lowb 64 n := by
  obtain ⟨a, ha⟩ := lowb_form 64 n h1 h2
  obtain ⟨-, -, hk⟩ := lowb_spec 64 n h1 h2
  generalize lowb 64 n = k at ha hk ⊢
  have hp : 2 ^ 64 = 2 ^ k * (2 * 2 ^ (63 - k)) := by
    rw [show 2 * 2 ^ (63 - k) = 2 ^ (64 - k) by rw [show 64 - k = (63 - k) + 1 by omega, Nat.pow_succ, Nat.mul_comm], ← Nat.pow_add]
    congr 1
    omega
  have hm : a < 2 ^ (63 - k) := by
    rw [ha, hp] at h2
    have := Nat.lt_of_mul_lt_mul_left h2
    omega
  have hd : 2 ^ 64 - n = 2 ^ k * (2 * (2 ^ (63 - k) - (a + 1)) + 1) := by
    rw [hp, ha, ← Nat.mul_sub]
    congr 1
    omega
  apply Nat.eq_of_testBit_eq
  intro i
  rw [Nat.testBit_and, hd, ha, tb_odd, tb_odd, Nat.testBit_two_pow]
  by_cases h3 : i < k
  · simp [h3, show ¬ k = i by omega]
  · rw [if_neg h3, if_neg h3]
    by_cases h4 : i = k
    · simp [h4]
    · rw [if_neg h4, if_neg h4, Nat.testBit_two_pow_sub_succ hm]
      simp [show ¬ k = i by omega]
      exact fun h _ => h
theorem bitc_pow : ∀ k, k < 64 → bitc (lN (2 ^ k - 1)) = nI k := by decide +kernel
theorem lN_neg {n : Nat} (h : n < 2 ^ 64) : -(lN n) = lN (2 ^ 64 - n) := by
  apply wb_inj
  rw [Int64.toBitVec_neg, wb_tb, wb_tb]
  apply BitVec.eq_of_toNat_eq
  rw [BitVec.toNat_neg, BitVec.toNat_ofNat, BitVec.toNat_ofNat]
  omega
theorem u_low_eq {n : Nat} (h1 : 0 < n) (h2 : n < 2 ^ 63) : u_low (lN n) = nI (lowb 64 n) := by
  unfold u_low
  have hk := (lowb_spec 64 n h1 (by omega)).2.2
  rw [lN_neg (by omega), wb_and (by omega) (by omega), and_neg h1 (by omega), show (1 : Int64) = lN 1 from rfl, lN_sub (Nat.one_le_two_pow), bitc_pow _ hk]
/-- the next meant minute of a day -/
def mdB (hh mn q : Nat) : Bool := hh.testBit (q / 60) && mn.testBit (q % 60)
theorem tb_small {x n i : Nat} (h : x < 2 ^ n) (hi : n ≤ i) : x.testBit i = false := Nat.testBit_lt_two_pow (Nat.lt_of_lt_of_le h (Nat.pow_le_pow_right (by decide) hi))
theorem u_min_spec {M : tk_M} {i hh mn q : Nat} (h1 : M.2.1 i 0 = lN mn) (h2 : M.1 i 1 = nI hh) (m0 : 0 < mn) (m60 : mn < 2 ^ 60) (h24 : hh < 2 ^ 24) (hq : q < 1440) : ∃ r, u_min M i q = nI r ∧ q ≤ r ∧ r ≤ 1440 ∧ (r < 1440 → mdB hh mn r = true) ∧ ∀ t, q ≤ t → t < r → mdB hh mn t = false := by
  have er : u_rest M i q = lN (mn / 2 ^ (q % 60)) := by unfold u_rest; rw [h1, wb_shr (by omega) (by omega)]
  have el : u_later M i q = nI (hh / 2 ^ (q / 60 + 1)) := by unfold u_later; rw [h2, pk_shrN (by omega) _ _ (s_l _ (by omega))]
  have hr63 : mn / 2 ^ (q % 60) < 2 ^ 60 := Nat.lt_of_le_of_lt (Nat.div_le_self _ _) m60
  have hl24 : hh / 2 ^ (q / 60 + 1) < 2 ^ 24 := Nat.lt_of_le_of_lt (Nat.div_le_self _ _) h24
  have ez : (lN (mn / 2 ^ (q % 60)) = 0) ↔ mn / 2 ^ (q % 60) = 0 := by rw [show (0 : Int64) = lN 0 from rfl, pk_lEQ (by omega) (by decide)]
  have ey : (nI (hh / 2 ^ (q / 60 + 1)) = 0) ↔ hh / 2 ^ (q / 60 + 1) = 0 := by rw [show (0 : Int32) = nI 0 from rfl, nI_eq (by omega) (by decide)]
  have eb : (M.1 i 1 >>> (nI (q / 60) &&& 31)) &&& 1 = 0 ↔ hh.testBit (q / 60) = false := by rw [h2, sI_bit (by omega) (by omega)]
  unfold u_min
  rw [er, el, h1]
  by_cases c1 : hh.testBit (q / 60) = true ∧ ¬ mn / 2 ^ (q % 60) = 0
  · rw [if_pos ⟨fun z => by rw [eb.mp z] at c1; exact absurd c1.1 (by decide), fun z => c1.2 (ez.mp z)⟩, u_low_eq (Nat.pos_of_ne_zero c1.2) (by omega)]
    obtain ⟨a, b, c⟩ := lowb_spec 64 (mn / 2 ^ (q % 60)) (Nat.pos_of_ne_zero c1.2) (by omega)
    generalize lowb 64 (mn / 2 ^ (q % 60)) = k at a b c
    rw [Nat.testBit_div_two_pow] at a
    have hk : q % 60 + k < 60 := by
      rcases Nat.lt_or_ge (q % 60 + k) 60 with z | z
      · exact z
      · rw [Nat.add_comm, tb_small m60 (by omega)] at a
        exact absurd a (by decide)
    refine ⟨q + k, nI_add _ _, by omega, by omega, fun _ => ?_, fun t h3 h4 => ?_⟩
    · unfold mdB
      rw [show (q + k) / 60 = q / 60 by omega, show (q + k) % 60 = k + q % 60 by omega, c1.1, a]
      rfl
    · have hb := b (t - q) (by omega)
      rw [Nat.testBit_div_two_pow] at hb
      unfold mdB
      rw [show t % 60 = t - q + q % 60 by omega, hb, Bool.and_false]
  · rw [if_neg (fun z => c1 ⟨by
      cases hv : hh.testBit (q / 60) with
      | true => rfl
      | false => exact absurd (eb.mpr hv) z.1, fun w => z.2 (ez.mpr w)⟩)]
    have hno : ∀ t, q ≤ t → t / 60 = q / 60 → mdB hh mn t = false := by
      intro t h3 h4
      unfold mdB
      rw [h4]
      cases hv : hh.testBit (q / 60) with
      | false => rfl
      | true =>
        have h5 : mn / 2 ^ (q % 60) = 0 := by
          rcases Nat.eq_zero_or_pos (mn / 2 ^ (q % 60)) with z | z
          · exact z
          · exact absurd ⟨hv, by omega⟩ c1
        have h6 : mn < 2 ^ (q % 60) := by
          rcases Nat.lt_or_ge mn (2 ^ (q % 60)) with z | z
          · exact z
          · exact absurd h5 (by have := Nat.div_pos z (Nat.two_pow_pos _); omega)
        rw [tb_small h6 (by omega)]
        rfl
    by_cases c2 : hh / 2 ^ (q / 60 + 1) = 0
    · rw [if_pos (ey.mpr c2)]
      refine ⟨1440, rfl, by omega, by omega, fun z => by omega, fun t h3 h4 => ?_⟩
      by_cases h5 : t / 60 = q / 60
      · exact hno t h3 h5
      · have h6 : hh < 2 ^ (q / 60 + 1) := by
          rcases Nat.lt_or_ge hh (2 ^ (q / 60 + 1)) with z | z
          · exact z
          · exact absurd c2 (by have := Nat.div_pos z (Nat.two_pow_pos _); omega)
        unfold mdB
        rw [tb_small h6 (by omega)]
        rfl
    · rw [if_neg (fun z => c2 (ey.mp z)), nI_l (by omega), u_low_eq (Nat.pos_of_ne_zero c2) (by omega), u_low_eq m0 (by omega)]
      obtain ⟨a, b, c⟩ := lowb_spec 64 (hh / 2 ^ (q / 60 + 1)) (Nat.pos_of_ne_zero c2) (by omega)
      obtain ⟨a2, b2, c2'⟩ := lowb_spec 64 mn m0 (by omega)
      generalize lowb 64 (hh / 2 ^ (q / 60 + 1)) = k at a b c
      generalize lowb 64 mn = w at a2 b2 c2'
      rw [Nat.testBit_div_two_pow] at a
      have hw : w < 60 := by
        rcases Nat.lt_or_ge w 60 with z | z
        · exact z
        · rw [tb_small m60 z] at a2
          exact absurd a2 (by decide)
      have hk : q / 60 + 1 + k < 24 := by
        rcases Nat.lt_or_ge (q / 60 + 1 + k) 24 with z | z
        · exact z
        · rw [tb_small h24 (by omega)] at a
          exact absurd a (by decide)
      refine ⟨(q / 60 + 1 + k) * 60 + w, by rw [show (60 : Int32) = nI 60 from rfl, nI_add, pk_mul, nI_add], by omega, by omega, fun _ => ?_, fun t h3 h4 => ?_⟩
      · unfold mdB
        rw [show ((q / 60 + 1 + k) * 60 + w) / 60 = k + (q / 60 + 1) by omega, show ((q / 60 + 1 + k) * 60 + w) % 60 = w by omega, a, a2]
        rfl
      · by_cases h5 : t / 60 = q / 60
        · exact hno t h3 h5
        · unfold mdB
          by_cases h6 : t / 60 = q / 60 + 1 + k
          · rw [b2 (t % 60) (by omega), Bool.and_false]
          · have hb := b (t / 60 - (q / 60 + 1)) (by omega)
            rw [Nat.testBit_div_two_pow, show t / 60 - (q / 60 + 1) + (q / 60 + 1) = t / 60 by omega] at hb
            rw [hb]
            rfl
