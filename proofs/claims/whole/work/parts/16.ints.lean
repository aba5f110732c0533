/-! whole numbers as ints -/
def iI (z : Int) : Int32 := Int32.ofInt z
theorem iI_toInt {z : Int} (h1 : -2147483648 ≤ z) (h2 : z < 2147483648) : (iI z).toInt = z := Int32.toInt_ofInt_of_le (by simpa using h1) (by simpa using h2)
theorem iI_of (x : Int32) : x = iI x.toInt := (Int32.ofInt_toInt x).symm
theorem iI_add (a b : Int) : iI a + iI b = iI (a + b) := (Int32.ofInt_add a b).symm
theorem iI_sub (a b : Int) : iI a - iI b = iI (a - b) := (Int32.ofInt_sub a b).symm
theorem iI_mul (a b : Int) : iI a * iI b = iI (a * b) := (Int32.ofInt_mul a b).symm
theorem iI_lt {a b : Int} (h1 : -2147483648 ≤ a) (h2 : a < 2147483648) (h3 : -2147483648 ≤ b) (h4 : b < 2147483648) : iI a < iI b ↔ a < b := by
  rw [Int32.lt_iff_toInt_lt, iI_toInt h1 h2, iI_toInt h3 h4]
theorem iI_le {a b : Int} (h1 : -2147483648 ≤ a) (h2 : a < 2147483648) (h3 : -2147483648 ≤ b) (h4 : b < 2147483648) : iI a ≤ iI b ↔ a ≤ b := by
  rw [Int32.le_iff_toInt_le, iI_toInt h1 h2, iI_toInt h3 h4]
theorem iI_eq {a b : Int} (h1 : -2147483648 ≤ a) (h2 : a < 2147483648) (h3 : -2147483648 ≤ b) (h4 : b < 2147483648) : iI a = iI b ↔ a = b := by
  rw [← Int32.toInt_inj, iI_toInt h1 h2, iI_toInt h3 h4]
theorem iI_nI (n : Nat) : nI n = iI n := rfl
theorem iI_range (x : Int32) : -2147483648 ≤ x.toInt ∧ x.toInt < 2147483648 := by
  have h1 := Int32.le_toInt x
  have h2 := Int32.toInt_lt x
  constructor <;> simpa using by assumption
theorem iI_ext {x : Int32} {z : Int} (h : x.toInt = z) : x = iI z := by rw [← h]; exact iI_of x
theorem iI_div {a b : Int} (h1 : -2147483648 < a) (h2 : a < 2147483648) (h3 : 0 < b) (h4 : b < 2147483648) : iI a / iI b = iI (a.tdiv b) := by
  apply iI_ext
  rw [Int32.toInt_div, iI_toInt (by omega) h2, iI_toInt (by omega) h4]
  have h5 : (a.tdiv b).natAbs ≤ a.natAbs := by
    rw [Int.natAbs_tdiv]
    exact Nat.div_le_self _ _
  exact Int.bmod_eq_of_le (by omega) (by omega)
theorem iI_rem {a b : Int} (h1 : -2147483648 < a) (h2 : a < 2147483648) (h3 : 0 < b) (h4 : b < 2147483648) : iI a - iI a / iI b * iI b = iI (a.tmod b) := by
  rw [iI_div h1 h2 h3 h4, iI_mul, iI_sub]
  congr 1
  have := Int.tmod_add_mul_tdiv a b
  have h6 : b * a.tdiv b = a.tdiv b * b := Int.mul_comm _ _
  omega
theorem iI_divN {a b : Int} (h1 : 0 ≤ a) (h2 : a < 2147483648) (h3 : 0 < b) (h4 : b < 2147483648) : iI a / iI b = iI (a / b) := by
  rw [iI_div (by omega) h2 h3 h4, Int.tdiv_eq_ediv_of_nonneg h1]
theorem iI_remN {a b : Int} (h1 : 0 ≤ a) (h2 : a < 2147483648) (h3 : 0 < b) (h4 : b < 2147483648) : iI a - iI a / iI b * iI b = iI (a % b) := by
  rw [iI_rem (by omega) h2 h3 h4, Int.tmod_eq_emod_of_nonneg h1]
/-- floorDiv -/
def i_fd (x y : Int32) : Int32 := if 0 ≤ x ^^^ y then x / y else if x / y * y = x then x / y else x / y - 1
theorem i_xor {x y : Int32} (hy : 0 ≤ y) : 0 ≤ x ^^^ y ↔ 0 ≤ x := by
  have h : ∀ a b : BitVec 32, (a ^^^ b).msb = (a.msb ^^ b.msb) := fun a b => BitVec.msb_xor
  have k : ∀ z : Int32, 0 ≤ z ↔ z.toBitVec.msb = false := fun z => by
    rw [Int32.le_iff_toBitVec_sle]
    show (0#32).sle z.toBitVec = true ↔ _
    rw [BitVec.sle_eq_not_slt]
    simp [BitVec.slt_zero_eq_msb]
  rw [k, k, Int32.toBitVec_xor, h, (k y).mp hy]
  simp
theorem i_fd_eq {a b : Int} (h1 : -2147483648 < a) (h2 : a < 2147483648) (h3 : 0 < b) (h4 : b < 2147483648) : i_fd (iI a) (iI b) = iI (a / b) := by
  unfold i_fd
  rw [show (0 : Int32) = iI 0 from rfl]
  have hx : iI 0 ≤ iI a ^^^ iI b ↔ 0 ≤ a := by
    have := i_xor (x := iI a) (y := iI b) (by rw [show (0 : Int32) = iI 0 from rfl, iI_le] <;> omega)
    rw [show (0 : Int32) = iI 0 from rfl] at this
    rw [this, iI_le] <;> omega
  by_cases ha : 0 ≤ a
  · rw [if_pos (hx.mpr ha), iI_divN ha h2 h3 h4]
  · rw [if_neg (fun z => ha (hx.mp z)), iI_div h1 h2 h3 h4, iI_mul]
    have e1 := Int.tmod_add_mul_tdiv a b
    have e2 : b * a.tdiv b = a.tdiv b * b := Int.mul_comm _ _
    have e3 := Int.emod_add_mul_ediv a b
    have e4 := Int.emod_nonneg a (show b ≠ 0 by omega)
    have e5 := Int.emod_lt_of_pos a h3
    have e6 := tmod_bounds (a := a) h3
    have e8 : a.tmod b ≤ 0 := by
      rw [show a = -(-a) by omega, Int.neg_tmod]
      have := Int.tmod_nonneg b (show 0 ≤ -a by omega)
      omega
    have hr : -2147483648 ≤ a.tdiv b * b ∧ a.tdiv b * b < 2147483648 := by omega
    by_cases hz : a.tmod b = 0
    · rw [if_pos (by rw [iI_eq] <;> omega)]
      congr 1
      have h9 : b * a.tdiv b = b * (a / b) + a % b := by omega
      have h10 : b * (a.tdiv b - a / b) = a % b := by rw [Int.mul_sub]; omega
      rcases Int.lt_trichotomy (a.tdiv b - a / b) 0 with h | h | h
      · have := Int.mul_le_mul_of_nonneg_left (show a.tdiv b - a / b ≤ -1 by omega) (show 0 ≤ b by omega)
        omega
      · omega
      · have := Int.mul_le_mul_of_nonneg_left (show 1 ≤ a.tdiv b - a / b by omega) (show 0 ≤ b by omega)
        omega
    · rw [if_neg (by rw [iI_eq] <;> omega), show (1 : Int32) = iI 1 from rfl, iI_sub]
      congr 1
      have h9 : b * a.tdiv b = b * (a / b) + a % b - a.tmod b := by omega
      have h10 : b * (a.tdiv b - 1 - a / b) = a % b - a.tmod b - b := by rw [Int.mul_sub, Int.mul_sub]; omega
      rcases Int.lt_trichotomy (a.tdiv b - 1 - a / b) 0 with h | h | h
      · have := Int.mul_le_mul_of_nonneg_left (show a.tdiv b - 1 - a / b ≤ -1 by omega) (show 0 ≤ b by omega)
        omega
      · omega
      · have := Int.mul_le_mul_of_nonneg_left (show 1 ≤ a.tdiv b - 1 - a / b by omega) (show 0 ≤ b by omega)
        omega
/-- some place below -/
def anyN (f : Nat → Bool) : Nat → Bool
  | 0 => false
  | k + 1 => anyN f k || f k
theorem anyN_iff (f : Nat → Bool) : ∀ n, anyN f n = true ↔ ∃ i, i < n ∧ f i = true
  | 0 => by simp [anyN]
  | n + 1 => by
    rw [anyN, Bool.or_eq_true, anyN_iff f n]
    constructor
    · rintro (⟨i, h1, h2⟩ | h)
      · exact ⟨i, by omega, h2⟩
      · exact ⟨n, by omega, h⟩
    · rintro ⟨i, h1, h2⟩
      by_cases h : i = n
      · exact Or.inr (h ▸ h2)
      · exact Or.inl ⟨i, by omega, h2⟩
theorem anyN_t {f : Nat → Bool} {k n : Nat} (hk : k < n) (h : f k = true) : anyN f n = true := (anyN_iff f n).mpr ⟨k, hk, h⟩
