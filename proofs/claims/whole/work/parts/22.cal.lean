/-! the calendar, and the days of a job -/
def mmr (r : Nat) : Nat := if tk_sN (r / 31 + 1) ≤ r then r / 31 + 1 else r / 31
theorem mmr_in : ∀ r, r < 1461 → mmr r < 48 ∧ tk_sN (mmr r) ≤ r ∧ r < tk_sN (mmr r + 1) := by decide +kernel
theorem mmr_at : ∀ m, m < 48 → ∀ k, k < 31 → tk_sN m + k < tk_sN (m + 1) → mmr (tk_sN m + k) = m := by decide +kernel
theorem mth_eq (c : Nat) : mth c = c / 1461 * 48 + mmr (c % 1461) := rfl
theorem mth_in (c : Nat) : fday (mth c) + 1461 ≤ c ∧ (c : Int) < fday (mth c) + 1461 + mlen (mth c) := by
  obtain ⟨h1, h2, h3⟩ := mmr_in (c % 1461) (Nat.mod_lt _ (by decide))
  unfold fday mlen
  rw [mth_eq, show (c / 1461 * 48 + mmr (c % 1461)) / 48 = c / 1461 by omega, show (c / 1461 * 48 + mmr (c % 1461)) % 48 = mmr (c % 1461) by omega]
  omega
theorem fday_succ (m : Nat) : fday (m + 1) = fday m + mlen m := by
  have h := tk_sN_lt (m % 48) (by omega)
  unfold fday mlen
  by_cases hm : m % 48 = 47
  · rw [show (m + 1) / 48 = m / 48 + 1 by omega, show (m + 1) % 48 = 0 by omega, hm]
    have e1 : tk_sN 0 = 0 := by decide
    have e2 : tk_sN 47 = 1430 := by decide
    have e3 : tk_sN (47 + 1) = 1461 := by decide
    rw [e1, e2, e3]
    omega
  · rw [show (m + 1) / 48 = m / 48 by omega, show (m + 1) % 48 = m % 48 + 1 by omega]
    omega
theorem mth_at {m k : Nat} (hk : k < mlen m) : mth (fday m + 1461 + k).toNat = m := by
  have h := tk_sN_lt (m % 48) (by omega)
  have hl := tk_sN_le (m % 48 + 1) (by omega)
  unfold mlen at hk
  have e : (fday m + 1461 + k).toNat = m / 48 * 1461 + (tk_sN (m % 48) + k) := by unfold fday; omega
  rw [e, mth_eq, show (m / 48 * 1461 + (tk_sN (m % 48) + k)) / 1461 = m / 48 by omega, show (m / 48 * 1461 + (tk_sN (m % 48) + k)) % 1461 = tk_sN (m % 48) + k by omega, mmr_at (m % 48) (by omega) k (by omega) (by omega)]
  omega
theorem fday_mono {a b : Nat} (h : a ≤ b) : fday a ≤ fday b := by
  induction h with
  | refl => exact Int.le_refl _
  | step h ih => rw [fday_succ]; omega
theorem mth_mono {a b : Nat} (h : a ≤ b) : mth a ≤ mth b := by
  rcases Nat.lt_or_ge (mth b) (mth a) with z | z
  · have h1 := (mth_in a).1
    have h2 := (mth_in b).2
    have h3 := fday_mono (show mth b + 1 ≤ mth a from z)
    rw [fday_succ] at h3
    omega
  · exact z
/-- the numbers of a rule: hours, minutes, days, months, weekdays, weekday and place of the nth -/
abbrev ru : Type := Nat × Nat × Nat × Nat × Nat × Nat × Nat
def ru_hh (r : ru) : Nat := r.1
def ru_mn (r : ru) : Nat := r.2.1
def ru_dd (r : ru) : Nat := r.2.2.1
def ru_mo (r : ru) : Nat := r.2.2.2.1
def ru_ww (r : ru) : Nat := r.2.2.2.2.1
def ru_nd (r : ru) : Nat := r.2.2.2.2.2.1
def ru_np (r : ru) : Nat := r.2.2.2.2.2.2
def ru_ok (r : ru) : Prop := ru_hh r < 2 ^ 24 ∧ ru_mn r < 2 ^ 60 ∧ ru_dd r < 2 ^ 32 ∧ ru_mo r < 2 ^ 13 ∧ ru_ww r < 128 ∧ ru_nd r < 7 ∧ ru_np r ≤ 6
/-- a day fits -/
def fitI (r : ru) (d : Int) : Bool := (ru_mo r).testBit (mth (d + 1461).toNat % 12 + 1) && fitD (ru_dd r) (ru_ww r) (ru_nd r) (ru_np r) (mlen (mth (d + 1461).toNat)) ((fday (mth (d + 1461).toNat) + 1461) % 7).toNat (d - fday (mth (d + 1461).toNat) + 1).toNat
/-- back over free days: f more, from k back on -/
def bkB (fr fit : Int → Bool) (d : Int) : Nat → Nat → Bool
  | 0, _ => false
  | f + 1, k => if fr (d - k) = true then (if fit (d - k) = true then true else bkB fr fit d f (k + 1)) else false
/-- a day of the job -/
def jdB (mv : Bool) (fr fit : Int → Bool) (d : Int) : Bool := if mv = true then (!fr d) && (fit d || bkB fr fit d 20 1) else fit d
theorem bkB_iff (fr fit : Int → Bool) (d : Int) : ∀ f k, bkB fr fit d f k = true ↔ ∃ i, k ≤ i ∧ i < k + f ∧ fit (d - i) = true ∧ ∀ t, k ≤ t → t ≤ i → fr (d - t) = true
  | 0, k => by
    simp only [bkB]
    constructor
    · intro h; cases h
    · rintro ⟨i, h1, h2, -⟩; omega
  | f + 1, k => by
    rw [bkB]
    by_cases h1 : fr (d - k) = true
    · rw [if_pos h1]
      by_cases h2 : fit (d - k) = true
      · rw [if_pos h2]
        refine ⟨fun _ => ⟨k, by omega, by omega, h2, fun t a b => ?_⟩, fun _ => rfl⟩
        obtain rfl : t = k := by omega
        exact h1
      · rw [if_neg h2, bkB_iff fr fit d f (k + 1)]
        constructor
        · rintro ⟨i, a, b, c, e⟩
          refine ⟨i, by omega, by omega, c, fun t x y => ?_⟩
          by_cases hk : t = k
          · rw [hk]; exact h1
          · exact e t (by omega) y
        · rintro ⟨i, a, b, c, e⟩
          by_cases hk : i = k
          · rw [hk] at c; exact absurd c h2
          · exact ⟨i, by omega, by omega, c, fun t x y => e t (by omega) y⟩
    · rw [if_neg h1]
      constructor
      · intro h; cases h
      · rintro ⟨i, a, b, c, e⟩; exact absurd (e k (by omega) a) h1
theorem wdf_ge (fr : Int → Bool) : ∀ k d, d ≤ wdf fr k d ∧ wdf fr k d ≤ d + k
  | 0, d => by simp [wdf]
  | k + 1, d => by
    unfold wdf
    split
    · have := wdf_ge fr k (d + 1); omega
    · omega
theorem wdf_fr (fr : Int → Bool) : ∀ k d x, d ≤ x → x < wdf fr k d → fr x = true
  | 0, d, x, h1, h2 => by simp [wdf] at h2; omega
  | k + 1, d, x, h1, h2 => by
    unfold wdf at h2
    by_cases h : fr d = true
    · rw [if_pos h] at h2
      by_cases hx : x = d
      · rw [hx]; exact h
      · exact wdf_fr fr k (d + 1) x (by omega) h2
    · rw [if_neg h] at h2
      omega
theorem wdf_nf (fr : Int → Bool) : ∀ k d, wdf fr k d < d + k → fr (wdf fr k d) = false
  | 0, d, h => by simp [wdf] at h
  | k + 1, d, h => by
    unfold wdf at h ⊢
    by_cases h1 : fr d = true
    · rw [if_pos h1] at h ⊢
      exact wdf_nf fr k (d + 1) (by omega)
    · rw [if_neg h1]
      simpa using h1
theorem wdf_is (fr : Int → Bool) : ∀ (k : Nat) (d e : Int), d ≤ e → e < d + k → (∀ x, d ≤ x → x < e → fr x = true) → fr e = false → wdf fr k d = e
  | 0, d, e, h1, h2, _, _ => by omega
  | k + 1, d, e, h1, h2, h3, h4 => by
    unfold wdf
    by_cases hx : d = e
    · rw [hx, h4]; simp
    · rw [if_pos (h3 d (by omega) (by omega))]
      exact wdf_is fr k (d + 1) e (by omega) (by omega) (fun x a b => h3 x (by omega) b) h4
/-- where a fitting day is moved to -/
def mvd (mv : Bool) (fr : Int → Bool) (e : Int) : Int := if mv = true then wdf fr 21 e else e
theorem jdB_iff (mv : Bool) (fr fit : Int → Bool) (d : Int) : jdB mv fr fit d = true ↔ ∃ e, fit e = true ∧ mvd mv fr e = d ∧ d ≤ e + 20 := by
  unfold jdB mvd
  cases mv with
  | false =>
    simp only [Bool.false_eq_true, if_false]
    constructor
    · intro h; exact ⟨d, h, rfl, by omega⟩
    · rintro ⟨e, h, rfl, -⟩; exact h
  | true =>
    simp only [if_true, Bool.and_eq_true, Bool.or_eq_true, Bool.not_eq_true']
    constructor
    · rintro ⟨h1, h2⟩
      rcases h2 with h2 | h2
      · exact ⟨d, h2, wdf_is fr 21 d d (by omega) (by omega) (fun x a b => by omega) h1, by omega⟩
      · obtain ⟨i, a, b, c, e⟩ := (bkB_iff fr fit d 20 1).mp h2
        refine ⟨d - i, c, wdf_is fr 21 (d - i) d (by omega) (by omega) (fun x p q => ?_) h1, by omega⟩
        have := e (d - x).toNat (by omega) (by omega)
        rw [show d - ((d - x).toNat : Int) = x by omega] at this
        exact this
    · rintro ⟨e, h1, h2, h3⟩
      have hg := wdf_ge fr 21 e
      have hnf := wdf_nf fr 21 e (by omega)
      rw [h2] at hnf
      refine ⟨hnf, ?_⟩
      by_cases hx : e = d
      · left; rw [← hx]; exact h1
      · right
        refine (bkB_iff fr fit d 20 1).mpr ⟨(d - e).toNat, by omega, by omega, ?_, fun t a b => ?_⟩
        · rw [show d - ((d - e).toNat : Int) = e by omega]; exact h1
        · exact wdf_fr fr 21 e (d - t) (by omega) (by omega)
/-- what a search for the job's first day has found -/
def FJD (jd : Int → Bool) (a b r : Int) : Prop := (jd r = true ∧ a ≤ r ∧ ∀ d, a ≤ d → d < r → jd d = false) ∨ (r = b + 1 ∧ ∀ d, a ≤ d → d ≤ b → jd d = false)
/-- no day below e brings a job's day from a on -/
def nog (mv : Bool) (fr fit : Int → Bool) (a x e : Int) : Prop := ∀ f, x ≤ f → f < e → fit f = true → ¬ (a ≤ mvd mv fr f ∧ mvd mv fr f ≤ f + 20)
theorem mvd_ge (mv : Bool) (fr : Int → Bool) (e : Int) : e ≤ mvd mv fr e ∧ mvd mv fr e ≤ e + 21 := by
  unfold mvd
  have := wdf_ge fr 21 e
  split <;> omega
theorem nog_found {mv : Bool} {fr fit : Int → Bool} {a x e b : Int} (hx : x = if mv = true then a - 20 else a) (h : nog mv fr fit a x e) (he : fit e = true) (h1 : a ≤ mvd mv fr e) (h2 : mvd mv fr e ≤ e + 20) : FJD (jdB mv fr fit) a b (mvd mv fr e) := by
  left
  refine ⟨(jdB_iff mv fr fit _).mpr ⟨e, he, rfl, h2⟩, h1, fun d h3 h4 => ?_⟩
  cases hv : jdB mv fr fit d with
  | false => rfl
  | true =>
    obtain ⟨f, g1, g2, g3⟩ := (jdB_iff mv fr fit d).mp hv
    have hg := mvd_ge mv fr f
    by_cases hfe : f < e
    · refine absurd ⟨by omega, by omega⟩ (h f ?_ hfe g1)
      cases mv with
      | true => simp at hx; omega
      | false =>
        simp at hx
        unfold mvd at g2
        simp at g2
        omega
    · cases mv with
      | false =>
        unfold mvd at g2 h4
        simp at g2 h4
        omega
      | true =>
        unfold mvd at g2 h4
        simp at g2 h4
        have hgf := wdf_ge fr 21 f
        have h5 := wdf_fr fr 21 e d (by omega) h4
        have h6 := wdf_nf fr 21 f (by omega)
        rw [g2, h5] at h6
        cases h6
theorem nog_none {mv : Bool} {fr fit : Int → Bool} {a x e b : Int} (hx : x = if mv = true then a - 20 else a) (h : nog mv fr fit a x e) (he : b < e) : FJD (jdB mv fr fit) a b (b + 1) := by
  right
  refine ⟨rfl, fun d h3 h4 => ?_⟩
  cases hv : jdB mv fr fit d with
  | false => rfl
  | true =>
    obtain ⟨f, g1, g2, g3⟩ := (jdB_iff mv fr fit d).mp hv
    have hg := mvd_ge mv fr f
    refine absurd ⟨by omega, by omega⟩ (h f ?_ (by omega) g1)
    cases mv with
    | true => simp at hx; omega
    | false =>
      simp at hx
      unfold mvd at g2
      simp at g2
      omega
