/-! when a minute is due -/
def ptI (st : Nat → Int) (m : Int) : Nat → Nat
  | 0 => 0
  | k + 1 => if k = 0 then 0 else if m < st k then ptI st m k else k
def enI (n : Nat) (st : Nat → Int) (k : Nat) : Int := if k + 1 < n then st (k + 1) - 1 else 52595999
def hadB (st os : Nat → Int) (p : Nat) (x : Int) : Bool := anyN (fun k => decide (st k ≤ x - os k ∧ x - os k < st (k + 1))) p
def skB (st os : Nat → Int) (ld : Int → Bool) (p : Nat) (m : Int) : Bool := decide (m ≠ 0 ∧ 0 < p ∧ st p = m) && anyN (fun i => ld (m + os (p - 1) + i)) (os p - os (p - 1)).toNat
def dueP (st os : Nat → Int) (ld exc : Int → Bool) (p : Nat) (m : Int) : Bool := (!exc m) && ((ld (m + os p) && !hadB st os p (m + os p)) || skB st os ld p m)
def dueB (n : Nat) (st os : Nat → Int) (ld exc : Int → Bool) (m : Int) : Bool := dueP st os ld exc (ptI st m n) m
/-- the parts of a zone -/
def zo (n : Nat) (st os : Nat → Int) : Prop := 1 ≤ n ∧ n ≤ 9 ∧ st 0 = 0 ∧ os 0 = 0 ∧ (∀ i, i < n → 0 ≤ st i ∧ st i ≤ 52595999 ∧ -900 ≤ os i ∧ os i ≤ 900) ∧ ∀ i, 1 ≤ i → i + 1 < n → st i < st (i + 1)
theorem zo_lt {n : Nat} {st os : Nat → Int} (h : zo n st os) {a b : Nat} (h1 : 1 ≤ a) (h2 : a < b) (h3 : b < n) : st a < st b := by
  induction b with
  | zero => omega
  | succ b ih =>
    by_cases hb : a = b
    · subst hb
      exact h.2.2.2.2.2 a h1 h3
    · have := ih (by omega) (by omega)
      have := h.2.2.2.2.2 b (by omega) h3
      omega
theorem pt_in {n : Nat} {st os : Nat → Int} (h : zo n st os) {m : Int} (hm : 0 ≤ m) : ∀ k, 0 < k → k ≤ n → ptI st m k < k ∧ st (ptI st m k) ≤ m ∧ ∀ i, ptI st m k < i → i < k → m < st i
  | 0, h0, _ => by omega
  | k + 1, _, hk => by
    unfold ptI
    by_cases c : k = 0
    · rw [if_pos c]
      refine ⟨by omega, by rw [h.2.2.1]; exact hm, fun i h1 h2 => by omega⟩
    · rw [if_neg c]
      by_cases c2 : m < st k
      · rw [if_pos c2]
        obtain ⟨a, b, e⟩ := pt_in h hm k (by omega) (by omega)
        refine ⟨by omega, b, fun i h1 h2 => ?_⟩
        by_cases hi : i = k
        · rw [hi]; exact c2
        · exact e i h1 (by omega)
      · rw [if_neg c2]
        exact ⟨by omega, by omega, fun i h1 h2 => by omega⟩
theorem pt_en {n : Nat} {st os : Nat → Int} (h : zo n st os) {m : Int} (hm : 0 ≤ m) (hm2 : m ≤ 52595999) : ptI st m n < n ∧ st (ptI st m n) ≤ m ∧ m ≤ enI n st (ptI st m n) := by
  obtain ⟨a, b, e⟩ := pt_in h hm n h.1 (Nat.le_refl _)
  refine ⟨a, b, ?_⟩
  unfold enI
  by_cases c : ptI st m n + 1 < n
  · rw [if_pos c]
    have := e _ (by omega) c
    omega
  · rw [if_neg c]
    exact hm2
theorem pt_is {n : Nat} {st os : Nat → Int} (h : zo n st os) {m : Int} {p : Nat} (hm : 0 ≤ m) (hp : p < n) (h1 : st p ≤ m) (h2 : m ≤ enI n st p) : ptI st m n = p := by
  obtain ⟨a, b, e⟩ := pt_in h hm n h.1 (Nat.le_refl _)
  rcases Nat.lt_trichotomy (ptI st m n) p with c | c | c
  · have := e p c hp
    omega
  · exact c
  · unfold enI at h2
    rw [if_pos (by omega)] at h2
    by_cases hq : p + 1 = ptI st m n
    · rw [hq] at h2; omega
    · have := zo_lt h (show 1 ≤ p + 1 by omega) (show p + 1 < ptI st m n by omega) a
      omega
theorem FJD_no {P : Int → Bool} {a b r x : Int} (h : FJD P a b r) (h1 : a ≤ x) (h2 : x < r) (h3 : x ≤ b) : P x = false := by
  rcases h with h | h
  · exact h.2.2 x h1 h2
  · exact h.2 x h1 h3
theorem FJD_is {P : Int → Bool} {a b r : Int} (h : FJD P a b r) (h1 : r ≤ b) : P r = true ∧ a ≤ r := by
  rcases h with h | h
  · exact ⟨h.1, h.2.1⟩
  · have := h.1
    omega
section FD
variable {n p : Nat} {st os : Nat → Int} {ld exc : Int → Bool} {s0 e0 fl c r : Int}
/-- the search in part p, from s0 to e0: what was looked at below c is not due -/
def fdI (st os : Nat → Int) (ld exc : Int → Bool) (p : Nat) (s0 e0 fl c : Int) : Prop := c = fl ∨ (s0 + os p < c ∧ ∀ m, s0 ≤ m → m ≤ e0 → m + os p < c → dueP st os ld exc p m = false)
/-- where the search in part p begins -/
def flI (st os : Nat → Int) (p : Nat) (s0 : Int) : Int := if st p < s0 ∨ st p = 0 then s0 + os p else st p + (if os p < os (p - 1) then os p else os (p - 1))
theorem flI_le (h : st p ≤ s0) : flI st os p s0 ≤ s0 + os p := by
  unfold flI
  split
  · omega
  · split <;> omega
theorem sk_no {m : Int} (hs : st p ≤ s0) (hm : s0 ≤ m) (hn : ∀ x, flI st os p s0 ≤ x → x < s0 + os p → ld x = false) : skB st os ld p m = false := by
  unfold skB
  by_cases hc : m ≠ 0 ∧ 0 < p ∧ st p = m
  · rw [decide_eq_true hc, Bool.true_and]
    cases hv : anyN (fun i => ld (m + os (p - 1) + i)) (os p - os (p - 1)).toNat with
    | false => rfl
    | true =>
      obtain ⟨i, h1, h2⟩ := (anyN_iff _ _).mp hv
      have e0 : s0 = m := by omega
      rw [hn _ (by unfold flI; rw [if_neg (by omega)]; split <;> omega) (by omega)] at h2
      cases h2
  · rw [decide_eq_false hc, Bool.false_and]
theorem due_no {m : Int} (h1 : ld (m + os p) = false) (h2 : skB st os ld p m = false) : dueP st os ld exc p m = false := by
  unfold dueP
  rw [h1, h2]
  simp
/-- below what was found nothing is due -/
theorem fd_low (hs : st p ≤ s0) (hI : fdI st os ld exc p s0 e0 (flI st os p s0) c) (hF : FJD ld c (e0 + os p) r) {m : Int} (h1 : s0 ≤ m) (h2 : m ≤ e0) (h3 : m + os p < r) : dueP st os ld exc p m = false := by
  have hfl := flI_le (os := os) hs
  rcases hI with hI | ⟨hI1, hI2⟩
  · subst hI
    exact due_no (FJD_no hF (by omega) h3 (by omega)) (sk_no hs h1 (fun x g1 g2 => FJD_no hF g1 (by omega) (by omega)))
  · by_cases hc : m + os p < c
    · exact hI2 m h1 h2 hc
    · refine due_no (FJD_no hF (by omega) h3 (by omega)) ?_
      unfold skB
      rw [decide_eq_false (by omega), Bool.false_and]
theorem fd_skip (hI : fdI st os ld exc p s0 e0 (flI st os p s0) c) (hs : st p ≤ s0) (h0 : 0 ≤ st p) (hp0 : p = 0 → st p = 0) (hF : FJD ld c (e0 + os p) r) (hr : r ≤ e0 + os p) (h1 : r < s0 + os p) (hx : exc s0 = false) : dueP st os ld exc p s0 = true := by
  obtain ⟨g1, g2⟩ := FJD_is hF hr
  rcases hI with hI | ⟨hI1, -⟩
  · subst hI
    unfold flI at g2
    by_cases hc : st p < s0 ∨ st p = 0
    · rw [if_pos hc] at g2; omega
    · rw [if_neg hc] at g2
      have hs0 : st p = s0 := by omega
      have hp : 0 < p := by
        rcases Nat.eq_zero_or_pos p with z | z
        · exact absurd (hp0 z) (by omega)
        · exact z
      have hlt : ¬ os p < os (p - 1) := fun z => by rw [if_pos z] at g2; omega
      rw [if_neg hlt] at g2
      unfold dueP skB
      rw [hx, decide_eq_true (show s0 ≠ 0 ∧ 0 < p ∧ st p = s0 by omega), anyN_t (k := (r - s0 - os (p - 1)).toNat) (by omega) (by rw [show s0 + os (p - 1) + ((r - s0 - os (p - 1)).toNat : Int) = r by omega]; exact g1)]
      simp
  · omega
theorem fd_skipx (hs : st p ≤ s0) (hx : exc s0 = true) : fdI st os ld exc p s0 e0 fl (s0 + os p + 1) := by
  refine Or.inr ⟨by omega, fun m h1 h2 h3 => ?_⟩
  obtain rfl : m = s0 := by omega
  unfold dueP
  rw [hx]
  rfl
theorem fd_found (hF : FJD ld c (e0 + os p) r) (hr : r ≤ e0 + os p) (hh : hadB st os p r = false) (hx : exc (r - os p) = false) : dueP st os ld exc p (r - os p) = true := by
  obtain ⟨g1, -⟩ := FJD_is hF hr
  unfold dueP
  rw [show r - os p + os p = r by omega, hx, g1, hh]
  rfl
theorem fd_exc (hs : st p ≤ s0) (hI : fdI st os ld exc p s0 e0 (flI st os p s0) c) (hF : FJD ld c (e0 + os p) r) (h1 : s0 + os p ≤ r) (hx : exc (r - os p) = true) : fdI st os ld exc p s0 e0 fl (r + 1) := by
  refine Or.inr ⟨by omega, fun m h2 h3 h4 => ?_⟩
  by_cases hm : m + os p < r
  · exact fd_low hs hI hF h2 h3 hm
  · obtain rfl : m = r - os p := by omega
    unfold dueP
    rw [hx]
    rfl
theorem fd_had (hs : st p ≤ s0) (hI : fdI st os ld exc p s0 e0 (flI st os p s0) c) (hF : FJD ld c (e0 + os p) r) (h1 : s0 + os p ≤ r) {k : Nat} (hk : k < p) (g1 : st k + os k ≤ r) (g2 : r ≤ st (k + 1) - 1 + os k) : fdI st os ld exc p s0 e0 fl (st (k + 1) - 1 + os k + 1) := by
  have hfl := flI_le (os := os) hs
  refine Or.inr ⟨by omega, fun m h2 h3 h4 => ?_⟩
  by_cases hm : m + os p < r
  · exact fd_low hs hI hF h2 h3 hm
  · have hh : hadB st os p (m + os p) = true := anyN_t hk (by rw [decide_eq_true_eq]; omega)
    have hsk : skB st os ld p m = false := by
      rcases hI with hI | ⟨hI1, -⟩
      · subst hI
        by_cases hmr : m = s0
        · subst hmr
          refine sk_no hs (Int.le_refl _) (fun x a b => ?_)
          by_cases hxe : x ≤ e0 + os p
          · exact FJD_no hF a (by omega) hxe
          · omega
        · unfold skB
          rw [decide_eq_false (by omega), Bool.false_and]
      · by_cases hrc : r ≤ e0 + os p
        · have := (FJD_is hF hrc).2
          unfold skB
          rw [decide_eq_false (by omega), Bool.false_and]
        · unfold skB
          rw [decide_eq_false (by omega), Bool.false_and]
    unfold dueP
    rw [hh, hsk]
    simp
end FD
/-- how many -/
def cntN (f : Nat → Bool) : Nat → Nat
  | 0 => 0
  | k + 1 => cntN f k + (if f k = true then 1 else 0)
theorem cntN_le (f : Nat → Bool) : ∀ n, cntN f n ≤ n
  | 0 => by simp [cntN]
  | n + 1 => by
    have := cntN_le f n
    unfold cntN
    split <;> omega
theorem cntN_mono {f g : Nat → Bool} (h : ∀ i, g i = true → f i = true) : ∀ n, cntN g n ≤ cntN f n
  | 0 => by simp [cntN]
  | n + 1 => by
    have h1 := cntN_mono h n
    unfold cntN
    by_cases hg : g n = true
    · rw [if_pos hg, if_pos (h n hg)]; omega
    · rw [if_neg hg]; split <;> omega
theorem cntN_drop {f g : Nat → Bool} (h : ∀ i, g i = true → f i = true) {k : Nat} (h1 : f k = true) (h2 : g k = false) : ∀ n, k < n → cntN g n < cntN f n
  | 0, hk => by omega
  | n + 1, hk => by
    unfold cntN
    by_cases hkn : k = n
    · subst hkn
      have := cntN_mono h k
      rw [h1, h2]
      simp
      omega
    · have := cntN_drop h h1 h2 n (by omega)
      by_cases hg : g n = true
      · rw [if_pos hg, if_pos (h n hg)]; omega
      · rw [if_neg hg]; split <;> omega
