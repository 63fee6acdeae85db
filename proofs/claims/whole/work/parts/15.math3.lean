
-- sums, and how many rows of places end (or begin) in a place
def sumN : Nat → (Nat → Nat) → Nat
  | 0, _ => 0
  | n + 1, f => sumN n f + f n
theorem sumN_congr {n : Nat} {f g : Nat → Nat} (h : ∀ i, i < n → f i = g i) : sumN n f = sumN n g := by
  induction n with
  | zero => rfl
  | succ n ih => simp only [sumN]; rw [ih (fun i hi => h i (by omega)), h n (by omega)]
theorem sumN_zero (n : Nat) : sumN n (fun _ => 0) = 0 := by
  induction n with
  | zero => rfl
  | succ n ih => simp only [sumN]; rw [ih]
theorem sumN_add (n : Nat) (f g : Nat → Nat) : sumN n (fun i => f i + g i) = sumN n f + sumN n g := by
  induction n with
  | zero => rfl
  | succ n ih => simp only [sumN]; rw [ih]; omega
theorem sumN_mul (n : Nat) (f : Nat → Nat) (c : Nat) : sumN n (fun i => f i * c) = sumN n f * c := by
  induction n with
  | zero => simp [sumN]
  | succ n ih => simp only [sumN]; rw [ih, Nat.add_mul]
theorem sumN_swap (n m : Nat) (f : Nat → Nat → Nat) : sumN n (fun i => sumN m (fun j => f i j)) = sumN m (fun j => sumN n (fun i => f i j)) := by
  induction n with
  | zero => simp only [sumN]; rw [sumN_zero]
  | succ n ih => simp only [sumN]; rw [ih, ← sumN_add]
theorem sumN_pos {n : Nat} {f : Nat → Nat} : 0 < sumN n f ↔ ∃ i, i < n ∧ 0 < f i := by
  induction n with
  | zero =>
    constructor
    · intro h; simp [sumN] at h
    · rintro ⟨i, h, _⟩; omega
  | succ n ih =>
    simp only [sumN]
    constructor
    · intro h
      rcases Nat.eq_zero_or_pos (sumN n f) with q | q
      · exact ⟨n, by omega, by omega⟩
      · obtain ⟨i, h1, h2⟩ := ih.mp q
        exact ⟨i, by omega, h2⟩
    · rintro ⟨i, h1, h2⟩
      by_cases e : i = n
      · subst e; omega
      · have := ih.mpr ⟨i, by omega, h2⟩
        omega
theorem sumN_le {n : Nat} {f : Nat → Nat} {b : Nat} (h : ∀ i, i < n → f i ≤ b) : sumN n f ≤ n * b := by
  induction n with
  | zero => simp [sumN]
  | succ n ih =>
    simp only [sumN]
    have h1 := ih (fun i hi => h i (by omega))
    have h2 := h n (by omega)
    rw [Nat.succ_mul]
    omega
theorem sumN_ext {n m : Nat} {f : Nat → Nat} (h : n ≤ m) (hz : ∀ i, n ≤ i → i < m → f i = 0) : sumN m f = sumN n f := by
  induction m with
  | zero => have : n = 0 := by omega
            subst this; rfl
  | succ m ih =>
    by_cases e : n = m + 1
    · subst e; rfl
    · simp only [sumN]
      rw [ih (by omega) (fun i h1 h2 => hz i h1 (by omega)), hz m (by omega) (by omega)]
      rfl
def atB (R C : Nat) (mk : Nat → Nat) (m : Nat) : Nat → Bool := fun x => decide (x < R * C) && decide (mk x = m)
def one (b : Bool) : Nat := if b = true then 1 else 0
theorem one_pos {b : Bool} : 0 < one b ↔ b = true := by cases b <;> simp [one]
theorem one_le (b : Bool) : one b ≤ 1 := by cases b <;> simp [one]
/-- how many rows of i + 1 places, the first one of f0, end in x -/
def cf (κ R C : Nat) (mk t : Nat → Nat) (f0 : Nat → Bool) : Nat → Nat → Nat
  | 0, x => one (f0 x && atB R C mk (t 0) x)
  | i + 1, y => one (atB R C mk (t (i + 1)) y) * sumN (R * C) (fun x => one (go κ C x y) * cf κ R C mk t f0 i x)
/-- how many rows of the last j + 1 of s places begin in x; ch without the mark of x -/
def ch (κ R C : Nat) (mk t : Nat → Nat) (s : Nat) : Nat → Nat → Nat
  | 0, _ => 1
  | j + 1, x => sumN (R * C) (fun y => one (go κ C x y) * (one (atB R C mk (t (s - 1 - j)) y) * ch κ R C mk t s j y))
def cb (κ R C : Nat) (mk t : Nat → Nat) (s j : Nat) (x : Nat) : Nat := one (atB R C mk (t (s - 1 - j)) x) * ch κ R C mk t s j x
theorem cb_0 (κ R C : Nat) (mk t : Nat → Nat) (s x : Nat) : cb κ R C mk t s 0 x = one (atB R C mk (t (s - 1)) x) := by simp [cb, ch]
theorem cb_s (κ R C : Nat) (mk t : Nat → Nat) (s j x : Nat) : cb κ R C mk t s (j + 1) x = one (atB R C mk (t (s - 1 - (j + 1))) x) * sumN (R * C) (fun y => one (go κ C x y) * cb κ R C mk t s j y) := rfl
theorem cf_end (κ R C : Nat) (mk t : Nat → Nat) (s : Nat) : ∀ j, j ≤ s - 1 → sumN (R * C) (fun x => cf κ R C mk t (fun _ => true) (s - 1 - j) x * ch κ R C mk t s j x) = sumN (R * C) (fun x => cf κ R C mk t (fun _ => true) (s - 1) x) := by
  intro j
  induction j with
  | zero => intro _; exact sumN_congr fun i _ => by simp [ch]
  | succ j ih =>
    intro hj
    rw [← ih (by omega)]
    have e : s - 1 - j = (s - 1 - (j + 1)) + 1 := by omega
    calc sumN (R * C) (fun x => cf κ R C mk t (fun _ => true) (s - 1 - (j + 1)) x * ch κ R C mk t s (j + 1) x)
        = sumN (R * C) (fun x => sumN (R * C) (fun y => one (go κ C x y) * (one (atB R C mk (t (s - 1 - j)) y) * ch κ R C mk t s j y) * cf κ R C mk t (fun _ => true) (s - 1 - (j + 1)) x)) := sumN_congr fun x _ => by
            rw [sumN_mul, Nat.mul_comm]
            rfl
      _ = sumN (R * C) (fun y => sumN (R * C) (fun x => one (go κ C x y) * (one (atB R C mk (t (s - 1 - j)) y) * ch κ R C mk t s j y) * cf κ R C mk t (fun _ => true) (s - 1 - (j + 1)) x)) := sumN_swap _ _ _
      _ = sumN (R * C) (fun y => cf κ R C mk t (fun _ => true) (s - 1 - j) y * ch κ R C mk t s j y) := sumN_congr fun y _ => by
            rw [e]
            simp only [cf]
            rw [← e]
            rw [Nat.mul_assoc, Nat.mul_comm (sumN _ _) _, ← Nat.mul_assoc, Nat.mul_comm _ (sumN _ _), ← sumN_mul]
            exact sumN_congr fun x _ => by
              ac_rfl
theorem ways_same (κ R C : Nat) (mk t : Nat → Nat) {s : Nat} (hs : 1 ≤ s) : sumN (R * C) (cb κ R C mk t s (s - 1)) = sumN (R * C) (cf κ R C mk t (fun _ => true) (s - 1)) := by
  rw [← cf_end κ R C mk t s (s - 1) (Nat.le_refl _)]
  exact sumN_congr fun x _ => by
    rw [Nat.sub_self]
    simp [cf, cb]
/-- sets: where the rows may be -/
def fw (κ R C : Nat) (mk t : Nat → Nat) (f0 : Nat → Bool) (i : Nat) : Nat → Bool := fun x => decide (0 < cf κ R C mk t f0 i x)
def bw (κ R C : Nat) (mk t : Nat → Nat) (s j : Nat) : Nat → Bool := fun x => decide (0 < cb κ R C mk t s j x)
theorem atB_sup (R C : Nat) (mk : Nat → Nat) (m : Nat) : Sup (R * C) (atB R C mk m) := fun i hi => by
  have : ¬ i < R * C := by omega
  simp [atB, this]
theorem fw_iff {κ R C : Nat} {mk t : Nat → Nat} {f0 : Nat → Bool} {i x : Nat} : fw κ R C mk t f0 i x = true ↔ 0 < cf κ R C mk t f0 i x := by unfold fw; exact decide_eq_true_iff
theorem bw_iff {κ R C : Nat} {mk t : Nat → Nat} {s j x : Nat} : bw κ R C mk t s j x = true ↔ 0 < cb κ R C mk t s j x := by unfold bw; exact decide_eq_true_iff
theorem cf_s (κ R C : Nat) (mk t : Nat → Nat) (f0 : Nat → Bool) (i y : Nat) : cf κ R C mk t f0 (i + 1) y = one (atB R C mk (t (i + 1)) y) * sumN (R * C) (fun x => one (go κ C x y) * cf κ R C mk t f0 i x) := rfl
theorem fw_0 (κ R C : Nat) (mk t : Nat → Nat) (f0 : Nat → Bool) (x : Nat) : fw κ R C mk t f0 0 x = (f0 x && atB R C mk (t 0) x) := by
  rw [Bool.eq_iff_iff]
  simp only [fw, decide_eq_true_eq, cf, one_pos]
theorem mul_pos' {a b : Nat} : 0 < a * b ↔ 0 < a ∧ 0 < b := ⟨fun h => ⟨Nat.pos_of_mul_pos_right h, Nat.pos_of_mul_pos_left h⟩, fun h => Nat.mul_pos h.1 h.2⟩
theorem fw_s (κ R C : Nat) (mk t : Nat → Nat) (f0 : Nat → Bool) (i x : Nat) : fw κ R C mk t f0 (i + 1) x = (rch κ R C (fw κ R C mk t f0 i) x && atB R C mk (t (i + 1)) x) := by
  rw [Bool.eq_iff_iff]
  rw [fw_iff, cf_s, Bool.and_eq_true, rch_iff, mul_pos', one_pos, sumN_pos]
  simp only [fw_iff]
  constructor
  · rintro ⟨h1, y, h2, h3⟩
    rw [mul_pos', one_pos] at h3
    exact ⟨⟨(atB_sup R C mk _).lt h1, y, h2, h3.2, h3.1⟩, h1⟩
  · rintro ⟨⟨_, y, h2, h3, h4⟩, h1⟩
    exact ⟨h1, y, h2, by rw [mul_pos', one_pos]; exact ⟨h4, h3⟩⟩
theorem fw_sup (κ R C : Nat) (mk t : Nat → Nat) (f0 : Nat → Bool) (i : Nat) : Sup (R * C) (fw κ R C mk t f0 i) := fun x hx => by
  cases i with
  | zero => rw [fw_0, atB_sup R C mk _ x hx, Bool.and_false]
  | succ i => rw [fw_s, atB_sup R C mk _ x hx, Bool.and_false]
theorem bw_0 (κ R C : Nat) (mk t : Nat → Nat) (s x : Nat) : bw κ R C mk t s 0 x = atB R C mk (t (s - 1)) x := by
  rw [Bool.eq_iff_iff]
  simp only [bw, decide_eq_true_eq, cb_0, one_pos]
theorem bw_s (κ R C : Nat) (mk t : Nat → Nat) (s j x : Nat) : bw κ R C mk t s (j + 1) x = (rch κ R C (bw κ R C mk t s j) x && atB R C mk (t (s - 1 - (j + 1))) x) := by
  rw [Bool.eq_iff_iff]
  rw [bw_iff, cb_s, Bool.and_eq_true, rch_iff, mul_pos', one_pos, sumN_pos]
  simp only [bw_iff]
  constructor
  · rintro ⟨h1, y, h2, h3⟩
    rw [mul_pos', one_pos] at h3
    exact ⟨⟨(atB_sup R C mk _).lt h1, y, h2, h3.2, by rw [go_comm]; exact h3.1⟩, h1⟩
  · rintro ⟨⟨_, y, h2, h3, h4⟩, h1⟩
    exact ⟨h1, y, h2, by rw [mul_pos', one_pos]; exact ⟨by rw [go_comm]; exact h4, h3⟩⟩
theorem bw_sup (κ R C : Nat) (mk t : Nat → Nat) (s j : Nat) : Sup (R * C) (bw κ R C mk t s j) := fun x hx => by
  cases j with
  | zero => rw [bw_0, atB_sup R C mk _ x hx]
  | succ j => rw [bw_s, atB_sup R C mk _ x hx, Bool.and_false]
/-- no count is above 16 ^ 5 -/
theorem cf_le {κ R C : Nat} (h : R * C ≤ 16) (mk t : Nat → Nat) (f0 : Nat → Bool) : ∀ i x, cf κ R C mk t f0 i x ≤ 16 ^ i := by
  intro i
  induction i with
  | zero => intro x; exact one_le _
  | succ i ih =>
    intro x
    simp only [cf]
    have h1 : sumN (R * C) (fun y => one (go κ C y x) * cf κ R C mk t f0 i y) ≤ R * C * 16 ^ i := sumN_le fun y _ => Nat.le_trans (Nat.mul_le_mul (one_le _) (ih y)) (by rw [Nat.one_mul]; exact Nat.le_refl _)
    have h2 := Nat.mul_le_mul (one_le (atB R C mk (t (i + 1)) x)) h1
    have h3 := Nat.mul_le_mul_right (16 ^ i) h
    rw [Nat.pow_succ]
    omega
theorem ch_le {κ R C : Nat} (h : R * C ≤ 16) (mk t : Nat → Nat) (s : Nat) : ∀ j x, ch κ R C mk t s j x ≤ 16 ^ j := by
  intro j
  induction j with
  | zero => intro x; exact Nat.le_refl _
  | succ j ih =>
    intro x
    simp only [ch]
    have h1 : sumN (R * C) (fun y => one (go κ C x y) * (one (atB R C mk (t (s - 1 - j)) y) * ch κ R C mk t s j y)) ≤ R * C * 16 ^ j := sumN_le fun y _ => by
      have q1 := Nat.mul_le_mul (one_le (atB R C mk (t (s - 1 - j)) y)) (ih y)
      have q2 := Nat.mul_le_mul (one_le (go κ C x y)) q1
      simpa using q2
    have h3 := Nat.mul_le_mul_right (16 ^ j) h
    rw [Nat.pow_succ]
    omega
theorem cb_le {κ R C : Nat} (h : R * C ≤ 16) (mk t : Nat → Nat) (s j x : Nat) : cb κ R C mk t s j x ≤ 16 ^ j := by
  have q := Nat.mul_le_mul (one_le (atB R C mk (t (s - 1 - j)) x)) (ch_le (κ := κ) h mk t s j x)
  simpa [cb] using q

