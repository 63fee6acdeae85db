
-- places beside one another: the numbers alone
def apt (C x y : Nat) : Nat := (x / C - y / C) + (y / C - x / C) + ((x % C - y % C) + (y % C - x % C))
def go (κ C x y : Nat) : Bool := decide (0 < apt C x y) && (decide (κ = 3) || decide (apt C x y ≤ (if κ = 2 then 2 else 1)))
def anyB (P : Nat) (f : Nat → Bool) : Bool := (List.range P).any f
theorem anyB_iff {P : Nat} {f : Nat → Bool} : anyB P f = true ↔ ∃ i, i < P ∧ f i = true := by
  unfold anyB
  rw [List.any_eq_true]
  constructor
  · rintro ⟨i, h1, h2⟩; exact ⟨i, List.mem_range.mp h1, h2⟩
  · rintro ⟨i, h1, h2⟩; exact ⟨i, List.mem_range.mpr h1, h2⟩
theorem anyB_congr {P : Nat} {f g : Nat → Bool} (h : ∀ i, i < P → f i = g i) : anyB P f = anyB P g := by
  rw [Bool.eq_iff_iff, anyB_iff, anyB_iff]
  constructor
  · rintro ⟨i, h1, h2⟩; exact ⟨i, h1, by rw [← h i h1]; exact h2⟩
  · rintro ⟨i, h1, h2⟩; exact ⟨i, h1, by rw [h i h1]; exact h2⟩
def Sup (P : Nat) (f : Nat → Bool) : Prop := ∀ i, P ≤ i → f i = false
def rch (κ R C : Nat) (f : Nat → Bool) : Nat → Bool := fun y => decide (y < R * C) && anyB (R * C) (fun x => f x && go κ C x y)
theorem rch_sup (κ R C : Nat) (f : Nat → Bool) : Sup (R * C) (rch κ R C f) := fun i hi => by
  have : ¬ i < R * C := by omega
  simp [rch, this]
theorem rch_iff {κ R C : Nat} {f : Nat → Bool} {y : Nat} : rch κ R C f y = true ↔ y < R * C ∧ ∃ x, x < R * C ∧ f x = true ∧ go κ C x y = true := by
  unfold rch
  rw [Bool.and_eq_true, decide_eq_true_iff, anyB_iff]
  simp only [Bool.and_eq_true]
def stepB (R C d : Nat) (f : Nat → Bool) : Nat → Bool := fun i => decide (i < R * C) && (if d = 0 then f (i + C) else if d = 1 then decide (C ≤ i) && f (i - C) else if d = 2 then decide (i % C ≠ 0) && f (i - 1) else decide ((i + 1) % C ≠ 0) && f (i + 1))
theorem stepB_sup (R C d : Nat) (f : Nat → Bool) : Sup (R * C) (stepB R C d f) := fun i hi => by
  have : ¬ i < R * C := by omega
  simp [stepB, this]
theorem Sup.or {P : Nat} {f g : Nat → Bool} (h1 : Sup P f) (h2 : Sup P g) : Sup P (fun i => f i || g i) := fun i hi => by simp [h1 i hi, h2 i hi]
theorem stepB0 {R C : Nat} {f : Nat → Bool} {i : Nat} : stepB R C 0 f i = true ↔ i < R * C ∧ f (i + C) = true := by simp [stepB]
theorem stepB1 {R C : Nat} {f : Nat → Bool} {i : Nat} : stepB R C 1 f i = true ↔ i < R * C ∧ C ≤ i ∧ f (i - C) = true := by simp [stepB]
theorem stepB2 {R C : Nat} {f : Nat → Bool} {i : Nat} : stepB R C 2 f i = true ↔ i < R * C ∧ i % C ≠ 0 ∧ f (i - 1) = true := by simp [stepB]
theorem stepB3 {R C : Nat} {f : Nat → Bool} {i : Nat} : stepB R C 3 f i = true ↔ i < R * C ∧ (i + 1) % C ≠ 0 ∧ f (i + 1) = true := by simp [stepB]
theorem Sup.lt {P : Nat} {f : Nat → Bool} (h : Sup P f) {i : Nat} (hi : f i = true) : i < P := by
  rcases Nat.lt_or_ge i P with q | q
  · exact q
  · rw [h i q] at hi; cases hi
theorem go_iff {κ C x y : Nat} : go κ C x y = true ↔ 0 < apt C x y ∧ (κ = 3 ∨ apt C x y ≤ (if κ = 2 then 2 else 1)) := by
  unfold go
  simp only [Bool.and_eq_true, Bool.or_eq_true, decide_eq_true_eq]
theorem apt_comm (C x y : Nat) : apt C x y = apt C y x := by unfold apt; omega
theorem go_comm (κ C x y : Nat) : go κ C x y = go κ C y x := by unfold go; rw [apt_comm]
def nr1 (C x y : Nat) : Bool := decide (x = y + C) || (decide (C ≤ y) && decide (x = y - C)) || (decide (y % C ≠ 0) && decide (x = y - 1)) || (decide ((y + 1) % C ≠ 0) && decide (x = y + 1))
theorem near1_all : ∀ q ∈ shL, ∀ x, x < q.1 * q.2 → ∀ y, y < q.1 * q.2 → (decide (0 < apt q.2 x y) && decide (apt q.2 x y ≤ 1)) = nr1 q.2 x y := by decide +kernel
theorem near1 {R C : Nat} (h : Sh R C) {x y : Nat} (hx : x < R * C) (hy : y < R * C) : (0 < apt C x y ∧ apt C x y ≤ 1) ↔ (x = y + C ∨ (C ≤ y ∧ x = y - C) ∨ (y % C ≠ 0 ∧ x = y - 1) ∨ ((y + 1) % C ≠ 0 ∧ x = y + 1)) := by
  have z := near1_all (R, C) h.mem x hx y hy
  rw [Bool.eq_iff_iff] at z
  unfold nr1 at z
  simp only [Bool.or_eq_true, Bool.and_eq_true, decide_eq_true_eq, or_assoc] at z
  exact z
theorem beside_rch {R C κ : Nat} (h : Sh R C) (hκ : κ ≠ 2) (hκ3 : κ ≠ 3) {f : Nat → Bool} (hf : Sup (R * C) f) (i : Nat) : (stepB R C 0 f i || stepB R C 1 f i || stepB R C 2 f i || stepB R C 3 f i) = rch κ R C f i := by
  rw [Bool.eq_iff_iff]
  simp only [Bool.or_eq_true, stepB0, stepB1, stepB2, stepB3, rch_iff, go_iff, hκ, hκ3, if_false, false_or]
  constructor
  · rintro (((⟨h1, h2⟩ | ⟨h1, h2, h3⟩) | ⟨h1, h2, h3⟩) | ⟨h1, h2, h3⟩)
    · exact ⟨h1, _, hf.lt h2, h2, (near1 h (hf.lt h2) h1).mpr (Or.inl rfl)⟩
    · exact ⟨h1, _, hf.lt h3, h3, (near1 h (hf.lt h3) h1).mpr (Or.inr (Or.inl ⟨h2, rfl⟩))⟩
    · exact ⟨h1, _, hf.lt h3, h3, (near1 h (hf.lt h3) h1).mpr (Or.inr (Or.inr (Or.inl ⟨h2, rfl⟩)))⟩
    · exact ⟨h1, _, hf.lt h3, h3, (near1 h (hf.lt h3) h1).mpr (Or.inr (Or.inr (Or.inr ⟨h2, rfl⟩)))⟩
  · rintro ⟨h1, x, hx, h2, h3⟩
    rcases (near1 h hx h1).mp h3 with rfl | ⟨q, rfl⟩ | ⟨q, rfl⟩ | ⟨q, rfl⟩
    · exact Or.inl (Or.inl (Or.inl ⟨h1, h2⟩))
    · exact Or.inl (Or.inl (Or.inr ⟨h1, q, h2⟩))
    · exact Or.inl (Or.inr ⟨h1, q, h2⟩)
    · exact Or.inr ⟨h1, q, h2⟩

