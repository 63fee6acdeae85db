
-- steps of sets, as the ints do them
theorem st_up {R C : Nat} (h : Sh R C) {f : Nat → Bool} (hf : Sup (R * C) f) : ((S f).toUInt32 >>> ((nI C).toUInt32 &&& Int32.toUInt32 31)).toInt32 = S (stepB R C 0 f) := by
  have hC := h.2.2.2
  have hl := h.le
  rw [S_ushr f (by omega)]
  apply S_ext
  intro i hi
  rw [Bool.eq_iff_iff, stepB0]
  simp only [Bool.and_eq_true, decide_eq_true_eq]
  constructor
  · rintro ⟨h1, h2⟩
    have := hf.lt h2
    exact ⟨by omega, by rw [Nat.add_comm]; exact h2⟩
  · rintro ⟨h1, h2⟩
    have := hf.lt h2
    exact ⟨by omega, by rw [Nat.add_comm]; exact h2⟩
theorem st_down {R C : Nat} (h : Sh R C) {f : Nat → Bool} (hf : Sup (R * C) f) : (S f <<< (nI C &&& 31)) &&& S (fun i => decide (i < R * C)) = S (stepB R C 1 f) := by
  have hC := h.2.2.2
  have hl := h.le
  apply b_ext
  intro i hi
  rw [b_and, b_shl C (by omega) _ hi, b_S f (by omega), b_S _ hi, b_S _ hi, Bool.eq_iff_iff]
  simp only [Bool.and_eq_true, decide_eq_true_eq, stepB1]
  constructor
  · rintro ⟨⟨h1, h2, h3⟩, h4, h5⟩
    exact ⟨h4, h5, h1, h3⟩
  · rintro ⟨h1, h2, h3, h4⟩
    exact ⟨⟨h3, by omega, h4⟩, h1, h2⟩
theorem st_right {R C : Nat} (h : Sh R C) {f : Nat → Bool} (hf : Sup (R * C) f) : (S f &&& (S (fun i => decide (i < R * C) && decide (i % C = C - 1)) ^^^ (-1))) <<< ((1 : Int32) &&& 31) = S (stepB R C 2 f) := by
  show _ <<< (nI 1 &&& 31) = _
  have hl := h.le
  rw [S_andnot]
  apply b_ext
  intro i hi
  rw [b_shl 1 (by omega) _ hi, b_S _ (by omega), b_S _ hi, Bool.eq_iff_iff]
  simp only [Bool.and_eq_true, decide_eq_true_eq, stepB2, Bool.not_eq_true', Bool.and_eq_false_iff, decide_eq_false_iff_not]
  constructor
  · rintro ⟨h1, h2, h3, h4⟩
    have h5 := hf.lt h3
    have key : i < R * C ∧ i % C ≠ 0 := by
      obtain ⟨hR, hC⟩ := h.cases
      rcases hR with rfl | rfl | rfl <;> rcases hC with rfl | rfl | rfl <;> omega
    exact ⟨by omega, key.1, key.2, h3⟩
  · rintro ⟨h1, h2, h3, h4⟩
    have h5 := hf.lt h4
    have key : 1 ≤ i ∧ ¬ (i - 1) % C = C - 1 := by
      obtain ⟨hR, hC⟩ := h.cases
      rcases hR with rfl | rfl | rfl <;> rcases hC with rfl | rfl | rfl <;> omega
    exact ⟨key.1, by omega, h4, Or.inr key.2⟩
theorem st_left {R C : Nat} (h : Sh R C) {f : Nat → Bool} (hf : Sup (R * C) f) : ((S f &&& (S (fun i => decide (i < R * C) && decide (i % C = 0)) ^^^ (-1))).toUInt32 >>> ((1 : Int32).toUInt32 &&& Int32.toUInt32 31)).toInt32 = S (stepB R C 3 f) := by
  show (_ >>> ((nI 1).toUInt32 &&& _)).toInt32 = _
  have hl := h.le
  rw [S_andnot, S_ushr _ (by omega)]
  apply S_ext
  intro i hi
  rw [Bool.eq_iff_iff, stepB3]
  simp only [Bool.and_eq_true, decide_eq_true_eq, Bool.not_eq_true', Bool.and_eq_false_iff, decide_eq_false_iff_not]
  constructor
  · rintro ⟨h1, h2, h3⟩
    have h5 := hf.lt h2
    exact ⟨by omega, by rw [Nat.add_comm]; rcases h3 with q | q; exact absurd h5 q; exact q, by rw [Nat.add_comm]; exact h2⟩
  · rintro ⟨h1, h2, h3⟩
    have h5 := hf.lt h3
    exact ⟨by omega, by rw [Nat.add_comm]; exact h3, Or.inr (by rw [Nat.add_comm]; exact h2)⟩
def nr2 (C x y : Nat) : Bool := (decide (0 < apt C x y) && decide (apt C x y ≤ 1)) || decide (x = y + C + C) || (decide (C ≤ y) && (decide (C ≤ y - C) && decide (x = y - C - C))) || (decide (y % C ≠ 0) && (decide ((y - 1) % C ≠ 0) && decide (x = y - 1 - 1))) || (decide (y % C ≠ 0) && decide (x = y - 1 + C)) || (decide (y % C ≠ 0) && (decide (C ≤ y - 1) && decide (x = y - 1 - C))) || (decide ((y + 1) % C ≠ 0) && (decide ((y + 1 + 1) % C ≠ 0) && decide (x = y + 1 + 1))) || (decide ((y + 1) % C ≠ 0) && decide (x = y + 1 + C)) || (decide ((y + 1) % C ≠ 0) && (decide (C ≤ y + 1) && decide (x = y + 1 - C)))
theorem near2_all : ∀ q ∈ shL, ∀ x, x < q.1 * q.2 → ∀ y, y < q.1 * q.2 → (decide (0 < apt q.2 x y) && decide (apt q.2 x y ≤ 2)) = nr2 q.2 x y := by decide +kernel
theorem near2 {R C : Nat} (h : Sh R C) {x y : Nat} (hx : x < R * C) (hy : y < R * C) : (0 < apt C x y ∧ apt C x y ≤ 2) ↔ ((0 < apt C x y ∧ apt C x y ≤ 1) ∨ x = y + C + C ∨ (C ≤ y ∧ C ≤ y - C ∧ x = y - C - C) ∨ (y % C ≠ 0 ∧ (y - 1) % C ≠ 0 ∧ x = y - 1 - 1) ∨ (y % C ≠ 0 ∧ x = y - 1 + C) ∨ (y % C ≠ 0 ∧ C ≤ y - 1 ∧ x = y - 1 - C) ∨ ((y + 1) % C ≠ 0 ∧ (y + 1 + 1) % C ≠ 0 ∧ x = y + 1 + 1) ∨ ((y + 1) % C ≠ 0 ∧ x = y + 1 + C) ∨ ((y + 1) % C ≠ 0 ∧ C ≤ y + 1 ∧ x = y + 1 - C)) := by
  have z := near2_all (R, C) h.mem x hx y hy
  rw [Bool.eq_iff_iff] at z
  unfold nr2 at z
  simp only [Bool.or_eq_true, Bool.and_eq_true, decide_eq_true_eq, or_assoc] at z
  exact z
theorem row_lt {R C i : Nat} (h : Sh R C) (hi : i < R * C) (hr : (i + 1) % C ≠ 0) : i + 1 < R * C := by
  obtain ⟨hR, hC⟩ := h.cases
  rcases hR with rfl | rfl | rfl <;> rcases hC with rfl | rfl | rfl <;> omega
def win2 (R C : Nat) (f : Nat → Bool) : Nat → Bool := fun i => stepB R C 0 f i || stepB R C 1 f i || stepB R C 2 f i || stepB R C 3 f i || stepB R C 0 (stepB R C 0 f) i || stepB R C 1 (stepB R C 1 f) i || stepB R C 2 (fun j => stepB R C 2 f j || stepB R C 0 f j || stepB R C 1 f j) i || stepB R C 3 (fun j => stepB R C 3 f j || stepB R C 0 f j || stepB R C 1 f j) i
theorem win2_rch {R C : Nat} (h : Sh R C) {f : Nat → Bool} (hf : Sup (R * C) f) (i : Nat) : win2 R C f i = rch 2 R C f i := by
  rw [Bool.eq_iff_iff]
  unfold win2
  simp only [Bool.or_eq_true, stepB0, stepB1, stepB2, stepB3, rch_iff, go_iff, if_true]
  have e3 : ∀ p : Prop, ((2 : Nat) = 3 ∨ p) ↔ p := fun p => by simp
  simp only [e3]
  have one : ∀ {x}, x < R * C → i < R * C → (x = i + C ∨ (C ≤ i ∧ x = i - C) ∨ (i % C ≠ 0 ∧ x = i - 1) ∨ ((i + 1) % C ≠ 0 ∧ x = i + 1)) → (0 < apt C x i ∧ apt C x i ≤ 2) := fun hx hi q => by
    have := (near1 h hx hi).mpr q
    omega
  have two : ∀ {x}, x < R * C → i < R * C → (x = i + C + C ∨ (C ≤ i ∧ C ≤ i - C ∧ x = i - C - C) ∨ (i % C ≠ 0 ∧ (i - 1) % C ≠ 0 ∧ x = i - 1 - 1) ∨ (i % C ≠ 0 ∧ x = i - 1 + C) ∨ (i % C ≠ 0 ∧ C ≤ i - 1 ∧ x = i - 1 - C) ∨ ((i + 1) % C ≠ 0 ∧ (i + 1 + 1) % C ≠ 0 ∧ x = i + 1 + 1) ∨ ((i + 1) % C ≠ 0 ∧ x = i + 1 + C) ∨ ((i + 1) % C ≠ 0 ∧ C ≤ i + 1 ∧ x = i + 1 - C)) → (0 < apt C x i ∧ apt C x i ≤ 2) := fun hx hi q => (near2 h hx hi).mpr (Or.inr q)
  constructor
  · rintro (((((((⟨h1, h2⟩ | ⟨h1, h2, h3⟩) | ⟨h1, h2, h3⟩) | ⟨h1, h2, h3⟩) | ⟨h1, h2, h3⟩) | ⟨h1, h2, h3, h4, h5⟩) | ⟨h1, h2, ((⟨h3, h4, h5⟩ | ⟨h3, h5⟩) | ⟨h3, h4, h5⟩)⟩) | ⟨h1, h2, ((⟨h3, h4, h5⟩ | ⟨h3, h5⟩) | ⟨h3, h4, h5⟩)⟩)
    · exact ⟨h1, _, hf.lt h2, h2, one (hf.lt h2) h1 (Or.inl rfl)⟩
    · exact ⟨h1, _, hf.lt h3, h3, one (hf.lt h3) h1 (Or.inr (Or.inl ⟨h2, rfl⟩))⟩
    · exact ⟨h1, _, hf.lt h3, h3, one (hf.lt h3) h1 (Or.inr (Or.inr (Or.inl ⟨h2, rfl⟩)))⟩
    · exact ⟨h1, _, hf.lt h3, h3, one (hf.lt h3) h1 (Or.inr (Or.inr (Or.inr ⟨h2, rfl⟩)))⟩
    · exact ⟨h1, _, hf.lt h3, h3, two (hf.lt h3) h1 (Or.inl rfl)⟩
    · exact ⟨h1, _, hf.lt h5, h5, two (hf.lt h5) h1 (Or.inr (Or.inl ⟨h2, h4, rfl⟩))⟩
    · exact ⟨h1, _, hf.lt h5, h5, two (hf.lt h5) h1 (Or.inr (Or.inr (Or.inl ⟨h2, h4, rfl⟩)))⟩
    · exact ⟨h1, _, hf.lt h5, h5, two (hf.lt h5) h1 (Or.inr (Or.inr (Or.inr (Or.inl ⟨h2, rfl⟩))))⟩
    · exact ⟨h1, _, hf.lt h5, h5, two (hf.lt h5) h1 (Or.inr (Or.inr (Or.inr (Or.inr (Or.inl ⟨h2, h4, rfl⟩)))))⟩
    · exact ⟨h1, _, hf.lt h5, h5, two (hf.lt h5) h1 (Or.inr (Or.inr (Or.inr (Or.inr (Or.inr (Or.inl ⟨h2, h4, rfl⟩))))))⟩
    · exact ⟨h1, _, hf.lt h5, h5, two (hf.lt h5) h1 (Or.inr (Or.inr (Or.inr (Or.inr (Or.inr (Or.inr (Or.inl ⟨h2, rfl⟩)))))))⟩
    · exact ⟨h1, _, hf.lt h5, h5, two (hf.lt h5) h1 (Or.inr (Or.inr (Or.inr (Or.inr (Or.inr (Or.inr (Or.inr ⟨h2, h4, rfl⟩)))))))⟩
  · rintro ⟨h1, x, hx, h2, h3⟩
    rcases (near2 h hx h1).mp h3 with q | rfl | ⟨q1, q2, rfl⟩ | ⟨q1, q2, rfl⟩ | ⟨q1, rfl⟩ | ⟨q1, q2, rfl⟩ | ⟨q1, q2, rfl⟩ | ⟨q1, rfl⟩ | ⟨q1, q2, rfl⟩
    · rcases (near1 h hx h1).mp q with rfl | ⟨w, rfl⟩ | ⟨w, rfl⟩ | ⟨w, rfl⟩
      · exact Or.inl (Or.inl (Or.inl (Or.inl (Or.inl (Or.inl (Or.inl ⟨h1, h2⟩))))))
      · exact Or.inl (Or.inl (Or.inl (Or.inl (Or.inl (Or.inl (Or.inr ⟨h1, w, h2⟩))))))
      · exact Or.inl (Or.inl (Or.inl (Or.inl (Or.inl (Or.inr ⟨h1, w, h2⟩)))))
      · exact Or.inl (Or.inl (Or.inl (Or.inl (Or.inr ⟨h1, w, h2⟩))))
    · exact Or.inl (Or.inl (Or.inl (Or.inr ⟨h1, by omega, h2⟩)))
    · exact Or.inl (Or.inl (Or.inr ⟨h1, q1, by omega, q2, h2⟩))
    · exact Or.inl (Or.inr ⟨h1, q1, Or.inl (Or.inl ⟨by omega, q2, h2⟩)⟩)
    · exact Or.inl (Or.inr ⟨h1, q1, Or.inl (Or.inr ⟨by omega, h2⟩)⟩)
    · exact Or.inl (Or.inr ⟨h1, q1, Or.inr ⟨by omega, q2, h2⟩⟩)
    · exact Or.inr ⟨h1, q1, Or.inl (Or.inl ⟨by omega, q2, h2⟩)⟩
    · exact Or.inr ⟨h1, q1, Or.inl (Or.inr ⟨by omega, h2⟩)⟩
    · exact Or.inr ⟨h1, q1, Or.inr ⟨row_lt h h1 q1, q2, h2⟩⟩
/-- elsewhere: all places but the one, or all, or none -/
theorem apt_0 {C x y : Nat} (hC : 0 < C) : apt C x y = 0 ↔ x = y := by
  unfold apt
  constructor
  · intro h
    have h1 : x / C = y / C := by omega
    have h2 : x % C = y % C := by omega
    rw [← Nat.div_add_mod x C, ← Nat.div_add_mod y C, h1, h2]
  · rintro rfl; omega
theorem rch3_iff {R C : Nat} (hC : 0 < C) {f : Nat → Bool} {y : Nat} : rch 3 R C f y = true ↔ y < R * C ∧ ∃ x, x < R * C ∧ f x = true ∧ x ≠ y := by
  rw [rch_iff]
  constructor
  · rintro ⟨h1, x, h2, h3, h4⟩
    refine ⟨h1, x, h2, h3, fun q => ?_⟩
    have := (go_iff.mp h4).1
    rw [(apt_0 hC).mpr q] at this
    omega
  · rintro ⟨h1, x, h2, h3, h4⟩
    refine ⟨h1, x, h2, h3, go_iff.mpr ⟨?_, Or.inl rfl⟩⟩
    rcases Nat.eq_zero_or_pos (apt C x y) with q | q
    · exact absurd ((apt_0 hC).mp q) h4
    · exact q

