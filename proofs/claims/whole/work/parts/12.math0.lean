
-- shapes
def Sh (R C : Nat) : Prop := 2 ≤ R ∧ R ≤ 4 ∧ 2 ≤ C ∧ C ≤ 4
theorem Sh.cases {R C : Nat} (h : Sh R C) : (R = 2 ∨ R = 3 ∨ R = 4) ∧ (C = 2 ∨ C = 3 ∨ C = 4) := by
  obtain ⟨h1, h2, h3, h4⟩ := h
  omega
theorem Sh.le {R C : Nat} (h : Sh R C) : R * C ≤ 16 := by
  obtain ⟨h1, h2, h3, h4⟩ := h
  exact Nat.mul_le_mul h2 h4
theorem Sh.pos {R C : Nat} (h : Sh R C) : 4 ≤ R * C := by
  obtain ⟨h1, h2, h3, h4⟩ := h
  exact Nat.mul_le_mul h1 h3
def shL : List (Nat × Nat) := [(2, 2), (2, 3), (2, 4), (3, 2), (3, 3), (3, 4), (4, 2), (4, 3), (4, 4)]
theorem Sh.mem {R C : Nat} (h : Sh R C) : (R, C) ∈ shL := by
  obtain ⟨hR, hC⟩ := h.cases
  rcases hR with rfl | rfl | rfl <;> rcases hC with rfl | rfl | rfl <;> decide

