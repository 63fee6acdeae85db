
-- rows of 52 numbers: what a delta's story is; a Story of the class as such a row
def RowOK (ρ : Nat → Nat) : Prop := (∀ i, i < 16 → ρ i ≤ 5) ∧ ρ 16 ≤ 5 ∧ ∀ w, w < ρ 16 → ρ (17 + 7 * w) ≤ 3 ∧ 2 ≤ ρ (18 + 7 * w) ∧ ρ (18 + 7 * w) ≤ 5 ∧ ∀ j, j < ρ (18 + 7 * w) → ρ (19 + 7 * w + j) ≤ 5
def XR (h : Hp) (k : Nat) (ρ : Nat → Nat) : Prop := (∀ i, i < 16 → h (k + 1) i = nI (ρ i)) ∧ h k 4 = nI (ρ 16) ∧ ∀ w, w < ρ 16 → h (k + 2) w = nI (ρ (17 + 7 * w)) ∧ h (k + 3) w = nI (ρ (18 + 7 * w)) ∧ ∀ j, j < ρ (18 + 7 * w) → h (k + 4) (5 * w + j) = nI (ρ (19 + 7 * w + j))
def kw (ρ : Nat → Nat) (w : Nat) : Nat := ρ (17 + 7 * w)
def sw (ρ : Nat → Nat) (w : Nat) : Nat := ρ (18 + 7 * w)
/-- the mark of the i-th place of a row along which walk w lies -/
def tm (ρ : Nat → Nat) (w i : Nat) : Nat := if kw ρ w = 1 then ρ (19 + 7 * w + (sw ρ w - 1 - i)) else ρ (19 + 7 * w + i)
theorem XR.congr {h h' : Hp} {k : Nat} {ρ : Nat → Nat} (q : XR h k ρ) (e : ∀ a, k ≤ a → a ≤ k + 4 → h' a = h a) : XR h' k ρ := by
  unfold XR at *
  rw [e k (by omega) (by omega), e (k + 1) (by omega) (by omega), e (k + 2) (by omega) (by omega), e (k + 3) (by omega) (by omega), e (k + 4) (by omega) (by omega)]
  exact q
theorem XR.of_copy {h h' : Hp} {k j : Nat} {ρ : Nat → Nat} (ok : RowOK ρ) (q : XR h j ρ) (c : CopyOf k j h h') : XR h' k ρ := by
  obtain ⟨c0, c1, c2, c3, c4, c5⟩ := c
  obtain ⟨q1, q2, q3⟩ := q
  obtain ⟨o1, o2, o3⟩ := ok
  refine ⟨fun i hi => by rw [c1 i hi]; exact q1 i hi, by rw [c5]; exact q2, fun w hw => ?_⟩
  obtain ⟨a1, a2, a3⟩ := q3 w hw
  obtain ⟨b1, b2, b3, b4⟩ := o3 w hw
  exact ⟨by rw [c2 w (by omega)]; exact a1, by rw [c3 w (by omega)]; exact a2, fun j hj => by rw [c4 _ (by omega)]; exact a3 j hj⟩
theorem tm_le {ρ : Nat → Nat} (ok : RowOK ρ) {w i : Nat} (hw : w < ρ 16) (hi : i < sw ρ w) : tm ρ w i ≤ 5 := by
  obtain ⟨_, _, o3⟩ := ok
  obtain ⟨b1, b2, b3, b4⟩ := o3 w hw
  unfold sw at hi
  unfold tm sw
  split
  · exact b4 _ (by omega)
  · exact b4 _ hi
section VRO
variable {l : Launch} {D : va_G} {cy : CY} {B n : Nat} {h : Hp} {lg : Lg} {π : Nat → Nat}
theorem c_rowMark {k w i : Nat} {ρ : Nat → Nat} (hn : 89 ≤ n) (hs : St k) (q : XR h k ρ) (ok : RowOK ρ) (hw : w < ρ 16) (hi : i < sw ρ w) : Ctr l D cy B yX5_rowMark wsX5_rowMark rmX5_rowMark 0 0 n (rf0 π) h lg [.ref (B + k), .int (nI w), .int (nI i)] (uI (nI (tm ρ w i)) (rf0 π) h lg) := by
  obtain ⟨o1, o2, o3⟩ := ok
  obtain ⟨b1, b2, b3, b4⟩ := o3 w hw
  obtain ⟨a1, a2, a3⟩ := q.2.2 w hw
  unfold sw at hi
  have z := c_X5_rowMark (l := l) (D := D) (cy := cy) (B := B) (n := n) (h := h) (lg := lg) (π := π) (k := k) (w := w) (i := i) hn hs (by omega) a1 b1 a2 b3 hi
  have e : (if ρ (17 + 7 * w) = 1 then h (k + 4) (5 * w + (ρ (18 + 7 * w) - 1 - i)) else h (k + 4) (5 * w + i)) = nI (tm ρ w i) := by
    unfold tm kw sw
    split
    · exact a3 _ (by omega)
    · exact a3 _ hi
  rw [e] at z
  exact z
theorem c_kindOf {k w : Nat} {ρ : Nat → Nat} (hn : 89 ≤ n) (hs : St k) (q : XR h k ρ) (ok : RowOK ρ) (hw : w < ρ 16) : Ctr l D cy B yX5_kindOf wsX5_kindOf rmX5_kindOf 0 0 n (rf0 π) h lg [.ref (B + k), .int (nI w)] (uI (nI (kw ρ w)) (rf0 π) h lg) := by
  have z := c_X5_kindOf (l := l) (D := D) (cy := cy) (B := B) (n := n) (h := h) (lg := lg) (π := π) (k := k) (w := w) hn hs (by have := ok.2.1; omega)
  rw [(q.2.2 w hw).1] at z
  exact z
theorem c_sizeOf {k w : Nat} {ρ : Nat → Nat} (hn : 89 ≤ n) (hs : St k) (q : XR h k ρ) (ok : RowOK ρ) (hw : w < ρ 16) : Ctr l D cy B yX5_sizeOf wsX5_sizeOf rmX5_sizeOf 0 0 n (rf0 π) h lg [.ref (B + k), .int (nI w)] (uI (nI (sw ρ w)) (rf0 π) h lg) := by
  have z := c_X5_sizeOf (l := l) (D := D) (cy := cy) (B := B) (n := n) (h := h) (lg := lg) (π := π) (k := k) (w := w) hn hs (by have := ok.2.1; omega)
  rw [(q.2.2 w hw).2.1] at z
  exact z
theorem c_toldMark {k w i : Nat} {ρ : Nat → Nat} (hn : 89 ≤ n) (hs : St k) (q : XR h k ρ) (ok : RowOK ρ) (hw : w < ρ 16) (hi : i < sw ρ w) : Ctr l D cy B yX5_toldMark wsX5_toldMark rmX5_toldMark 0 0 n (rf0 π) h lg [.ref (B + k), .int (nI w), .int (nI i)] (uI (nI (ρ (19 + 7 * w + i))) (rf0 π) h lg) := by
  obtain ⟨b1, b2, b3, b4⟩ := ok.2.2 w hw
  have hi' : i < ρ (18 + 7 * w) := hi
  have z := c_X5_toldMark (l := l) (D := D) (cy := cy) (B := B) (n := n) (h := h) (lg := lg) (π := π) (k := k) (w := w) (j := i) hn hs (by have := ok.2.1; omega) (by omega)
  rw [(q.2.2 w hw).2.2 i hi'] at z
  exact z
end VRO

