
-- sets of places joined one to another
theorem grow_s (R C : Nat) (g f0 : Nat → Bool) (j x : Nat) : grow R C g f0 (j + 1) x = (grow R C g f0 j x || (rch 0 R C (grow R C g f0 j) x && g x)) := rfl
theorem grow_up {R C : Nat} {g f0 : Nat → Bool} {j x : Nat} (h : grow R C g f0 j x = true) : ∀ d, grow R C g f0 (j + d) x = true := by
  intro d
  induction d with
  | zero => exact h
  | succ d ih => rw [show j + (d + 1) = (j + d) + 1 by omega, grow_s, ih]; rfl
theorem grow_stay {R C : Nat} {g f0 : Nat → Bool} {j : Nat} (h : grow R C g f0 (j + 1) = grow R C g f0 j) : ∀ d, grow R C g f0 (j + d) = grow R C g f0 j := by
  intro d
  induction d with
  | zero => rfl
  | succ d ih =>
    rw [show j + (d + 1) = (j + d) + 1 by omega]
    calc grow R C g f0 (j + d + 1) = (fun x => grow R C g f0 (j + d) x || (rch 0 R C (grow R C g f0 (j + d)) x && g x)) := rfl
      _ = (fun x => grow R C g f0 j x || (rch 0 R C (grow R C g f0 j) x && g x)) := by rw [ih]
      _ = grow R C g f0 (j + 1) := rfl
      _ = grow R C g f0 j := h
theorem cnt_le16 (f : Nat → Bool) : cnt f ≤ 16 := by
  have := sumN_le (n := 16) (f := fun i => one (f i)) (b := 1) (fun i _ => one_le _)
  unfold cnt; omega
theorem grow_cnt {R C : Nat} {g f0 : Nat → Bool} (hl : R * C ≤ 16) (h0 : Sup (R * C) f0) : ∀ j, (∃ i, i < j ∧ grow R C g f0 (i + 1) = grow R C g f0 i) ∨ j ≤ cnt (grow R C g f0 j) := by
  intro j
  induction j with
  | zero => exact Or.inr (Nat.zero_le _)
  | succ j ih =>
    rcases ih with ⟨i, h1, h2⟩ | h1
    · exact Or.inl ⟨i, by omega, h2⟩
    · by_cases st : grow R C g f0 (j + 1) = grow R C g f0 j
      · exact Or.inl ⟨j, by omega, st⟩
      · right
        have : ∃ y, grow R C g f0 (j + 1) y ≠ grow R C g f0 j y := by
          apply Classical.byContradiction
          intro q
          refine st (funext fun y => ?_)
          apply Classical.byContradiction
          intro q2
          exact q ⟨y, q2⟩
        obtain ⟨y, hy⟩ := this
        have t0 : grow R C g f0 j y = false := by
          cases e : grow R C g f0 j y
          · rfl
          · exact absurd ((grow_up e 1).trans e.symm) hy
        have t1 : grow R C g f0 (j + 1) y = true := by
          cases e : grow R C g f0 (j + 1) y
          · rw [e, t0] at hy; exact absurd rfl hy
          · rfl
        have hyP := (grow_sup (g := g) h0 (j + 1)).lt t1
        have := sumN_lt (n := 16) (f := fun i => one (grow R C g f0 j i)) (g := fun i => one (grow R C g f0 (j + 1) i)) (fun z _ => by
          cases e : grow R C g f0 j z
          · exact Nat.zero_le _
          · have := grow_up e 1
            simp only [this]; exact Nat.le_refl _) (i := y) (by omega) (by simp only [t0, t1]; decide)
        unfold cnt at *
        omega
theorem grow_16 {R C : Nat} {g f0 : Nat → Bool} (hl : R * C ≤ 16) (h0 : Sup (R * C) f0) : grow R C g f0 17 = grow R C g f0 16 := by
  rcases grow_cnt (g := g) hl h0 17 with ⟨i, h1, h2⟩ | h1
  · have a := grow_stay h2 (17 - i)
    have b := grow_stay h2 (16 - i)
    rw [show i + (17 - i) = 17 by omega] at a
    rw [show i + (16 - i) = 16 by omega] at b
    rw [a, b]
  · have := cnt_le16 (grow R C g f0 17)
    omega
def cc (R C : Nat) (g : Nat → Bool) (x : Nat) : Nat → Bool := grow R C g (fun i => decide (i = x)) 16
theorem cc_self (R C : Nat) (g : Nat → Bool) (x : Nat) : cc R C g x x = true := by
  have := grow_up (R := R) (C := C) (g := g) (f0 := fun i => decide (i = x)) (j := 0) (x := x) (by simp [grow]) 16
  rw [Nat.zero_add] at this
  exact this
theorem cc_sup {R C x : Nat} {g : Nat → Bool} (hx : x < R * C) : Sup (R * C) (cc R C g x) := grow_sup (sup_pt hx) 16
theorem cc_cl {R C x y z : Nat} {g : Nat → Bool} (hl : R * C ≤ 16) (hx : x < R * C) (h : cc R C g x y = true) (hz : z < R * C) (hg : go 0 C y z = true) (gz : g z = true) : cc R C g x z = true := by
  have hy := (cc_sup hx).lt h
  unfold cc at *
  rw [← grow_16 hl (sup_pt hx), grow_s, gz, rch_iff.mpr ⟨hz, y, hy, h, hg⟩]
  simp
theorem grow_least {R C x : Nat} {g : Nat → Bool} {f : Nat → Prop} (h0 : f x) (hc : ∀ y z, f y → y < R * C → z < R * C → go 0 C y z = true → g z = true → f z) : ∀ j y, grow R C g (fun i => decide (i = x)) j y = true → f y := by
  intro j
  induction j with
  | zero =>
    intro y h
    simp only [grow, decide_eq_true_eq] at h
    rw [h]; exact h0
  | succ j ih =>
    intro y h
    rw [grow_s, Bool.or_eq_true, Bool.and_eq_true, rch_iff] at h
    rcases h with h | ⟨⟨h1, w, h2, h3, h4⟩, h5⟩
    · exact ih y h
    · exact hc w y (ih w h3) h2 h1 h4 h5
theorem cc_least {R C x y : Nat} {g : Nat → Bool} {f : Nat → Prop} (h0 : f x) (hc : ∀ y z, f y → y < R * C → z < R * C → go 0 C y z = true → g z = true → f z) (h : cc R C g x y = true) : f y := grow_least h0 hc 16 y h
theorem cc_trans {R C x y z : Nat} {g : Nat → Bool} (hl : R * C ≤ 16) (hx : x < R * C) (h1 : cc R C g x y = true) (h2 : cc R C g y z = true) : cc R C g x z = true :=
  cc_least (f := fun w => cc R C g x w = true) h1 (fun a b ha _ hb hg gb => cc_cl hl hx ha hb hg gb) h2
theorem cc_g {R C x y : Nat} {g : Nat → Bool} (gx : g x = true) (h : cc R C g x y = true) : g y = true :=
  cc_least (f := fun w => g w = true) gx (fun a b _ _ _ _ gb => gb) h
theorem cc_symm {R C x y : Nat} {g : Nat → Bool} (hl : R * C ≤ 16) (hx : x < R * C) (gx : g x = true) (h : cc R C g x y = true) : cc R C g y x = true := by
  have := cc_least (f := fun w => w < R * C ∧ g w = true ∧ cc R C g w x = true) ⟨hx, gx, cc_self R C g x⟩ (fun a b ⟨a1, a2, a3⟩ _ hb hg gb => ⟨hb, gb, cc_trans hl hb (cc_cl hl hb (cc_self R C g b) a1 (by rw [go_comm]; exact hg) a2) a3⟩) h
  exact this.2.2
/-- what is left when the places below k are done -/
def lfB (R C : Nat) (g : Nat → Bool) (k : Nat) : Nat → Bool := fun y => g y && !anyB k (fun z => g z && cc R C g z y)
def hdB (R C : Nat) (g : Nat → Bool) (x : Nat) : Bool := lfB R C g x x
theorem lfB_0 (R C : Nat) (g : Nat → Bool) (y : Nat) : lfB R C g 0 y = g y := by simp [lfB, anyB]
theorem lfB_iff {R C k y : Nat} {g : Nat → Bool} : lfB R C g k y = true ↔ g y = true ∧ ∀ z, z < k → g z = true → ¬ cc R C g z y = true := by
  unfold lfB
  rw [Bool.and_eq_true, Bool.not_eq_true', Bool.eq_false_iff, ne_eq, anyB_iff]
  constructor
  · rintro ⟨h1, h2⟩
    exact ⟨h1, fun z hz gz q => h2 ⟨z, hz, by rw [gz, q]; rfl⟩⟩
  · rintro ⟨h1, h2⟩
    refine ⟨h1, ?_⟩
    rintro ⟨z, hz, q⟩
    rw [Bool.and_eq_true] at q
    exact h2 z hz q.1 q.2
theorem lfB_hd {R C x y : Nat} {g : Nat → Bool} (h : hdB R C g x = true) : (lfB R C g x y && !cc R C g x y) = lfB R C g (x + 1) y := by
  have gx := (lfB_iff.mp h).1
  rw [Bool.eq_iff_iff, Bool.and_eq_true, Bool.not_eq_true', lfB_iff, lfB_iff]
  constructor
  · rintro ⟨⟨h1, h2⟩, h3⟩
    refine ⟨h1, fun z hz gz q => ?_⟩
    by_cases e : z = x
    · subst e; rw [h3] at q; cases q
    · exact h2 z (by omega) gz q
  · rintro ⟨h1, h2⟩
    refine ⟨⟨h1, fun z hz gz => h2 z (by omega) gz⟩, ?_⟩
    rw [Bool.eq_false_iff]
    exact h2 x (by omega) gx
theorem lfB_no {R C x y : Nat} {g : Nat → Bool} (hl : R * C ≤ 16) (hx : x < R * C) (h : hdB R C g x = false) : lfB R C g x y = lfB R C g (x + 1) y := by
  rw [Bool.eq_iff_iff, lfB_iff, lfB_iff]
  constructor
  · rintro ⟨h1, h2⟩
    refine ⟨h1, fun z hz gz q => ?_⟩
    by_cases e : z = x
    · subst e
      have : hdB R C g z = true := lfB_iff.mpr ⟨gz, fun w hw gw q2 => h2 w hw gw (cc_trans hl (by omega) q2 q)⟩
      rw [this] at h; cases h
    · exact h2 z (by omega) gz q
  · rintro ⟨h1, h2⟩
    exact ⟨h1, fun z hz gz => h2 z (by omega) gz⟩
theorem grow_lf {R C x : Nat} {g : Nat → Bool} (hl : R * C ≤ 16) (hx : x < R * C) (h : hdB R C g x = true) : ∀ j, j ≤ 16 → ∀ y, grow R C (lfB R C g x) (fun i => decide (i = x)) j y = grow R C g (fun i => decide (i = x)) j y := by
  obtain ⟨gx, hz⟩ := lfB_iff.mp h
  intro j
  induction j with
  | zero => intro _ y; rfl
  | succ j ih =>
    intro hj y
    have e : grow R C (lfB R C g x) (fun i => decide (i = x)) j = grow R C g (fun i => decide (i = x)) j := funext (ih (by omega))
    rw [grow_s, grow_s, e]
    cases hr : rch 0 R C (grow R C g (fun i => decide (i = x)) j) y
    · rfl
    · cases gy : g y
      · have : lfB R C g x y = false := by unfold lfB; rw [gy]; rfl
        rw [this]
      · have hcc : cc R C g x y = true := by
          have := grow_up (R := R) (C := C) (g := g) (f0 := fun i => decide (i = x)) (j := j + 1) (x := y) (by rw [grow_s, hr, gy]; simp) (15 - j)
          rw [show j + 1 + (15 - j) = 16 by omega] at this
          exact this
        have : lfB R C g x y = true := lfB_iff.mpr ⟨gy, fun z h1 gz q => hz z h1 gz (cc_trans hl (by omega) q (cc_symm hl hx gx hcc))⟩
        rw [this]
def mxN (f : Nat → Nat) : Nat → Nat
  | 0 => 0
  | k + 1 => max (mxN f k) (f k)
def hsN (R C : Nat) (g : Nat → Bool) (x : Nat) : Nat := if hdB R C g x = true then cnt (cc R C g x) else 0

