
-- least hunger for a road: the one fixed point, and how passes reach it
theorem sumN_mono {n : Nat} {f g : Nat → Nat} (h : ∀ i, i < n → f i ≤ g i) : sumN n f ≤ sumN n g := by
  induction n with
  | zero => exact Nat.le_refl _
  | succ n ih =>
    have h1 := ih (fun i hi => h i (by omega))
    have h2 := h n (by omega)
    simp only [sumN]
    omega
theorem sumN_lt {n : Nat} {f g : Nat → Nat} (h : ∀ i, i < n → f i ≤ g i) {i : Nat} (hi : i < n) (hl : f i < g i) : sumN n f < sumN n g := by
  induction n with
  | zero => omega
  | succ n ih =>
    have h2 := h n (by omega)
    simp only [sumN]
    by_cases e : i = n
    · subst e
      have h1 := sumN_mono (fun i hi => h i (by omega) : ∀ j, j < i → f j ≤ g j)
      omega
    · have h1 := ih (fun i hi => h i (by omega)) (by omega)
      omega
theorem toward_all : ∀ q ∈ shL, ∀ x, x < q.1 * q.2 → ∀ g, g < q.1 * q.2 → (decide (x = g) || anyB (q.1 * q.2) (fun y => go 0 q.2 x y && decide (apt q.2 y g + 1 = apt q.2 x g))) = true ∧ apt q.2 x g ≤ 6 := by decide +kernel
theorem toward {R C x g : Nat} (h : Sh R C) (hx : x < R * C) (hg : g < R * C) (hne : x ≠ g) : ∃ y, y < R * C ∧ go 0 C x y = true ∧ apt C y g + 1 = apt C x g := by
  have z := (toward_all (R, C) h.mem x hx g hg).1
  rw [Bool.or_eq_true, decide_eq_true_eq] at z
  obtain ⟨y, hy, q⟩ := anyB_iff.mp (z.resolve_left hne)
  rw [Bool.and_eq_true, decide_eq_true_eq] at q
  exact ⟨y, hy, q.1, q.2⟩
theorem apt_le6 {R C x g : Nat} (h : Sh R C) (hx : x < R * C) (hg : g < R * C) : apt C x g ≤ 6 := (toward_all (R, C) h.mem x hx g hg).2
theorem go_ne {κ C x y : Nat} (h : go κ C x y = true) : x ≠ y := by
  intro e
  subst e
  have := (go_iff.mp h).1
  unfold apt at this
  omega
def setF (L : Nat → Nat) (x v : Nat) : Nat → Nat := fun z => if z = x then v else L z
theorem setF_at (L : Nat → Nat) (x v : Nat) : setF L x v x = v := if_pos rfl
theorem setF_off {L : Nat → Nat} {x v z : Nat} (h : z ≠ x) : setF L x v z = L z := if_neg h
def Stb (R C : Nat) (hm : Nat → Nat) (L : Nat → Nat) : Prop := ∀ x y, x < R * C → y < R * C → go 0 C x y = true → L x ≤ hm y + L y
def Sup9 (R C : Nat) (hm : Nat → Nat) (g : Nat) (L : Nat → Nat) : Prop := L g = 0 ∧ ∀ x, x < R * C → x ≠ g → ∃ y, y < R * C ∧ go 0 C x y = true ∧ hm y + L y ≤ L x
def IsD (R C : Nat) (hm : Nat → Nat) (g : Nat) (D : Nat → Nat) : Prop := Sup9 R C hm g D ∧ Stb R C hm D
theorem exD {R C g : Nat} {hm : Nat → Nat} (hg : g < R * C) : ∀ N L, Sup9 R C hm g L → sumN (R * C) L ≤ N → ∃ D, IsD R C hm g D ∧ ∀ x, x < R * C → D x ≤ L x := by
  intro N
  induction N with
  | zero =>
    intro L hL hs
    refine ⟨L, ⟨hL, fun x y hx hy _ => ?_⟩, fun _ _ => Nat.le_refl _⟩
    have : ¬ 0 < sumN (R * C) L := by omega
    rw [sumN_pos] at this
    have z : ¬ 0 < L x := fun q => this ⟨x, hx, q⟩
    omega
  | succ N ih =>
    intro L hL hs
    by_cases st : Stb R C hm L
    · exact ⟨L, ⟨hL, st⟩, fun _ _ => Nat.le_refl _⟩
    · have : ∃ x y, x < R * C ∧ y < R * C ∧ go 0 C x y = true ∧ hm y + L y < L x := by
        apply Classical.byContradiction
        intro q
        exact st fun x y hx hy hgo => by
          apply Classical.byContradiction
          intro q2
          exact q ⟨x, y, hx, hy, hgo, by omega⟩
      obtain ⟨x, y, hx, hy, hgo, hlt⟩ := this
      have hxg : x ≠ g := by intro e; subst e; rw [hL.1] at hlt; omega
      have hxy := go_ne hgo
      obtain ⟨D, hD, hle⟩ := ih (setF L x (hm y + L y)) ⟨by rw [setF_off (Ne.symm hxg)]; exact hL.1, fun z hz hzg => by
        by_cases e : z = x
        · subst e
          exact ⟨y, hy, hgo, by rw [setF_off (Ne.symm hxy), setF_at]; exact Nat.le_refl _⟩
        · obtain ⟨w, hw, hgw, hlw⟩ := hL.2 z hz hzg
          refine ⟨w, hw, hgw, ?_⟩
          rw [setF_off e]
          by_cases ew : w = x
          · subst ew; rw [setF_at]; omega
          · rw [setF_off ew]; exact hlw⟩ (by
        have := sumN_lt (n := R * C) (f := setF L x (hm y + L y)) (g := L) (fun z hz => by
          by_cases e : z = x
          · subst e; rw [setF_at]; omega
          · rw [setF_off e]; exact Nat.le_refl _) hx (by rw [setF_at]; exact hlt)
        omega)
      refine ⟨D, hD, fun z hz => Nat.le_trans (hle z hz) ?_⟩
      by_cases e : z = x
      · subst e; rw [setF_at]; omega
      · rw [setF_off e]; exact Nat.le_refl _
theorem exDist {R C g : Nat} {hm : Nat → Nat} (h : Sh R C) (hg : g < R * C) (h9 : ∀ y, y < R * C → hm y ≤ 9) : ∃ D, IsD R C hm g D ∧ ∀ x, x < R * C → D x ≤ 54 := by
  obtain ⟨D, hD, hle⟩ := exD hg (sumN (R * C) (fun x => 9 * apt C x g)) (fun x => 9 * apt C x g) ⟨by simp [apt], fun x hx hxg => by
    obtain ⟨y, hy, hgo, e⟩ := toward h hx hg hxg
    exact ⟨y, hy, hgo, by have := h9 y hy; show hm y + 9 * apt C y g ≤ 9 * apt C x g; omega⟩⟩ (Nat.le_refl _)
  exact ⟨D, hD, fun x hx => by have a : D x ≤ 9 * apt C x g := hle x hx; have := apt_le6 h hx hg; omega⟩
theorem stab_le {R C g : Nat} {hm L D : Nat → Nat} (h1 : ∀ y, y < R * C → 1 ≤ hm y) (h0 : L g = 0) (st : Stb R C hm L) (hD : Sup9 R C hm g D) : ∀ N x, x < R * C → D x < N → L x ≤ D x := by
  intro N
  induction N with
  | zero => intro x _ h; omega
  | succ N ih =>
    intro x hx hl
    by_cases e : x = g
    · rw [e, h0]; omega
    · obtain ⟨y, hy, hgo, hle⟩ := hD.2 x hx e
      have := h1 y hy
      have a1 := ih y hy (by omega)
      have a2 := st x y hx hy hgo
      omega
theorem IsD.uniq {R C g : Nat} {hm D D' : Nat → Nat} (h1 : ∀ y, y < R * C → 1 ≤ hm y) (d : IsD R C hm g D) (d' : IsD R C hm g D') {x : Nat} (hx : x < R * C) : D x = D' x :=
  Nat.le_antisymm (stab_le h1 d.1.1 d.2 d'.1 _ x hx (Nat.lt_succ_self _)) (stab_le h1 d'.1.1 d'.2 d.1 _ x hx (Nat.lt_succ_self _))
theorem IsD.eqn {R C g : Nat} {hm D : Nat → Nat} (d : IsD R C hm g D) {x : Nat} (hx : x < R * C) (hxg : x ≠ g) : ∃ y, y < R * C ∧ go 0 C x y = true ∧ D x = hm y + D y := by
  obtain ⟨y, hy, hgo, hle⟩ := d.1.2 x hx hxg
  exact ⟨y, hy, hgo, Nat.le_antisymm (d.2 x y hx hy hgo) hle⟩
def rk (P : Nat) (D : Nat → Nat) (x : Nat) : Nat := sumN P (fun y => one (decide (D y < D x)))
theorem rk_lt {P : Nat} {D : Nat → Nat} {x y : Nat} (hy : y < P) (h : D y < D x) : rk P D y < rk P D x := by
  refine sumN_lt (fun z _ => ?_) hy ?_
  · by_cases e : D z < D y
    · have : D z < D x := by omega
      simp [one, e, this]
    · simp [one, e]
  · simp [one, h]
theorem rk_le {P : Nat} {D : Nat → Nat} {x : Nat} (hx : x < P) : rk P D x < P := by
  have a : rk P D x < sumN P (fun _ => 1) := sumN_lt (fun z _ => one_le _) hx (by simp [one])
  have b := sumN_le (n := P) (f := fun _ => 1) (b := 1) (fun _ _ => Nat.le_refl _)
  omega
/-- k passes are done, and those before p once more -/
def PP (R C : Nat) (g : Nat) (D : Nat → Nat) (k p : Nat) (L : Nat → Nat) : Prop := L g = 0 ∧ (∀ x, x < R * C → D x ≤ L x) ∧ (∀ x, x < R * C → rk (R * C) D x ≤ k → L x = D x) ∧ ∀ x, x < p → x < R * C → rk (R * C) D x ≤ k + 1 → L x = D x
theorem PP.next {R C g k p : Nat} {D L : Nat → Nat} (q : PP R C g D k p L) (hp : R * C ≤ p) : PP R C g D (k + 1) 0 L :=
  ⟨q.1, q.2.1, fun x hx h => q.2.2.2 x (by omega) hx h, fun x h => by omega⟩
theorem PP.done {R C g k p : Nat} {D L : Nat → Nat} (h : Sh R C) (q : PP R C g D k p L) (hk : 15 ≤ k) {x : Nat} (hx : x < R * C) : L x = D x :=
  q.2.2.1 x hx (by have := rk_le (D := D) hx; have := h.le; omega)
theorem PP.start {R C g : Nat} {hm D L : Nat → Nat} (h1 : ∀ y, y < R * C → 1 ≤ hm y) (d : IsD R C hm g D) (hg : g < R * C) (h0 : L g = 0) (hl : ∀ x, x < R * C → D x ≤ L x) : PP R C g D 0 0 L := by
  refine ⟨h0, hl, fun x hx hr => ?_, fun x h => by omega⟩
  by_cases e : x = g
  · rw [e, h0, d.1.1]
  · exfalso
    obtain ⟨y, hy, _, e2⟩ := d.eqn hx e
    have := h1 y hy
    have := rk_lt (P := R * C) (D := D) hg (show D g < D x by rw [d.1.1]; omega)
    omega
/-- one place's turn: v is no more than each neighbour offers, and is offered or far -/
theorem PP.step {R C g k p v : Nat} {hm D L : Nat → Nat} (h1 : ∀ y, y < R * C → 1 ≤ hm y) (d : IsD R C hm g D) (q : PP R C g D k p L) (hp : p < R * C)
    (hv : ∀ y, y < R * C → go 0 C p y = true → v ≤ hm y + L y) (hv2 : D p ≤ v) : PP R C g D k (p + 1) (setF L p (min v (L p))) := by
  obtain ⟨q1, q2, q3, q4⟩ := q
  have q2p := q2 p hp
  have hpp : ∀ x, x < R * C → D x ≤ (setF L p (min v (L p))) x := by
    intro x hx
    by_cases e : x = p
    · subst e; rw [setF_at]; omega
    · rw [setF_off e]; exact q2 x hx
  have low : ∀ x, x < R * C → L x = D x → (setF L p (min v (L p))) x = D x := by
    intro x hx e0
    have := hpp x hx
    by_cases e : x = p
    · subst e; rw [setF_at] at *; omega
    · rw [setF_off e]; exact e0
  refine ⟨?_, hpp, fun x hx hr => low x hx (q3 x hx hr), fun x hxp hx hr => ?_⟩
  · by_cases e : g = p
    · subst e; rw [setF_at]; omega
    · rw [setF_off e]; exact q1
  · by_cases e : x = p
    · by_cases eg : x = g
      · exact low x hx (by rw [eg, q1, d.1.1])
      · have a := hpp x hx
        obtain ⟨y, hy, hgo, e2⟩ := d.eqn hx eg
        have := h1 y hy
        have r := rk_lt (P := R * C) (D := D) hy (show D y < D x by omega)
        have z := q3 y hy (by omega)
        subst e
        have b := hv y hy hgo
        rw [setF_at] at *
        omega
    · exact low x hx (q4 x (by omega) hx hr)

