abbrev rmX8_place : Room := { frames := 2, cells := 0, slots := 0, locals := 52 }
theorem hy_X8_place : yX8_place.cls = RX8 ∧ yX8_place.cls ≠ "java/lang/invoke/MethodHandle" ∧ yX8_place.cls ≠ "java/lang/invoke/VarHandle" ∧ (parseMethodDescriptor yX8_place.desc).map (fun d => d.parameters.length) = some 2 := by decide +kernel
theorem hz_X8_place : yX8_place.cls ≠ "java/lang/invoke/MethodHandle" ∧ yX8_place.cls ≠ "java/lang/invoke/VarHandle" ∧ (parseMethodDescriptor yX8_place.desc).map (fun d => d.parameters.length) = some 2 := by decide +kernel
abbrev rmX8_seesBy : Room := { frames := 1, cells := 0, slots := 0, locals := 25 }
theorem hy_X8_seesBy : yX8_seesBy.cls = RX8 ∧ yX8_seesBy.cls ≠ "java/lang/invoke/MethodHandle" ∧ yX8_seesBy.cls ≠ "java/lang/invoke/VarHandle" ∧ (parseMethodDescriptor yX8_seesBy.desc).map (fun d => d.parameters.length) = some 3 := by decide +kernel
theorem hz_X8_seesBy : yX8_seesBy.cls ≠ "java/lang/invoke/MethodHandle" ∧ yX8_seesBy.cls ≠ "java/lang/invoke/VarHandle" ∧ (parseMethodDescriptor yX8_seesBy.desc).map (fun d => d.parameters.length) = some 3 := by decide +kernel
theorem me_X8_seesBy_0 : Cond.fieldLink RX8 13 "DrawnByLostModel" "sizes" "[I" ∈ wsX8_seesBy := by decide +kernel
theorem me_X8_seesBy_1 : Cond.fieldLink RX8 19 "DrawnByLostModel" "now" "[I" ∈ wsX8_seesBy := by decide +kernel
theorem me_X8_place_0 : Cond.fieldLink RX8 19 "DrawnByLostModel" "now" "[I" ∈ wsX8_place := by decide +kernel
theorem ic_X8_seesBy_8 : ∀ w ∈ wsX80, w ∈ wsX8_seesBy := by decide +kernel
theorem ic_X8_place_8 : ∀ w ∈ wsX80, w ∈ wsX8_place := by decide +kernel
-- the reference's calls: place, what is seen from it
section VMC
variable {l : Launch} {D : va_G} {cy : CY} {B n : Nat} {h : Hp} {lg : Lg} {π : Nat → Nat} {σ : Sg}
/-- one step on in direction d -/
def mv (R C d p : Nat) : Option Nat := if d = 0 then (if C ≤ p then some (p - C) else none) else if d = 1 then (if p + C < R * C then some (p + C) else none) else if d = 2 then (if (p + 1) % C ≠ 0 then some (p + 1) else none) else (if p % C ≠ 0 then some (p - 1) else none)
def pt (R C : Nat) (mk : Nat → Nat) (d x : Nat) : Nat → Option Nat
  | 0 => mv R C d x
  | j + 1 => (pt R C mk d x j).bind (fun p => if mk p = 1 then none else mv R C d p)
theorem stepB_one {R C d p : Nat} {f : Nat → Bool} (hS : Sh R C) (hd : d < 4) (hp : p < R * C) (hf : ∀ z, f z = true → z = p) (i : Nat) : stepB R C d f i = true ↔ mv R C d p = some i ∧ f p = true := by
  have hC := hS.2.2.1
  unfold mv
  rcases (by omega : d = 0 ∨ d = 1 ∨ d = 2 ∨ d = 3) with rfl | rfl | rfl | rfl
  · rw [stepB0]
    simp only [if_true]
    constructor
    · rintro ⟨h1, h2⟩
      have e := hf _ h2
      rw [if_pos (by omega)]
      exact ⟨by congr 1; omega, by rw [← e]; exact h2⟩
    · rintro ⟨h1, h2⟩
      by_cases q : C ≤ p
      · rw [if_pos q] at h1
        cases h1
        exact ⟨by omega, by rw [show p - C + C = p by omega]; exact h2⟩
      · rw [if_neg q] at h1; cases h1
  · rw [stepB1]
    simp only [show ¬ (1 = 0) by decide, if_false, if_true]
    constructor
    · rintro ⟨h1, h2, h3⟩
      have e := hf _ h3
      rw [if_pos (by omega)]
      exact ⟨by congr 1; omega, by rw [← e]; exact h3⟩
    · rintro ⟨h1, h2⟩
      by_cases q : p + C < R * C
      · rw [if_pos q] at h1
        cases h1
        exact ⟨q, by omega, by rw [show p + C - C = p by omega]; exact h2⟩
      · rw [if_neg q] at h1; cases h1
  · rw [stepB2]
    simp only [show ¬ (2 = 0) by decide, show ¬ (2 = 1) by decide, if_false, if_true]
    constructor
    · rintro ⟨h1, h2, h3⟩
      have e := hf _ h3
      have i1 : i ≠ 0 := fun z => h2 (by rw [z]; exact Nat.zero_mod C)
      have ei : i = p + 1 := by omega
      subst ei
      rw [if_pos h2]
      exact ⟨rfl, by rw [← e]; exact h3⟩
    · rintro ⟨h1, h2⟩
      by_cases q : (p + 1) % C ≠ 0
      · rw [if_pos q] at h1
        cases h1
        exact ⟨row_lt hS hp q, q, by rw [show p + 1 - 1 = p by omega]; exact h2⟩
      · rw [if_neg q] at h1; cases h1
  · rw [stepB3]
    simp only [show ¬ (3 = 0) by decide, show ¬ (3 = 1) by decide, show ¬ (3 = 2) by decide, if_false]
    constructor
    · rintro ⟨h1, h2, h3⟩
      have e := hf _ h3
      subst e
      rw [if_pos h2]
      exact ⟨by congr 1, h3⟩
    · rintro ⟨h1, h2⟩
      by_cases q : p % C ≠ 0
      · rw [if_pos q] at h1
        cases h1
        have p1 : p ≠ 0 := fun z => q (by rw [z]; exact Nat.zero_mod C)
        rw [show p - 1 + 1 = p by omega]
        exact ⟨by omega, q, h2⟩
      · rw [if_neg q] at h1; cases h1
def mvT (R C : Nat) (p d : Nat) : Bool := match mv R C d p with
  | some i => decide (i < R * C) && (decide (d = 0) → decide (i / C + 1 = p / C) && decide (i % C = p % C)) && (decide (d = 1) → decide (i / C = p / C + 1) && decide (i % C = p % C)) && (decide (d = 2) → decide (i / C = p / C) && decide (i % C = p % C + 1)) && (decide (d = 3) → decide (i / C = p / C) && decide (i % C + 1 = p % C))
  | none => (decide (d = 0) → decide (p / C = 0)) && (decide (d = 1) → decide (p / C + 1 = R)) && (decide (d = 2) → decide (p % C + 1 = C)) && (decide (d = 3) → decide (p % C = 0))
theorem mvT_all : ∀ q ∈ shL, ∀ p, p < q.1 * q.2 → ∀ d, d < 4 → mvT q.1 q.2 p d = true := by decide +kernel
theorem mv_some {R C p d i : Nat} (h : Sh R C) (hp : p < R * C) (hd : d < 4) (e : mv R C d p = some i) : i < R * C ∧ (d = 0 → i / C + 1 = p / C ∧ i % C = p % C) ∧ (d = 1 → i / C = p / C + 1 ∧ i % C = p % C) ∧ (d = 2 → i / C = p / C ∧ i % C = p % C + 1) ∧ (d = 3 → i / C = p / C ∧ i % C + 1 = p % C) := by
  have z := mvT_all (R, C) h.mem p hp d hd
  unfold mvT at z
  simp only [e] at z
  simpa [and_assoc, Decidable.imp_iff_not_or] using z
theorem mv_none {R C p d : Nat} (h : Sh R C) (hp : p < R * C) (hd : d < 4) (e : mv R C d p = none) : (d = 0 → p / C = 0) ∧ (d = 1 → p / C + 1 = R) ∧ (d = 2 → p % C + 1 = C) ∧ (d = 3 → p % C = 0) := by
  have z := mvT_all (R, C) h.mem p hp d hd
  unfold mvT at z
  simp only [e] at z
  simpa [and_assoc, Decidable.imp_iff_not_or] using z
theorem pt_lt {R C d x : Nat} {mk : Nat → Nat} (hS : Sh R C) (hd : d < 4) (hx : x < R * C) : ∀ j p, pt R C mk d x j = some p → p < R * C := by
  intro j
  induction j with
  | zero => intro p e; exact (mv_some hS hx hd e).1
  | succ j ih =>
    intro p e
    simp only [pt] at e
    obtain ⟨q, h1, h2⟩ := Option.bind_eq_some_iff.mp e
    by_cases m : mk q = 1
    · rw [if_pos m] at h2; cases h2
    · rw [if_neg m] at h2; exact (mv_some hS (ih q h1) hd h2).1
theorem spt_pt {R C d x : Nat} {mk : Nat → Nat} (hS : Sh R C) (hd : d < 4) (hx : x < R * C) : ∀ j i, spt R C mk d x j i = true ↔ pt R C mk d x j = some i := by
  intro j
  induction j with
  | zero =>
    intro i
    show stepB R C d (fun z => decide (z = x)) i = true ↔ mv R C d x = some i
    rw [stepB_one hS hd hx (fun z hz => of_decide_eq_true hz)]
    simp
  | succ j ih =>
    intro i
    show stepB R C d (fun z => spt R C mk d x j z && !atB R C mk 1 z) i = true ↔ (pt R C mk d x j).bind _ = some i
    cases e : pt R C mk d x j with
    | none =>
      have nf : ∀ z, (spt R C mk d x j z && !atB R C mk 1 z) = false := fun z => by
        cases q : spt R C mk d x j z
        · rfl
        · rw [(ih z).mp q] at e; cases e
      rw [stepB_none nf]
      simp
    | some p =>
      have hp := pt_lt hS hd hx j p e
      have only : ∀ z, (spt R C mk d x j z && !atB R C mk 1 z) = true → z = p := fun z hz => by
        rw [Bool.and_eq_true] at hz
        have := (ih z).mp hz.1
        rw [e] at this
        cases this; rfl
      rw [stepB_one hS hd hp only, (ih p).mpr e, Bool.true_and]
      show _ ↔ (if mk p = 1 then none else mv R C d p) = some i
      have ea : atB R C mk 1 p = decide (mk p = 1) := by unfold atB; rw [decide_eq_true hp]; rfl
      rw [ea]
      by_cases m : mk p = 1
      · simp [m]
      · simp [m]
theorem sptE_pt {R C d x : Nat} {mk : Nat → Nat} (hS : Sh R C) (hd : d < 4) (hx : x < R * C) (j : Nat) : sptE R C mk d x j = (pt R C mk d x j).isSome := by
  rw [Bool.eq_iff_iff]
  unfold sptE
  rw [anyB_iff]
  constructor
  · rintro ⟨i, _, h⟩
    rw [(spt_pt hS hd hx j i).mp h]; rfl
  · intro h
    cases e : pt R C mk d x j with
    | none => rw [e] at h; cases h
    | some p => exact ⟨p, pt_lt hS hd hx j p e, (spt_pt hS hd hx j p).mpr e⟩
theorem pt_none {R C d x : Nat} {mk : Nat → Nat} {j : Nat} (h : pt R C mk d x j = none) : ∀ e, pt R C mk d x (j + e) = none := by
  intro e
  induction e with
  | zero => exact h
  | succ e ih => rw [show j + (e + 1) = (j + e) + 1 by omega]; simp only [pt]; rw [ih]; rfl
theorem see_cnt {R C d x j : Nat} {mk : Nat → Nat} (hS : Sh R C) (hd : d < 4) (hx : x < R * C) (hj : j ≤ 16) (h0 : pt R C mk d x j = none) (hs : ∀ i, i < j → pt R C mk d x i ≠ none) : seeN R C mk d x = j := by
  unfold seeN
  rw [sumN_ext hj (fun i h1 _ => by
    rw [sptE_pt hS hd hx]
    have := pt_none h0 (i - j)
    rw [show j + (i - j) = i by omega] at this
    rw [this]; rfl)]
  rw [sumN_congr (g := fun _ => 1) (fun i hi => by
    rw [sptE_pt hS hd hx]
    cases e : pt R C mk d x i with
    | none => exact absurd e (hs i hi)
    | some p => rfl)]
  have : ∀ k, sumN k (fun _ => 1) = k := by
    intro k
    induction k with
    | zero => rfl
    | succ k ih => simp only [sumN]; rw [ih]
  exact this j
def drI (d : Nat) : Int32 := if d = 0 then -1 else if d = 1 then 1 else 0
def dcI (d : Nat) : Int32 := if d = 2 then 1 else if d = 3 then -1 else 0
theorem toI_add {a : Nat} {k : Int32} (h1 : -2 ≤ k.toInt) (h2 : k.toInt < 1000) (h4 : a < 1000) : (nI a + k).toInt = (a : Int) + k.toInt := by
  rw [Int32.toInt_add, nI_toInt (by omega), Int.bmod_eq_of_le (by omega) (by omega)]
theorem dr_toI (d : Nat) : (drI d).toInt = (if d = 0 then -1 else if d = 1 then 1 else 0) := by
  unfold drI; split
  · decide
  · split <;> decide
theorem dc_toI (d : Nat) : (dcI d).toInt = (if d = 2 then 1 else if d = 3 then -1 else 0) := by
  unfold dcI; split
  · decide
  · split <;> decide
/-- row and column after a step from p -/
def At (R C : Nat) (r c : Int32) (o : Option Nat) : Prop := match o with
  | some p => r = nI (p / C) ∧ c = nI (p % C) ∧ p < R * C
  | none => ix r R = none ∨ ix c C = none
theorem at_no {R C u v d : Nat} {r c : Int32} (hd : d < 4) (t1 : r.toInt = (u : Int) + (drI d).toInt) (t2 : c.toInt = (v : Int) + (dcI d).toInt) (m0 : d = 0 → u = 0) (m1 : d = 1 → u + 1 = R) (m2 : d = 2 → v + 1 = C) (m3 : d = 3 → v = 0) : ix r R = none ∨ ix c C = none := by
  rw [ix_none, ix_none, t1, t2, dr_toI, dc_toI]
  rcases (by omega : d = 0 ∨ d = 1 ∨ d = 2 ∨ d = 3) with rfl | rfl | rfl | rfl
  · left; simp only [if_true]; have := m0 rfl; omega
  · left; simp only [show ¬ (1 = 0) by decide, if_false, if_true]; have := m1 rfl; omega
  · right; simp only [if_true]; have := m2 rfl; omega
  · right; simp only [show ¬ (3 = 2) by decide, if_false, if_true]; have := m3 rfl; omega
theorem at_yes {u v u' v' d : Nat} {r c : Int32} (hd : d < 4) (hu : u' < 1000) (hv : v' < 1000) (t1 : r.toInt = (u : Int) + (drI d).toInt) (t2 : c.toInt = (v : Int) + (dcI d).toInt) (m0 : d = 0 → u' + 1 = u ∧ v' = v) (m1 : d = 1 → u' = u + 1 ∧ v' = v) (m2 : d = 2 → u' = u ∧ v' = v + 1) (m3 : d = 3 → u' = u ∧ v' + 1 = v) : r = nI u' ∧ c = nI v' := by
  rw [dr_toI] at t1
  rw [dc_toI] at t2
  constructor
  · apply Int32.toInt_inj.mp
    rw [t1, nI_toInt (by omega)]
    rcases (by omega : d = 0 ∨ d = 1 ∨ d = 2 ∨ d = 3) with rfl | rfl | rfl | rfl
    · simp only [if_true]; have := m0 rfl; omega
    · simp only [show ¬ (1 = 0) by decide, if_false, if_true]; have := m1 rfl; omega
    · simp only [show ¬ (2 = 0) by decide, show ¬ (2 = 1) by decide, if_false]; have := m2 rfl; omega
    · simp only [show ¬ (3 = 0) by decide, show ¬ (3 = 1) by decide, if_false]; have := m3 rfl; omega
  · apply Int32.toInt_inj.mp
    rw [t2, nI_toInt (by omega)]
    rcases (by omega : d = 0 ∨ d = 1 ∨ d = 2 ∨ d = 3) with rfl | rfl | rfl | rfl
    · simp only [show ¬ (0 = 2) by decide, show ¬ (0 = 3) by decide, if_false]; have := m0 rfl; omega
    · simp only [show ¬ (1 = 2) by decide, show ¬ (1 = 3) by decide, if_false]; have := m1 rfl; omega
    · simp only [if_true]; have := m2 rfl; omega
    · simp only [show ¬ (3 = 2) by decide, if_false, if_true]; have := m3 rfl; omega
theorem dr_b (d : Nat) : -2 ≤ (drI d).toInt ∧ (drI d).toInt < 1000 := by
  rw [dr_toI]
  split
  · decide
  · split <;> decide
theorem dc_b (d : Nat) : -2 ≤ (dcI d).toInt ∧ (dcI d).toInt < 1000 := by
  rw [dc_toI]
  split
  · decide
  · split <;> decide
theorem at_step {R C p d : Nat} (h : Sh R C) (hp : p < R * C) (hd : d < 4) : At R C (nI (p / C) + drI d) (nI (p % C) + dcI d) (mv R C d p) := by
  obtain ⟨s1, s2, s3, s4⟩ := id h
  have b1 : p / C < R := Nat.div_lt_of_lt_mul (by rw [Nat.mul_comm]; exact hp)
  have b2 : p % C < C := Nat.mod_lt _ (Nat.lt_of_lt_of_le (by decide) s3)
  have b3 : p / C < 1000 := Nat.lt_of_lt_of_le b1 (Nat.le_trans s2 (by decide))
  have b4 : p % C < 1000 := Nat.lt_of_lt_of_le b2 (Nat.le_trans s4 (by decide))
  have t1 := toI_add (a := p / C) (dr_b d).1 (dr_b d).2 b3
  have t2 := toI_add (a := p % C) (dc_b d).1 (dc_b d).2 b4
  cases e : mv R C d p with
  | none =>
    obtain ⟨m0, m1, m2, m3⟩ := mv_none h hp hd e
    exact at_no hd t1 t2 m0 m1 m2 m3
  | some i =>
    obtain ⟨m, m0, m1, m2, m3⟩ := mv_some h hp hd e
    have c1 : i / C < R := Nat.div_lt_of_lt_mul (by rw [Nat.mul_comm]; exact m)
    have c2 : i % C < C := Nat.mod_lt _ (Nat.lt_of_lt_of_le (by decide) s3)
    have z := at_yes hd (Nat.lt_of_lt_of_le c1 (Nat.le_trans s2 (by decide))) (Nat.lt_of_lt_of_le c2 (Nat.le_trans s4 (by decide))) t1 t2 m0 m1 m2 m3
    exact ⟨z.1, z.2, m⟩
/-- how far it is to the edge -/
def edg (R C d p : Nat) : Nat := if d = 0 then p / C else if d = 1 then R - 1 - p / C else if d = 2 then C - 1 - p % C else p % C
theorem edg_n {R C u v u' v' d : Nat} (hd : d < 4) (hu : u' < R) (hv : v' < C) (m0 : d = 0 → u' + 1 = u ∧ v' = v) (m1 : d = 1 → u' = u + 1 ∧ v' = v) (m2 : d = 2 → u' = u ∧ v' = v + 1) (m3 : d = 3 → u' = u ∧ v' + 1 = v) : (if d = 0 then u' else if d = 1 then R - 1 - u' else if d = 2 then C - 1 - v' else v') + 1 ≤ (if d = 0 then u else if d = 1 then R - 1 - u else if d = 2 then C - 1 - v else v) := by
  rcases (by omega : d = 0 ∨ d = 1 ∨ d = 2 ∨ d = 3) with rfl | rfl | rfl | rfl
  · simp only [if_true]; have := m0 rfl; omega
  · simp only [show ¬ (1 = 0) by decide, if_false, if_true]; have := m1 rfl; omega
  · simp only [show ¬ (2 = 0) by decide, show ¬ (2 = 1) by decide, if_false, if_true]; have := m2 rfl; omega
  · simp only [show ¬ (3 = 0) by decide, show ¬ (3 = 1) by decide, show ¬ (3 = 2) by decide, if_false]; have := m3 rfl; omega
theorem edg_mv {R C p d i : Nat} (h : Sh R C) (hp : p < R * C) (hd : d < 4) (e : mv R C d p = some i) : edg R C d i + 1 ≤ edg R C d p := by
  obtain ⟨m, m0, m1, m2, m3⟩ := mv_some h hp hd e
  exact edg_n hd (Nat.div_lt_of_lt_mul (by rw [Nat.mul_comm]; exact m)) (Nat.mod_lt _ (Nat.lt_of_lt_of_le (by decide) h.2.2.1)) m0 m1 m2 m3
theorem edg_l {R C u v d : Nat} (hR : R ≤ 4) (hC : C ≤ 4) (hu : u < R) (hv : v < C) : (if d = 0 then u else if d = 1 then R - 1 - u else if d = 2 then C - 1 - v else v) ≤ 3 := by
  split
  · omega
  · split
    · omega
    · split <;> omega
theorem edg_le {R C p d : Nat} (h : Sh R C) (hp : p < R * C) : edg R C d p ≤ 3 :=
  edg_l h.2.1 h.2.2.2 (Nat.div_lt_of_lt_mul (by rw [Nat.mul_comm]; exact hp)) (Nat.mod_lt _ (Nat.lt_of_lt_of_le (by decide) h.2.2.1))
theorem wtail_seesBy {R C j : Nat} {a1 a2 a3 : Option Value} {r c : Int32} {post : PO} (hn : 105 ≤ n) (K : post (some (.int (nI j))) (rf0 π) h lg) : WP l D cy B cX8_seesBy 8 RX8 wsX8_seesBy rmX8_seesBy (some .int) (QE0 D cy B n 0 0 (post)) EX0 n (rf0 π) h lg 0 0 119 [some (.ref (B + 89)), a1, a2, a3, some (.int (nI j)), some (.int r), some (.int c), some (.int 0)] [] := by
  refine wp_iload_4 (pc' := 121) dX8_seesBy_119 rfl ?_
  refine wp_ireturn dX8_seesBy_121 rfl rfl (Nat.le_refl _) (Nat.le_refl _) ?_
  exact K
theorem lp_X8_seesBy {R C d x : Nat} {ρ : Nat → Nat} {post : PO} (hn : 105 ≤ n) (q : ShM h R C) (nr : NR h 93 ρ) (h5 : ∀ i, i < 16 → ρ i ≤ 5) (hd : d < 4) (hx : x < R * C)
    (K : post (some (.int (nI (seeN R C ρ d x)))) (rf0 π) h lg) :
    ∀ m j : Nat, ∀ r c, At R C r c (pt R C ρ d x j) → (∀ p, pt R C ρ d x j = some p → edg R C d p < m) → j + m ≤ 4 → (∀ i, i < j → pt R C ρ d x i ≠ none) → WP l D cy B cX8_seesBy 8 RX8 wsX8_seesBy rmX8_seesBy (some .int) (QE0 D cy B n 0 0 (post)) EX0 n (rf0 π) h lg 0 0 30 [some (.ref (B + 89)), some (.int (nI x)), some (.int (drI d)), some (.int (dcI d)), some (.int (nI j)), some (.int r), some (.int c), some (.int 1)] [] := by
  have hl := q.1.le
  obtain ⟨s1, s2, s3, s4⟩ := id q.1
  intro m
  induction m with
  | zero =>
    intro j r c at_ em hjm al
    cases e : pt R C ρ d x j with
    | some p => exact absurd (em p e) (by omega)
    | none =>
      rw [e] at at_
      rw [see_cnt q.1 hd hx (by omega) e al] at K
      have at2 : ix r R = none ∨ ix c C = none := at_
      refine wp_iload_7 (pc' := 32) dX8_seesBy_30 rfl ?_
      refine wp_if_eq (pc' := 35) (tgt := 119) dX8_seesBy_32 rfl rfl (fun c32 => by exfalso; exact absurd c32 (by decide)) (fun c32 => ?_)
      refine wp_iload_5 (pc' := 37) dX8_seesBy_35 rfl ?_
      refine wp_i2l (pc' := 38) dX8_seesBy_37 rfl ?_
      refine wp_lconst (pc' := 39) (0) dX8_seesBy_38 rfl (by decide) ?_
      refine wp_aload_n_0 (pc' := 40) dX8_seesBy_39 rfl ?_
      refine wp_get_8_2 (pc' := 43) (by omega) rfl rfl me_X8_seesBy_0 ic_X8_seesBy_8 dX8_seesBy_40 rfl ?_
      refine wp_iconst (pc' := 44) (0) dX8_seesBy_43 rfl (by decide) ?_
      refine wp_iald (pc' := 45) (N := 4) (by omega) rfl rfl (by first | exact vp_in_nI (by omega) (by omega) | assumption | (unfold vp_in; decide)) dX8_seesBy_44 rfl ?_
      rw [show (0 : Int32).toNatClampNeg = 0 from rfl, q.2.1]
      refine wp_iconst (pc' := 46) (1) dX8_seesBy_45 rfl (by decide) ?_
      refine wp_isub (pc' := 47) dX8_seesBy_46 rfl ?_
      refine wp_i2l (pc' := 48) dX8_seesBy_47 rfl ?_
      refine wp_callSu (pc' := 51) (c_in_ix r (W := R) (by omega)) gX8_seesBy_X8_in rfl rfl hz_X8_in ⟨Nat.le_of_ble_eq_true rfl, Nat.le_of_ble_eq_true rfl⟩ ⟨rfl, rfl⟩ (Nat.le_of_ble_eq_true rfl) ⟨Nat.le_of_ble_eq_true rfl, Nat.le_of_ble_eq_true rfl⟩ rfl dX8_seesBy_48 rfl ?_
      refine wp_if_eq (pc' := 54) (tgt := 119) dX8_seesBy_51 rfl rfl (fun c51 => ?_) (fun c51 => ?_)
      · skip -- 51 taken
        refine wp_iload_4 (pc' := 121) dX8_seesBy_119 rfl ?_
        refine wp_ireturn dX8_seesBy_121 rfl rfl (Nat.le_refl _) (Nat.le_refl _) ?_
        exact K
      · skip -- 51 not taken
        refine wp_iload_6 (pc' := 56) dX8_seesBy_54 rfl ?_
        refine wp_i2l (pc' := 57) dX8_seesBy_56 rfl ?_
        refine wp_lconst (pc' := 58) (0) dX8_seesBy_57 rfl (by decide) ?_
        refine wp_aload_n_0 (pc' := 59) dX8_seesBy_58 rfl ?_
        refine wp_get_8_2 (pc' := 62) (by omega) rfl rfl me_X8_seesBy_0 ic_X8_seesBy_8 dX8_seesBy_59 rfl ?_
        refine wp_iconst (pc' := 63) (1) dX8_seesBy_62 rfl (by decide) ?_
        refine wp_iald (pc' := 64) (N := 4) (by omega) rfl rfl (by first | exact vp_in_nI (by omega) (by omega) | assumption | (unfold vp_in; decide)) dX8_seesBy_63 rfl ?_
        rw [show (1 : Int32).toNatClampNeg = 1 from rfl, q.2.2]
        refine wp_iconst (pc' := 65) (1) dX8_seesBy_64 rfl (by decide) ?_
        refine wp_isub (pc' := 66) dX8_seesBy_65 rfl ?_
        refine wp_i2l (pc' := 67) dX8_seesBy_66 rfl ?_
        refine wp_callSu (pc' := 70) (c_in_ix c (W := C) (by omega)) gX8_seesBy_X8_in rfl rfl hz_X8_in ⟨Nat.le_of_ble_eq_true rfl, Nat.le_of_ble_eq_true rfl⟩ ⟨rfl, rfl⟩ (Nat.le_of_ble_eq_true rfl) ⟨Nat.le_of_ble_eq_true rfl, Nat.le_of_ble_eq_true rfl⟩ rfl dX8_seesBy_67 rfl ?_
        refine wp_if_eq (pc' := 73) (tgt := 119) dX8_seesBy_70 rfl rfl (fun c70 => ?_) (fun c70 => by exfalso; rcases at2 with v | v; (rw [v] at c51; exact c51 rfl); (rw [v] at c70; exact c70 rfl))
        refine wp_iload_4 (pc' := 121) dX8_seesBy_119 rfl ?_
        refine wp_ireturn dX8_seesBy_121 rfl rfl (Nat.le_refl _) (Nat.le_refl _) ?_
        exact K
  | succ m ih =>
    intro j r c at_ em hjm al
    cases e : pt R C ρ d x j with
    | none =>
      rw [e] at at_
      rw [see_cnt q.1 hd hx (by omega) e al] at K
      have at2 : ix r R = none ∨ ix c C = none := at_
      refine wp_iload_7 (pc' := 32) dX8_seesBy_30 rfl ?_
      refine wp_if_eq (pc' := 35) (tgt := 119) dX8_seesBy_32 rfl rfl (fun c32 => by exfalso; exact absurd c32 (by decide)) (fun c32 => ?_)
      refine wp_iload_5 (pc' := 37) dX8_seesBy_35 rfl ?_
      refine wp_i2l (pc' := 38) dX8_seesBy_37 rfl ?_
      refine wp_lconst (pc' := 39) (0) dX8_seesBy_38 rfl (by decide) ?_
      refine wp_aload_n_0 (pc' := 40) dX8_seesBy_39 rfl ?_
      refine wp_get_8_2 (pc' := 43) (by omega) rfl rfl me_X8_seesBy_0 ic_X8_seesBy_8 dX8_seesBy_40 rfl ?_
      refine wp_iconst (pc' := 44) (0) dX8_seesBy_43 rfl (by decide) ?_
      refine wp_iald (pc' := 45) (N := 4) (by omega) rfl rfl (by first | exact vp_in_nI (by omega) (by omega) | assumption | (unfold vp_in; decide)) dX8_seesBy_44 rfl ?_
      rw [show (0 : Int32).toNatClampNeg = 0 from rfl, q.2.1]
      refine wp_iconst (pc' := 46) (1) dX8_seesBy_45 rfl (by decide) ?_
      refine wp_isub (pc' := 47) dX8_seesBy_46 rfl ?_
      refine wp_i2l (pc' := 48) dX8_seesBy_47 rfl ?_
      refine wp_callSu (pc' := 51) (c_in_ix r (W := R) (by omega)) gX8_seesBy_X8_in rfl rfl hz_X8_in ⟨Nat.le_of_ble_eq_true rfl, Nat.le_of_ble_eq_true rfl⟩ ⟨rfl, rfl⟩ (Nat.le_of_ble_eq_true rfl) ⟨Nat.le_of_ble_eq_true rfl, Nat.le_of_ble_eq_true rfl⟩ rfl dX8_seesBy_48 rfl ?_
      refine wp_if_eq (pc' := 54) (tgt := 119) dX8_seesBy_51 rfl rfl (fun c51 => ?_) (fun c51 => ?_)
      · skip -- 51 taken
        refine wp_iload_4 (pc' := 121) dX8_seesBy_119 rfl ?_
        refine wp_ireturn dX8_seesBy_121 rfl rfl (Nat.le_refl _) (Nat.le_refl _) ?_
        exact K
      · skip -- 51 not taken
        refine wp_iload_6 (pc' := 56) dX8_seesBy_54 rfl ?_
        refine wp_i2l (pc' := 57) dX8_seesBy_56 rfl ?_
        refine wp_lconst (pc' := 58) (0) dX8_seesBy_57 rfl (by decide) ?_
        refine wp_aload_n_0 (pc' := 59) dX8_seesBy_58 rfl ?_
        refine wp_get_8_2 (pc' := 62) (by omega) rfl rfl me_X8_seesBy_0 ic_X8_seesBy_8 dX8_seesBy_59 rfl ?_
        refine wp_iconst (pc' := 63) (1) dX8_seesBy_62 rfl (by decide) ?_
        refine wp_iald (pc' := 64) (N := 4) (by omega) rfl rfl (by first | exact vp_in_nI (by omega) (by omega) | assumption | (unfold vp_in; decide)) dX8_seesBy_63 rfl ?_
        rw [show (1 : Int32).toNatClampNeg = 1 from rfl, q.2.2]
        refine wp_iconst (pc' := 65) (1) dX8_seesBy_64 rfl (by decide) ?_
        refine wp_isub (pc' := 66) dX8_seesBy_65 rfl ?_
        refine wp_i2l (pc' := 67) dX8_seesBy_66 rfl ?_
        refine wp_callSu (pc' := 70) (c_in_ix c (W := C) (by omega)) gX8_seesBy_X8_in rfl rfl hz_X8_in ⟨Nat.le_of_ble_eq_true rfl, Nat.le_of_ble_eq_true rfl⟩ ⟨rfl, rfl⟩ (Nat.le_of_ble_eq_true rfl) ⟨Nat.le_of_ble_eq_true rfl, Nat.le_of_ble_eq_true rfl⟩ rfl dX8_seesBy_67 rfl ?_
        refine wp_if_eq (pc' := 73) (tgt := 119) dX8_seesBy_70 rfl rfl (fun c70 => ?_) (fun c70 => by exfalso; rcases at2 with v | v; (rw [v] at c51; exact c51 rfl); (rw [v] at c70; exact c70 rfl))
        refine wp_iload_4 (pc' := 121) dX8_seesBy_119 rfl ?_
        refine wp_ireturn dX8_seesBy_121 rfl rfl (Nat.le_refl _) (Nat.le_refl _) ?_
        exact K
    | some p =>
      rw [e] at at_
      obtain ⟨rfl, rfl, hp⟩ := at_
      have b1 : p / C < R := Nat.div_lt_of_lt_mul (by rw [Nat.mul_comm]; exact hp)
      have b2 : p % C < C := Nat.mod_lt _ (by omega)
      have e1 := ix_nI b1 (by omega)
      have e2 := ix_nI b2 (by omega)
      have p5 := h5 p (by omega)
      have pc : p / C * C + p % C = p := Nat.div_add_mod' p C
      have ed := em p e
      have st := at_step q.1 hp hd
      have al2 : ∀ i, i < j + 1 → pt R C ρ d x i ≠ none := fun i hi => by
        by_cases ei : i = j
        · subst ei; rw [e]; exact Option.some_ne_none p
        · exact al i (by omega)
      have pj : pt R C ρ d x (j + 1) = if ρ p = 1 then none else mv R C d p := by simp only [pt]; rw [e]; rfl
      refine wp_iload_7 (pc' := 32) dX8_seesBy_30 rfl ?_
      refine wp_if_eq (pc' := 35) (tgt := 119) dX8_seesBy_32 rfl rfl (fun c32 => by exfalso; exact absurd c32 (by decide)) (fun c32 => ?_)
      refine wp_iload_5 (pc' := 37) dX8_seesBy_35 rfl ?_
      refine wp_i2l (pc' := 38) dX8_seesBy_37 rfl ?_
      refine wp_lconst (pc' := 39) (0) dX8_seesBy_38 rfl (by decide) ?_
      refine wp_aload_n_0 (pc' := 40) dX8_seesBy_39 rfl ?_
      refine wp_get_8_2 (pc' := 43) (by omega) rfl rfl me_X8_seesBy_0 ic_X8_seesBy_8 dX8_seesBy_40 rfl ?_
      refine wp_iconst (pc' := 44) (0) dX8_seesBy_43 rfl (by decide) ?_
      refine wp_iald (pc' := 45) (N := 4) (by omega) rfl rfl (by first | exact vp_in_nI (by omega) (by omega) | assumption | (unfold vp_in; decide)) dX8_seesBy_44 rfl ?_
      rw [show (0 : Int32).toNatClampNeg = 0 from rfl, q.2.1]
      refine wp_iconst (pc' := 46) (1) dX8_seesBy_45 rfl (by decide) ?_
      refine wp_isub (pc' := 47) dX8_seesBy_46 rfl ?_
      refine wp_i2l (pc' := 48) dX8_seesBy_47 rfl ?_
      refine wp_callSu (pc' := 51) (c_in_ix (nI (p / C)) (W := R) (by omega)) gX8_seesBy_X8_in rfl rfl hz_X8_in ⟨Nat.le_of_ble_eq_true rfl, Nat.le_of_ble_eq_true rfl⟩ ⟨rfl, rfl⟩ (Nat.le_of_ble_eq_true rfl) ⟨Nat.le_of_ble_eq_true rfl, Nat.le_of_ble_eq_true rfl⟩ rfl dX8_seesBy_48 rfl ?_
      rw [e1]
      refine wp_if_eq (pc' := 54) (tgt := 119) dX8_seesBy_51 rfl rfl (fun c51 => by exfalso; exact absurd c51 bS) (fun c51 => ?_)
      refine wp_iload_6 (pc' := 56) dX8_seesBy_54 rfl ?_
      refine wp_i2l (pc' := 57) dX8_seesBy_56 rfl ?_
      refine wp_lconst (pc' := 58) (0) dX8_seesBy_57 rfl (by decide) ?_
      refine wp_aload_n_0 (pc' := 59) dX8_seesBy_58 rfl ?_
      refine wp_get_8_2 (pc' := 62) (by omega) rfl rfl me_X8_seesBy_0 ic_X8_seesBy_8 dX8_seesBy_59 rfl ?_
      refine wp_iconst (pc' := 63) (1) dX8_seesBy_62 rfl (by decide) ?_
      refine wp_iald (pc' := 64) (N := 4) (by omega) rfl rfl (by first | exact vp_in_nI (by omega) (by omega) | assumption | (unfold vp_in; decide)) dX8_seesBy_63 rfl ?_
      rw [show (1 : Int32).toNatClampNeg = 1 from rfl, q.2.2]
      refine wp_iconst (pc' := 65) (1) dX8_seesBy_64 rfl (by decide) ?_
      refine wp_isub (pc' := 66) dX8_seesBy_65 rfl ?_
      refine wp_i2l (pc' := 67) dX8_seesBy_66 rfl ?_
      refine wp_callSu (pc' := 70) (c_in_ix (nI (p % C)) (W := C) (by omega)) gX8_seesBy_X8_in rfl rfl hz_X8_in ⟨Nat.le_of_ble_eq_true rfl, Nat.le_of_ble_eq_true rfl⟩ ⟨rfl, rfl⟩ (Nat.le_of_ble_eq_true rfl) ⟨Nat.le_of_ble_eq_true rfl, Nat.le_of_ble_eq_true rfl⟩ rfl dX8_seesBy_67 rfl ?_
      rw [e2]
      refine wp_if_eq (pc' := 73) (tgt := 119) dX8_seesBy_70 rfl rfl (fun c70 => by exfalso; exact absurd c70 bS) (fun c70 => ?_)
      refine wp_iinc_4 (pc' := 76) (v := nI (j + 1)) dX8_seesBy_73 (by first | rfl | exact nI_1 _) (by decide) rfl rfl ?_
      refine wp_aload_n_0 (pc' := 77) dX8_seesBy_76 rfl ?_
      refine wp_get_8_4 (pc' := 80) (by omega) rfl rfl me_X8_seesBy_1 ic_X8_seesBy_8 dX8_seesBy_77 rfl ?_
      refine wp_iload_5 (pc' := 82) dX8_seesBy_80 rfl ?_
      refine wp_aload_n_0 (pc' := 83) dX8_seesBy_82 rfl ?_
      refine wp_get_8_2 (pc' := 86) (by omega) rfl rfl me_X8_seesBy_0 ic_X8_seesBy_8 dX8_seesBy_83 rfl ?_
      refine wp_iconst (pc' := 87) (1) dX8_seesBy_86 rfl (by decide) ?_
      refine wp_iald (pc' := 88) (N := 4) (by omega) rfl rfl (by first | exact vp_in_nI (by omega) (by omega) | assumption | (unfold vp_in; decide)) dX8_seesBy_87 rfl ?_
      rw [show (1 : Int32).toNatClampNeg = 1 from rfl, q.2.2]
      refine wp_imul (pc' := 89) dX8_seesBy_88 rfl ?_
      rw [nI_mul]
      refine wp_iload_6 (pc' := 91) dX8_seesBy_89 rfl ?_
      refine wp_iadd (pc' := 92) dX8_seesBy_91 rfl ?_
      rw [nI_add, pc]
      refine wp_iald (pc' := 93) (N := 52) (by omega) rfl rfl (by first | exact vp_in_nI (by omega) (by omega) | assumption | (unfold vp_in; decide)) dX8_seesBy_92 rfl ?_
      rw [nI_clamp (by omega), nr p (by omega)]
      refine wp_iconst (pc' := 94) (1) dX8_seesBy_93 rfl (by decide) ?_
      refine wp_icmp_eq (pc' := 97) (tgt := 101) dX8_seesBy_94 rfl rfl (fun c94 => ?_) (fun c94 => ?_)
      · skip -- 94 taken
        refine wp_iconst (pc' := 102) (0) dX8_seesBy_101 rfl (by decide) ?_
        refine wp_istore_7 (pc' := 104) dX8_seesBy_102 (by decide) rfl rfl ?_
        refine wp_iload_5 (pc' := 106) dX8_seesBy_104 rfl ?_
        refine wp_iload_n_2 (pc' := 107) dX8_seesBy_106 rfl ?_
        refine wp_iadd (pc' := 108) dX8_seesBy_107 rfl ?_
        refine wp_istore_5 (pc' := 110) dX8_seesBy_108 (by decide) rfl rfl ?_
        refine wp_iload_6 (pc' := 112) dX8_seesBy_110 rfl ?_
        refine wp_iload_n_3 (pc' := 113) dX8_seesBy_112 rfl ?_
        refine wp_iadd (pc' := 114) dX8_seesBy_113 rfl ?_
        refine wp_istore_6 (pc' := 116) dX8_seesBy_114 (by decide) rfl rfl ?_
        refine wp_goto (tgt := 30) dX8_seesBy_116 rfl ?_
        have m1 : ρ p = 1 := (nI_eq (by omega) (by omega)).mp (show nI (ρ p) = nI 1 from c94)
        rw [if_pos m1] at pj
        refine wp_iload_7 (pc' := 32) dX8_seesBy_30 rfl ?_
        refine wp_if_eq (pc' := 35) (tgt := 119) dX8_seesBy_32 rfl rfl (fun c32 => ?_) (fun c32 => absurd rfl c32)
        rw [see_cnt q.1 hd hx (by omega) pj al2] at K
        exact wtail_seesBy (R := R) (C := C) hn K
      · skip -- 94 not taken
        refine wp_iconst (pc' := 98) (1) dX8_seesBy_97 rfl (by decide) ?_
        refine wp_goto (tgt := 102) dX8_seesBy_98 rfl ?_
        refine wp_istore_7 (pc' := 104) dX8_seesBy_102 (by decide) rfl rfl ?_
        refine wp_iload_5 (pc' := 106) dX8_seesBy_104 rfl ?_
        refine wp_iload_n_2 (pc' := 107) dX8_seesBy_106 rfl ?_
        refine wp_iadd (pc' := 108) dX8_seesBy_107 rfl ?_
        refine wp_istore_5 (pc' := 110) dX8_seesBy_108 (by decide) rfl rfl ?_
        refine wp_iload_6 (pc' := 112) dX8_seesBy_110 rfl ?_
        refine wp_iload_n_3 (pc' := 113) dX8_seesBy_112 rfl ?_
        refine wp_iadd (pc' := 114) dX8_seesBy_113 rfl ?_
        refine wp_istore_6 (pc' := 116) dX8_seesBy_114 (by decide) rfl rfl ?_
        refine wp_goto (tgt := 30) dX8_seesBy_116 rfl ?_
        have m1 : ¬ ρ p = 1 := fun z => c94 (by rw [z]; rfl)
        rw [if_neg m1] at pj
        refine ih (j + 1) _ _ (by rw [pj]; exact st) (fun p2 hp2 => ?_) (by omega) al2
        rw [pj] at hp2
        have := edg_mv q.1 hp hd hp2
        omega
theorem c_X8_seesBy {R C d x : Nat} {ρ : Nat → Nat} (hn : 105 ≤ n) (q : ShM h R C) (nr : NR h 93 ρ) (h5 : ∀ i, i < 16 → ρ i ≤ 5) (hd : d < 4) (hx : x < R * C) : Ctr l D cy B yX8_seesBy wsX8_seesBy rmX8_seesBy 0 0 n (rf0 π) h lg [.ref (B + 89), .int (nI x), .int (drI d), .int (dcI d)] (uI (nI (seeN R C ρ d x)) (rf0 π) h lg) := by
  have hl := q.1.le
  obtain ⟨s1, s2, s3, s4⟩ := id q.1
  have hne : ¬ nI C = 0 := nI_ne0 (by omega) (by omega)
  refine Ctr.of (cc := cX8_seesBy) (nL := 8) (own := RX8) (rt := (some .int)) (ls := [some (.ref (B + 89)), some (.int (nI x)), some (.int (drI d)), some (.int (dcI d)), none, none, none, none]) (by decide) rfl rfl (Nat.le_of_ble_eq_true rfl) rfl ?_
  refine wp_iconst (pc' := 1) (0) dX8_seesBy_0 rfl (by decide) ?_
  refine wp_istore_4 (pc' := 3) dX8_seesBy_1 (by decide) rfl rfl ?_
  refine wp_iload_n_1 (pc' := 4) dX8_seesBy_3 rfl ?_
  refine wp_aload_n_0 (pc' := 5) dX8_seesBy_4 rfl ?_
  refine wp_get_8_2 (pc' := 8) (by omega) rfl rfl me_X8_seesBy_0 ic_X8_seesBy_8 dX8_seesBy_5 rfl ?_
  refine wp_iconst (pc' := 9) (1) dX8_seesBy_8 rfl (by decide) ?_
  refine wp_iald (pc' := 10) (N := 4) (by omega) rfl rfl (by first | exact vp_in_nI (by omega) (by omega) | assumption | (unfold vp_in; decide)) dX8_seesBy_9 rfl ?_
  rw [show (1 : Int32).toNatClampNeg = 1 from rfl, q.2.2]
  refine wp_idiv (pc' := 11) dX8_seesBy_10 rfl hne ?_
  rw [pk_div (by omega) (by omega) (by omega)]
  refine wp_iload_n_2 (pc' := 12) dX8_seesBy_11 rfl ?_
  refine wp_iadd (pc' := 13) dX8_seesBy_12 rfl ?_
  refine wp_istore_5 (pc' := 15) dX8_seesBy_13 (by decide) rfl rfl ?_
  refine wp_iload_n_1 (pc' := 16) dX8_seesBy_15 rfl ?_
  refine wp_aload_n_0 (pc' := 17) dX8_seesBy_16 rfl ?_
  refine wp_get_8_2 (pc' := 20) (by omega) rfl rfl me_X8_seesBy_0 ic_X8_seesBy_8 dX8_seesBy_17 rfl ?_
  refine wp_iconst (pc' := 21) (1) dX8_seesBy_20 rfl (by decide) ?_
  refine wp_iald (pc' := 22) (N := 4) (by omega) rfl rfl (by first | exact vp_in_nI (by omega) (by omega) | assumption | (unfold vp_in; decide)) dX8_seesBy_21 rfl ?_
  rw [show (1 : Int32).toNatClampNeg = 1 from rfl, q.2.2]
  refine wp_irem (pc' := 23) dX8_seesBy_22 rfl hne ?_
  rw [pk_rem (by omega) (by omega) (by omega)]
  refine wp_iload_n_3 (pc' := 24) dX8_seesBy_23 rfl ?_
  refine wp_iadd (pc' := 25) dX8_seesBy_24 rfl ?_
  refine wp_istore_6 (pc' := 27) dX8_seesBy_25 (by decide) rfl rfl ?_
  refine wp_iconst (pc' := 28) (1) dX8_seesBy_27 rfl (by decide) ?_
  refine wp_istore_7 (pc' := 30) dX8_seesBy_28 (by decide) rfl rfl ?_
  refine lp_X8_seesBy hn q nr h5 hd hx (uI_of rfl) 4 0 _ _ (at_step q.1 hx hd) (fun p hp => ?_) (by omega) (fun i hi => by omega)
  have := edg_le (d := d) q.1 (pt_lt q.1 hd hx 0 p hp)
  omega
theorem c_X8_place (hn : 105 ≤ n) (X : MI h σ) (x t : Int32) : Ctr l D cy B yX8_place wsX8_place rmX8_place 0 0 n (rf0 π) h lg [.ref (B + 89), .int x, .int t] (ZQ π h (aPlace σ x t) σ) := by
  obtain ⟨T, q, hm, ok, nr, xp, xk⟩ := id X
  have hl := q.1.le
  cases e : ix x (σ.R * σ.C) with
  | none =>
    rw [show aPlace σ x t = -1 by simp only [aPlace, e]]
    refine Ctr.of (cc := cX8_place) (nL := 3) (own := RX8) (rt := (some .int)) (ls := [some (.ref (B + 89)), some (.int x), some (.int t)]) (by decide) rfl rfl (Nat.le_of_ble_eq_true rfl) rfl ?_
    refine wp_aload_n_0 (pc' := 1) dX8_place_0 rfl ?_
    refine wp_iload_n_1 (pc' := 2) dX8_place_1 rfl ?_
    refine wp_callVu (pc' := 5) (c_X8_isPlace hn q _) gX8_place_X8_isPlace rfl rfl hy_X8_isPlace ⟨Nat.le_of_ble_eq_true rfl, Nat.le_of_ble_eq_true rfl⟩ ⟨rfl, rfl⟩ (Nat.le_of_ble_eq_true rfl) ⟨Nat.le_of_ble_eq_true rfl, Nat.le_of_ble_eq_true rfl⟩ (by omega) (ce8 rfl) rfl rfl dX8_place_2 rfl ?_
    rw [e]
    refine wp_if_eq (pc' := 8) (tgt := 18) dX8_place_5 rfl rfl (fun c5 => ?_) (fun c5 => by exfalso; exact c5 rfl)
    refine wp_iconst (pc' := 19) (-1) dX8_place_18 rfl (by decide) ?_
    refine wp_ireturn dX8_place_19 rfl rfl (Nat.le_refl _) (Nat.le_refl _) ?_
    exact ZQ.id rfl X
  | some a =>
    cases e2 : ix t 2 with
    | none =>
      rw [show aPlace σ x t = -1 by simp only [aPlace, e, e2]]
      refine Ctr.of (cc := cX8_place) (nL := 3) (own := RX8) (rt := (some .int)) (ls := [some (.ref (B + 89)), some (.int x), some (.int t)]) (by decide) rfl rfl (Nat.le_of_ble_eq_true rfl) rfl ?_
      refine wp_aload_n_0 (pc' := 1) dX8_place_0 rfl ?_
      refine wp_iload_n_1 (pc' := 2) dX8_place_1 rfl ?_
      refine wp_callVu (pc' := 5) (c_X8_isPlace hn q _) gX8_place_X8_isPlace rfl rfl hy_X8_isPlace ⟨Nat.le_of_ble_eq_true rfl, Nat.le_of_ble_eq_true rfl⟩ ⟨rfl, rfl⟩ (Nat.le_of_ble_eq_true rfl) ⟨Nat.le_of_ble_eq_true rfl, Nat.le_of_ble_eq_true rfl⟩ (by omega) (ce8 rfl) rfl rfl dX8_place_2 rfl ?_
      rw [e]
      refine wp_if_eq (pc' := 8) (tgt := 18) dX8_place_5 rfl rfl (fun c5 => by exfalso; exact absurd c5 bS) (fun c5 => ?_)
      refine wp_iload_n_2 (pc' := 9) dX8_place_8 rfl ?_
      refine wp_i2l (pc' := 10) dX8_place_9 rfl ?_
      refine wp_lconst (pc' := 11) (0) dX8_place_10 rfl (by decide) ?_
      refine wp_lconst (pc' := 12) (1) dX8_place_11 rfl (by decide) ?_
      refine wp_callSu (pc' := 15) (c_in_rg t (lo := 0) (hi := 1) (by omega) (by omega)) gX8_place_X8_in rfl rfl hz_X8_in ⟨Nat.le_of_ble_eq_true rfl, Nat.le_of_ble_eq_true rfl⟩ ⟨rfl, rfl⟩ (Nat.le_of_ble_eq_true rfl) ⟨Nat.le_of_ble_eq_true rfl, Nat.le_of_ble_eq_true rfl⟩ rfl dX8_place_12 rfl ?_
      rw [rg_ix, e2]
      refine wp_if_ne (pc' := 18) (tgt := 20) dX8_place_15 rfl rfl (fun c15 => by exfalso; exact c15 rfl) (fun c15 => ?_)
      refine wp_iconst (pc' := 19) (-1) dX8_place_18 rfl (by decide) ?_
      refine wp_ireturn dX8_place_19 rfl rfl (Nat.le_refl _) (Nat.le_refl _) ?_
      exact ZQ.id rfl X
    | some b =>
      obtain ⟨rfl, z1⟩ := ix_some e
      rcases ix2 e2 with ⟨rfl, rfl⟩ | ⟨rfl, rfl⟩
      · rw [show aPlace σ (nI a) 0 = nI (σ.ρ a) by simp only [aPlace, e, e2]]
        refine Ctr.of (cc := cX8_place) (nL := 3) (own := RX8) (rt := (some .int)) (ls := [some (.ref (B + 89)), some (.int (nI a)), some (.int 0)]) (by decide) rfl rfl (Nat.le_of_ble_eq_true rfl) rfl ?_
        refine wp_aload_n_0 (pc' := 1) dX8_place_0 rfl ?_
        refine wp_iload_n_1 (pc' := 2) dX8_place_1 rfl ?_
        refine wp_callVu (pc' := 5) (c_X8_isPlace hn q _) gX8_place_X8_isPlace rfl rfl hy_X8_isPlace ⟨Nat.le_of_ble_eq_true rfl, Nat.le_of_ble_eq_true rfl⟩ ⟨rfl, rfl⟩ (Nat.le_of_ble_eq_true rfl) ⟨Nat.le_of_ble_eq_true rfl, Nat.le_of_ble_eq_true rfl⟩ (by omega) (ce8 rfl) rfl rfl dX8_place_2 rfl ?_
        rw [e]
        refine wp_if_eq (pc' := 8) (tgt := 18) dX8_place_5 rfl rfl (fun c5 => by exfalso; exact absurd c5 bS) (fun c5 => ?_)
        refine wp_iload_n_2 (pc' := 9) dX8_place_8 rfl ?_
        refine wp_i2l (pc' := 10) dX8_place_9 rfl ?_
        refine wp_lconst (pc' := 11) (0) dX8_place_10 rfl (by decide) ?_
        refine wp_lconst (pc' := 12) (1) dX8_place_11 rfl (by decide) ?_
        refine wp_callSu (pc' := 15) (c_in_rg 0 (lo := 0) (hi := 1) (by omega) (by omega)) gX8_place_X8_in rfl rfl hz_X8_in ⟨Nat.le_of_ble_eq_true rfl, Nat.le_of_ble_eq_true rfl⟩ ⟨rfl, rfl⟩ (Nat.le_of_ble_eq_true rfl) ⟨Nat.le_of_ble_eq_true rfl, Nat.le_of_ble_eq_true rfl⟩ rfl dX8_place_12 rfl ?_
        rw [rg_ix, e2]
        refine wp_if_ne (pc' := 18) (tgt := 20) dX8_place_15 rfl rfl (fun c15 => ?_) (fun c15 => by exfalso; exact absurd c15 bS)
        refine wp_iload_n_2 (pc' := 21) dX8_place_20 rfl ?_
        refine wp_if_ne (pc' := 24) (tgt := 33) dX8_place_21 rfl rfl (fun c21 => by exfalso; exact c21 rfl) (fun c21 => ?_)
        refine wp_aload_n_0 (pc' := 25) dX8_place_24 rfl ?_
        refine wp_get_8_4 (pc' := 28) (by omega) rfl rfl me_X8_place_0 ic_X8_place_8 dX8_place_25 rfl ?_
        refine wp_iload_n_1 (pc' := 29) dX8_place_28 rfl ?_
        refine wp_iald (pc' := 30) (N := 52) (by omega) rfl rfl (by first | exact vp_in_nI (by omega) (by omega) | assumption | (unfold vp_in; decide)) dX8_place_29 rfl ?_
        rw [nI_clamp (by omega), nr a (by omega)]
        refine wp_goto (tgt := 64) dX8_place_30 rfl ?_
        refine wp_ireturn dX8_place_64 rfl rfl (Nat.le_refl _) (Nat.le_refl _) ?_
        exact ZQ.id rfl X
      · rw [show aPlace σ (nI a) 1 = nI (seeD σ.R σ.C σ.ρ a 4) by simp only [aPlace, e, e2]]
        refine Ctr.of (cc := cX8_place) (nL := 3) (own := RX8) (rt := (some .int)) (ls := [some (.ref (B + 89)), some (.int (nI a)), some (.int 1)]) (by decide) rfl rfl (Nat.le_of_ble_eq_true rfl) rfl ?_
        refine wp_aload_n_0 (pc' := 1) dX8_place_0 rfl ?_
        refine wp_iload_n_1 (pc' := 2) dX8_place_1 rfl ?_
        refine wp_callVu (pc' := 5) (c_X8_isPlace hn q _) gX8_place_X8_isPlace rfl rfl hy_X8_isPlace ⟨Nat.le_of_ble_eq_true rfl, Nat.le_of_ble_eq_true rfl⟩ ⟨rfl, rfl⟩ (Nat.le_of_ble_eq_true rfl) ⟨Nat.le_of_ble_eq_true rfl, Nat.le_of_ble_eq_true rfl⟩ (by omega) (ce8 rfl) rfl rfl dX8_place_2 rfl ?_
        rw [e]
        refine wp_if_eq (pc' := 8) (tgt := 18) dX8_place_5 rfl rfl (fun c5 => by exfalso; exact absurd c5 bS) (fun c5 => ?_)
        refine wp_iload_n_2 (pc' := 9) dX8_place_8 rfl ?_
        refine wp_i2l (pc' := 10) dX8_place_9 rfl ?_
        refine wp_lconst (pc' := 11) (0) dX8_place_10 rfl (by decide) ?_
        refine wp_lconst (pc' := 12) (1) dX8_place_11 rfl (by decide) ?_
        refine wp_callSu (pc' := 15) (c_in_rg 1 (lo := 0) (hi := 1) (by omega) (by omega)) gX8_place_X8_in rfl rfl hz_X8_in ⟨Nat.le_of_ble_eq_true rfl, Nat.le_of_ble_eq_true rfl⟩ ⟨rfl, rfl⟩ (Nat.le_of_ble_eq_true rfl) ⟨Nat.le_of_ble_eq_true rfl, Nat.le_of_ble_eq_true rfl⟩ rfl dX8_place_12 rfl ?_
        rw [rg_ix, e2]
        refine wp_if_ne (pc' := 18) (tgt := 20) dX8_place_15 rfl rfl (fun c15 => ?_) (fun c15 => by exfalso; exact absurd c15 bS)
        refine wp_iload_n_2 (pc' := 21) dX8_place_20 rfl ?_
        refine wp_if_ne (pc' := 24) (tgt := 33) dX8_place_21 rfl rfl (fun c21 => ?_) (fun c21 => by exfalso; exact absurd c21 (by decide))
        refine wp_aload_n_0 (pc' := 34) dX8_place_33 rfl ?_
        refine wp_iload_n_1 (pc' := 35) dX8_place_34 rfl ?_
        refine wp_iconst (pc' := 36) (-1) dX8_place_35 rfl (by decide) ?_
        refine wp_iconst (pc' := 37) (0) dX8_place_36 rfl (by decide) ?_
        refine wp_callVu (pc' := 40) (c_X8_seesBy (d := 0) hn q nr ok.1 (by omega) z1) gX8_place_X8_seesBy rfl rfl hy_X8_seesBy ⟨Nat.le_of_ble_eq_true rfl, Nat.le_of_ble_eq_true rfl⟩ ⟨rfl, rfl⟩ (Nat.le_of_ble_eq_true rfl) ⟨Nat.le_of_ble_eq_true rfl, Nat.le_of_ble_eq_true rfl⟩ (by omega) (ce8 rfl) rfl rfl dX8_place_37 rfl ?_
        refine wp_aload_n_0 (pc' := 41) dX8_place_40 rfl ?_
        refine wp_iload_n_1 (pc' := 42) dX8_place_41 rfl ?_
        refine wp_iconst (pc' := 43) (1) dX8_place_42 rfl (by decide) ?_
        refine wp_iconst (pc' := 44) (0) dX8_place_43 rfl (by decide) ?_
        refine wp_callVu (pc' := 47) (c_X8_seesBy (d := 1) hn q nr ok.1 (by omega) z1) gX8_place_X8_seesBy rfl rfl hy_X8_seesBy ⟨Nat.le_of_ble_eq_true rfl, Nat.le_of_ble_eq_true rfl⟩ ⟨rfl, rfl⟩ (Nat.le_of_ble_eq_true rfl) ⟨Nat.le_of_ble_eq_true rfl, Nat.le_of_ble_eq_true rfl⟩ (by omega) (ce8 rfl) rfl rfl dX8_place_44 rfl ?_
        refine wp_iadd (pc' := 48) dX8_place_47 rfl ?_
        refine wp_aload_n_0 (pc' := 49) dX8_place_48 rfl ?_
        refine wp_iload_n_1 (pc' := 50) dX8_place_49 rfl ?_
        refine wp_iconst (pc' := 51) (0) dX8_place_50 rfl (by decide) ?_
        refine wp_iconst (pc' := 52) (1) dX8_place_51 rfl (by decide) ?_
        refine wp_callVu (pc' := 55) (c_X8_seesBy (d := 2) hn q nr ok.1 (by omega) z1) gX8_place_X8_seesBy rfl rfl hy_X8_seesBy ⟨Nat.le_of_ble_eq_true rfl, Nat.le_of_ble_eq_true rfl⟩ ⟨rfl, rfl⟩ (Nat.le_of_ble_eq_true rfl) ⟨Nat.le_of_ble_eq_true rfl, Nat.le_of_ble_eq_true rfl⟩ (by omega) (ce8 rfl) rfl rfl dX8_place_52 rfl ?_
        refine wp_iadd (pc' := 56) dX8_place_55 rfl ?_
        refine wp_aload_n_0 (pc' := 57) dX8_place_56 rfl ?_
        refine wp_iload_n_1 (pc' := 58) dX8_place_57 rfl ?_
        refine wp_iconst (pc' := 59) (0) dX8_place_58 rfl (by decide) ?_
        refine wp_iconst (pc' := 60) (-1) dX8_place_59 rfl (by decide) ?_
        refine wp_callVu (pc' := 63) (c_X8_seesBy (d := 3) hn q nr ok.1 (by omega) z1) gX8_place_X8_seesBy rfl rfl hy_X8_seesBy ⟨Nat.le_of_ble_eq_true rfl, Nat.le_of_ble_eq_true rfl⟩ ⟨rfl, rfl⟩ (Nat.le_of_ble_eq_true rfl) ⟨Nat.le_of_ble_eq_true rfl, Nat.le_of_ble_eq_true rfl⟩ (by omega) (ce8 rfl) rfl rfl dX8_place_60 rfl ?_
        refine wp_iadd (pc' := 64) dX8_place_63 rfl ?_
        refine wp_ireturn dX8_place_64 rfl rfl (Nat.le_refl _) (Nat.le_refl _) ?_
        exact ZQ.id (by rw [nI_add, nI_add, nI_add]; simp [seeD]) X
end VMC

