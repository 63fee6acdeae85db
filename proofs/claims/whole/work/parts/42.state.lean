
-- the delta's state: text, shape, hunger and row, the undone, the kept; the class's cells hold it
abbrev Sg : Type := (Nat × (Nat → Nat)) × (Nat × Nat) × ((Nat → Nat) × (Nat → Nat)) × (Nat × (Nat → Nat → Nat)) × (Nat × (Nat → Nat → Nat))
abbrev Sg.len (σ : Sg) : Nat := σ.1.1
abbrev Sg.tx (σ : Sg) : Nat → Nat := σ.1.2
abbrev Sg.R (σ : Sg) : Nat := σ.2.1.1
abbrev Sg.C (σ : Sg) : Nat := σ.2.1.2
abbrev Sg.hu (σ : Sg) : Nat → Nat := σ.2.2.1.1
abbrev Sg.ρ (σ : Sg) : Nat → Nat := σ.2.2.1.2
abbrev Sg.nu (σ : Sg) : Nat := σ.2.2.2.1.1
abbrev Sg.bf (σ : Sg) : Nat → Nat → Nat := σ.2.2.2.1.2
abbrev Sg.nk (σ : Sg) : Nat := σ.2.2.2.2.1
abbrev Sg.kp (σ : Sg) : Nat → Nat → Nat := σ.2.2.2.2.2
abbrev mkS (len : Nat) (tx : Nat → Nat) (R C : Nat) (hu ρ : Nat → Nat) (nu : Nat) (bf : Nat → Nat → Nat) (nk : Nat) (kp : Nat → Nat → Nat) : Sg := ((len, tx), (R, C), (hu, ρ), (nu, bf), (nk, kp))
def Sg.now (σ : Sg) (ρ' : Nat → Nat) : Sg := (σ.1, σ.2.1, (σ.hu, ρ'), σ.2.2.2)
def upF (f : Nat → Nat → Nat) (i : Nat) (v : Nat → Nat) : Nat → Nat → Nat := fun j => if j = i then v else f j
def pushB (nu : Nat) (bf : Nat → Nat → Nat) (ρ : Nat → Nat) : Nat → Nat → Nat := if nu < 8 then upF bf nu ρ else upF (fun i => bf (i + 1)) 7 ρ
def Sg.note (σ : Sg) : Sg := (σ.1, σ.2.1, σ.2.2.1, (min σ.nu 7 + 1, pushB σ.nu σ.bf σ.ρ), σ.2.2.2.2)
/-- which of the numbers 0 to P - 1 an int is -/
def ix (x : Int32) (P : Nat) : Option Nat := if 0 ≤ x.toInt ∧ x.toInt < (P : Int) then some x.toInt.toNat else none
theorem ix_some {x : Int32} {P a : Nat} (h : ix x P = some a) : x = nI a ∧ a < P := by
  unfold ix at h
  split at h
  · rename_i q
    cases h
    refine ⟨?_, by omega⟩
    have z : ¬ x < 0 := by (simp (disch := omega) only [Int32.lt_iff_toInt_lt, Int32.le_iff_toInt_le, ← Int32.toInt_inj, nI_toInt, il_0, il_1, il_2, il_3, il_4, il_5, il_6, il_8, il_9, il_10, il_16, il_26, il_32, il_40, il_n4, il_n1, il_n2, il_11, il_48, il_57, il_59, il_44, il_126, il_200, il_9999, il_66666, il_10000, il_1000000, il_15, il_12, il_256, il_4096, il_53, il_52] at *; omega)
    obtain ⟨j, hj, rfl⟩ := nI_of z
    rw [nI_toInt (by omega)]
    simp
  · cases h
theorem ix_nI {P a : Nat} (h : a < P) (h2 : P ≤ 1000000) : ix (nI a) P = some a := by
  unfold ix
  rw [nI_toInt (by omega), if_pos (by omega)]
  simp
theorem ix_none {x : Int32} {P : Nat} : ix x P = none ↔ ¬ (0 ≤ x.toInt ∧ x.toInt < (P : Int)) := by
  unfold ix
  split
  · rename_i q; constructor
    · intro z; cases z
    · intro z; exact absurd q z
  · rename_i q; exact ⟨fun _ => q, fun _ => rfl⟩
theorem ix_iff {x : Int32} {P : Nat} : (ix x P).isSome = true ↔ 0 ≤ x.toInt ∧ x.toInt < (P : Int) := by
  unfold ix
  split
  · rename_i q; exact ⟨fun _ => q, fun _ => rfl⟩
  · rename_i q; constructor
    · intro z; cases z
    · intro z; exact absurd z q
def piL : List Nat := [30, 35, 40, 45, 50, 55, 60, 65]
theorem piL_st : ∀ k ∈ piL, k ∈ stL ∧ 30 ≤ k ∧ k ≤ 65 ∧ k ≠ 18 ∧ k ≠ 23 ∧ k ≠ 5 := by decide
theorem piL_sep : ∀ k ∈ piL, ∀ j ∈ piL, k ≠ j → k + 4 < j ∨ j + 4 < k := by decide
theorem st18 : St 18 := by unfold St; decide
theorem st23 : St 23 := by unfold St; decide
theorem st72 : St 72 := by unfold St; decide
theorem st77 : St 77 := by unfold St; decide
def XP (h : Hp) (π : Nat → Nat) (nu : Nat) (bf : Nat → Nat → Nat) : Prop := h 28 1 = nI nu ∧ nu ≤ 8 ∧ (∀ i, i < 8 → π i ∈ piL) ∧ (∀ i j, i < 8 → j < 8 → π i = π j → i = j) ∧ ∀ i, i < nu → RowOK (bf i) ∧ XR h (π i) (bf i)
def XK (h : Hp) (nk : Nat) (kp : Nat → Nat → Nat) : Prop := h 70 1 = nI nk ∧ nk ≤ 2 ∧ ∀ i, i < nk → RowOK (kp i) ∧ XR h (72 + 5 * i) (kp i)
def XI (h : Hp) (π : Nat → Nat) (σ : Sg) : Prop := TX h σ.len σ.tx ∧ ShL h 11 σ.R σ.C ∧ HU h σ.hu ∧ RowOK σ.ρ ∧ XR h 18 σ.ρ ∧ XP h π σ.nu σ.bf ∧ XK h σ.nk σ.kp
def Kp (a : Nat) : Prop := a = 2 ∨ a = 11 ∨ a = 12 ∨ (18 ≤ a ∧ a ≤ 22) ∨ (28 ≤ a ∧ a ≤ 81)
theorem XP.of_eq {h h' : Hp} {π : Nat → Nat} {nu : Nat} {bf : Nat → Nat → Nat} (X : XP h π nu bf) (e : ∀ a, 28 ≤ a → a ≤ 69 → h' a = h a) : XP h' π nu bf := by
  obtain ⟨x1, x2, x3, x4, x5⟩ := X
  refine ⟨by rw [e 28 (by omega) (by omega)]; exact x1, x2, x3, x4, fun i hi => ⟨(x5 i hi).1, (x5 i hi).2.congr (fun a h1 h2 => e a ?_ ?_)⟩⟩
  all_goals (have := piL_st _ (x3 i (by omega)); omega)
theorem XK.of_eq {h h' : Hp} {nk : Nat} {kp : Nat → Nat → Nat} (X : XK h nk kp) (e : ∀ a, 70 ≤ a → a ≤ 81 → h' a = h a) : XK h' nk kp := by
  obtain ⟨x1, x2, x5⟩ := X
  exact ⟨by rw [e 70 (by omega) (by omega)]; exact x1, x2, fun i hi => ⟨(x5 i hi).1, (x5 i hi).2.congr (fun a h1 h2 => e a (by omega) (by omega))⟩⟩
theorem XI.sc {h h' : Hp} {π : Nat → Nat} {σ : Sg} (X : XI h π σ) (e1 : h' 1 1 = h 1 1) (e : ∀ a, Kp a → h' a = h a) : XI h' π σ := by
  obtain ⟨x1, x2, x3, x4, x5, x6, x7⟩ := X
  unfold Kp at e
  exact ⟨x1.of_eq e1 (e 2 (by omega)), x2.of_eq (e 11 (by omega)), x3.of_eq (e 12 (by omega)), x4, x5.congr (fun a h1 h2 => e a (by omega)), x6.of_eq (fun a h1 h2 => e a (by omega)), x7.of_eq (fun a h1 h2 => e a (by omega))⟩
theorem XI.toNow {h h' : Hp} {π : Nat → Nat} {σ : Sg} {ρ' : Nat → Nat} (X : XI h π σ) (ok : RowOK ρ') (xr : XR h' 18 ρ') (e : ∀ a, a < 18 ∨ 22 < a → h' a = h a) : XI h' π (σ.now ρ') := by
  obtain ⟨x1, x2, x3, x4, x5, x6, x7⟩ := X
  exact ⟨x1.of_eq (by rw [e 1 (by omega)]) (e 2 (by omega)), x2.of_eq (e 11 (by omega)), x3.of_eq (e 12 (by omega)), ok, xr, x6.of_eq (fun a h1 h2 => e a (by omega)), x7.of_eq (fun a h1 h2 => e a (by omega))⟩
/-- rows whose marks alone change -/
theorem XR.marks {h h' : Hp} {k : Nat} {ρ ρ' : Nat → Nat} (q : XR h k ρ) (e : ∀ a, a ≠ k + 1 → h' a = h a) (em : ∀ i, i < 16 → h' (k + 1) i = nI (ρ' i)) (eρ : ∀ i, 16 ≤ i → ρ' i = ρ i) : XR h' k ρ' := by
  obtain ⟨q1, q2, q3⟩ := q
  refine ⟨em, by rw [e k (by omega), eρ 16 (by omega)]; exact q2, fun w hw => ?_⟩
  rw [eρ 16 (by omega)] at hw
  rw [e (k + 2) (by omega), e (k + 3) (by omega), e (k + 4) (by omega), eρ _ (by omega), eρ _ (by omega)]
  obtain ⟨a1, a2, a3⟩ := q3 w hw
  exact ⟨a1, a2, fun j hj => by rw [eρ _ (by omega)]; exact a3 j hj⟩
theorem RowOK.marks {ρ ρ' : Nat → Nat} (ok : RowOK ρ) (e5 : ∀ i, i < 16 → ρ' i ≤ 5) (eρ : ∀ i, 16 ≤ i → ρ' i = ρ i) : RowOK ρ' := by
  obtain ⟨o1, o2, o3⟩ := ok
  refine ⟨e5, by rw [eρ 16 (by omega)]; exact o2, fun w hw => ?_⟩
  rw [eρ 16 (by omega)] at hw
  rw [eρ _ (by omega), eρ _ (by omega)]
  obtain ⟨a1, a2, a3, a4⟩ := o3 w hw
  exact ⟨a1, a2, a3, fun j hj => by rw [eρ _ (by omega)]; exact a4 j hj⟩
def swapR (ρ : Nat → Nat) (x y : Nat) : Nat → Nat := upN (upN ρ x (ρ y)) y (ρ x)
theorem upN_at (f : Nat → Nat) (i v : Nat) : upN f i v i = v := if_pos rfl
theorem upN_off {f : Nat → Nat} {i v j : Nat} (h : j ≠ i) : upN f i v j = f j := if_neg h
theorem swapR_hi {ρ : Nat → Nat} {x y : Nat} (hx : x < 16) (hy : y < 16) : ∀ i, 16 ≤ i → swapR ρ x y i = ρ i := fun i hi => by
  unfold swapR; rw [upN_off (by omega), upN_off (by omega)]
theorem swapR_le {ρ : Nat → Nat} {x y : Nat} (hx : x < 16) (hy : y < 16) (h5 : ∀ i, i < 16 → ρ i ≤ 5) : ∀ i, i < 16 → swapR ρ x y i ≤ 5 := fun i hi => by
  unfold swapR upN
  split
  · exact h5 x hx
  · split
    · exact h5 y hy
    · exact h5 i hi
theorem swapR_ok {ρ : Nat → Nat} {x y : Nat} (ok : RowOK ρ) (hx : x < 16) (hy : y < 16) : RowOK (swapR ρ x y) := ok.marks (swapR_le hx hy ok.1) (swapR_hi hx hy)
theorem swapR_swap (ρ : Nat → Nat) (x y : Nat) : swapR (swapR ρ x y) x y = ρ := by
  funext i
  unfold swapR upN
  by_cases e1 : i = y
  · subst e1
    by_cases e2 : i = x
    · subst e2; simp
    · have : x ≠ i := fun q => e2 q.symm
      simp [this]
  · by_cases e2 : i = x
    · subst e2; simp [e1]
    · simp [e1, e2]
theorem XR.swap {h : Hp} {k x y : Nat} {ρ : Nat → Nat} (q : XR h k ρ) (hx : x < 16) (hy : y < 16) : XR (hup (hup h (k + 1) x (h (k + 1) y)) (k + 1) y (h (k + 1) x)) k (swapR ρ x y) := by
  refine q.marks (fun a ha => by rw [hup_cell ha, hup_cell ha]) (fun i hi => ?_) (swapR_hi hx hy)
  rw [q.1 x hx, q.1 y hy]
  unfold swapR
  by_cases e : i = y
  · subst e; rw [hup_at, upN_at]
  · rw [hup_off e, upN_off e]
    by_cases e2 : i = x
    · subst e2; rw [hup_at, upN_at]
    · rw [hup_off e2, upN_off e2]; exact q.1 i hi
theorem XR.alter {h : Hp} {k x m : Nat} {ρ : Nat → Nat} (q : XR h k ρ) (hx : x < 16) : XR (hup h (k + 1) x (nI m)) k (upN ρ x m) := by
  refine q.marks (fun a ha => hup_cell ha) (fun i hi => ?_) (fun i hi => upN_off (by omega))
  by_cases e2 : i = x
  · subst e2; rw [hup_at, upN_at]
  · rw [hup_off e2, upN_off e2]; exact q.1 i hi
/-- a call of the class: its answer, the state behind it -/
def XQ (h : Hp) (lg : Lg) (a : Int32) (σ : Sg) : PO := fun v r1 h1 lg1 => v = some (.int a) ∧ lg1 = lg ∧ (∃ π, r1 = rf0 π ∧ XI h1 π σ) ∧ ∀ k, 89 ≤ k → h1 k = h k
theorem XQ.of {h h1 : Hp} {lg : Lg} {a b : Int32} {σ : Sg} {π : Nat → Nat} (e : b = a) (X : XI h1 π σ) (f : ∀ k, 89 ≤ k → h1 k = h k) : XQ h lg a σ (some (.int b)) (rf0 π) h1 lg := ⟨by rw [e], rfl, ⟨π, rfl, X⟩, f⟩
theorem XQ.sc {h h1 : Hp} {lg : Lg} {a b : Int32} {σ : Sg} {π : Nat → Nat} (e : b = a) (X : XI h π σ) (e1 : h1 1 1 = h 1 1) (f : ∀ k, Kp k ∨ 89 ≤ k → h1 k = h k) : XQ h lg a σ (some (.int b)) (rf0 π) h1 lg := XQ.of e (X.sc e1 (fun k hk => f k (Or.inl hk))) (fun k hk => f k (Or.inr hk))
theorem XQ.id {h : Hp} {lg : Lg} {a b : Int32} {σ : Sg} {π : Nat → Nat} (e : b = a) (X : XI h π σ) : XQ h lg a σ (some (.int b)) (rf0 π) h lg := XQ.sc e X rfl (fun _ _ => rfl)
theorem XI.MK {h : Hp} {π : Nat → Nat} {σ : Sg} (X : XI h π σ) : MK h 18 σ.ρ := fun i hi => ⟨X.2.2.2.2.1.1 i hi, X.2.2.2.1.1 i hi⟩
def lieB (R C : Nat) (ρ : Nat → Nat) (w : Nat) : Bool := decide (waysN R C ρ ρ w = 0)
def anyL (R C : Nat) (ρ : Nat → Nat) : Bool := anyB (ρ 16) (lieB R C ρ)
theorem bS {α : Type} {a : α} : ¬ b2i (some a).isSome = 0 := by simp [b2i]

