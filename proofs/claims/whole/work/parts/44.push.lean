
-- the piles over the state: a push, a pop
theorem CopyOf.at_ {k j : Nat} {h h' : Hp} (c : CopyOf k j h h') {a : Nat} (ha : a < k ∨ k + 4 < a) : h' a = h a := c.1 a ha
theorem turn_mem {π : Nat → Nat} (hπ : ∀ i, i < 8 → π i ∈ piL) : ∀ i, i < 8 → turn π i ∈ piL := by
  intro i hi
  unfold turn
  split
  · exact hπ 0 (by omega)
  · split
    · exact hπ _ (by omega)
    · exact hπ _ hi
theorem turn_inj {π : Nat → Nat} (hj : ∀ i j, i < 8 → j < 8 → π i = π j → i = j) : ∀ i j, i < 8 → j < 8 → turn π i = turn π j → i = j := by
  intro i j hi hj2 e
  unfold turn at e
  by_cases a : i = 7
  · by_cases b : j = 7
    · omega
    · rw [if_pos a, if_neg b, if_pos (by omega)] at e
      have := hj _ _ (by omega) (by omega) e
      omega
  · by_cases b : j = 7
    · rw [if_neg a, if_pos b, if_pos (by omega)] at e
      have := hj _ _ (by omega) (by omega) e
      omega
    · rw [if_neg a, if_neg b, if_pos (by omega), if_pos (by omega)] at e
      have := hj _ _ (by omega) (by omega) e
      omega
theorem XI.pushed {h h2 : Hp} {π : Nat → Nat} {σ : Sg} (X : XI h π σ) (cp : CopyOf (pπ π σ.nu (min σ.nu 7)) 18 (hup h 28 1 (nI (min σ.nu 7))) h2) : XI (hup h2 28 1 (nI (min σ.nu 7 + 1))) (pπ π σ.nu) σ.note ∧ ∀ a, a < 28 ∨ 69 < a → hup h2 28 1 (nI (min σ.nu 7 + 1)) a = h a := by
  obtain ⟨x1, x2, x3, x4, x5, ⟨y1, y2, y3, y4, y5⟩, x7⟩ := X
  have m3 : ∀ i, i < 8 → pπ π σ.nu i ∈ piL := by
    unfold pπ; split
    · exact y3
    · exact turn_mem y3
  have m4 : ∀ i j, i < 8 → j < 8 → pπ π σ.nu i = pπ π σ.nu j → i = j := by
    unfold pπ; split
    · exact y4
    · exact turn_inj y4
  have mt := piL_st _ (m3 (min σ.nu 7) (by omega))
  have fr : ∀ a, a < 28 ∨ 69 < a → hup h2 28 1 (nI (min σ.nu 7 + 1)) a = h a := fun a ha => by
    rw [hup_cell (by omega), cp.1 a (by omega), hup_cell (by omega)]
  refine ⟨⟨x1.of_eq (by rw [fr 1 (by omega)]) (fr 2 (by omega)), x2.of_eq (fr 11 (by omega)), x3.of_eq (fr 12 (by omega)), x4, x5.congr (fun a h1 h2 => fr a (by omega)), ⟨hup_at _ _ _ _, by show min σ.nu 7 + 1 ≤ 8; omega, m3, m4, fun i hi => ?_⟩, x7.of_eq (fun a h1 h2 => fr a (by omega))⟩, fr⟩
  have hi' : i < min σ.nu 7 + 1 := hi
  show RowOK (pushB σ.nu σ.bf σ.ρ i) ∧ XR _ (pπ π σ.nu i) (pushB σ.nu σ.bf σ.ρ i)
  have mi := piL_st _ (m3 i (by omega))
  by_cases e : i = min σ.nu 7
  · have eb : pushB σ.nu σ.bf σ.ρ i = σ.ρ := by
      unfold pushB upF
      by_cases z : σ.nu < 8
      · rw [if_pos z, if_pos (by omega)]
      · rw [if_neg z]; simp only; rw [if_pos (by omega)]
    rw [eb, e]
    refine ⟨x4, (XR.of_copy x4 (x5.congr (h' := hup h 28 1 (nI (min σ.nu 7))) (fun a h1 h2 => hup_cell (by omega))) cp).congr (fun a h1 h2 => hup_cell (by omega))⟩
  · have sep := piL_sep _ (m3 i (by omega)) _ (m3 (min σ.nu 7) (by omega)) (fun z => e (m4 _ _ (by omega) (by omega) z))
    have fi : ∀ a, pπ π σ.nu i ≤ a → a ≤ pπ π σ.nu i + 4 → hup h2 28 1 (nI (min σ.nu 7 + 1)) a = h a := fun a h1 h2 => by
      rw [hup_cell (by omega), cp.1 a (by omega), hup_cell (by omega)]
    by_cases z : σ.nu < 8
    · have eb : pushB σ.nu σ.bf σ.ρ i = σ.bf i := by
        unfold pushB upF
        rw [if_pos z, if_neg (by omega)]
      have ep : pπ π σ.nu i = π i := by unfold pπ; rw [if_pos z]
      rw [eb]
      refine ⟨(y5 i (by omega)).1, XR.congr ?_ fi⟩
      rw [ep]; exact (y5 i (by omega)).2
    · have eb : pushB σ.nu σ.bf σ.ρ i = σ.bf (i + 1) := by
        unfold pushB upF
        rw [if_neg z]; simp only; rw [if_neg (by omega)]
      have ep : pπ π σ.nu i = π (i + 1) := by unfold pπ turn; rw [if_neg z, if_neg (by omega), if_pos (by omega)]
      rw [eb]
      refine ⟨(y5 (i + 1) (by omega)).1, XR.congr ?_ fi⟩
      rw [ep]; exact (y5 (i + 1) (by omega)).2
theorem note_now (σ : Sg) (ρ' : Nat → Nat) : σ.note.now ρ' = (σ.1, σ.2.1, (σ.hu, ρ'), (min σ.nu 7 + 1, pushB σ.nu σ.bf σ.ρ), σ.2.2.2.2) := rfl
theorem XI.tx {h h' : Hp} {π : Nat → Nat} {σ : Sg} {len : Nat} {tx : Nat → Nat} (X : XI h π σ) (T : TX h' len tx) (e : ∀ a, a ≠ 1 → a ≠ 2 → h' a = h a) : XI h' π ((len, tx), σ.2) := by
  obtain ⟨x1, x2, x3, x4, x5, x6, x7⟩ := X
  exact ⟨T, x2.of_eq (e 11 (by omega) (by omega)), x3.of_eq (e 12 (by omega) (by omega)), x4, x5.congr (fun a h1 h2 => e a (by omega) (by omega)), x6.of_eq (fun a h1 h2 => e a (by omega) (by omega)), x7.of_eq (fun a h1 h2 => e a (by omega) (by omega))⟩
theorem XI.piSt {h : Hp} {π : Nat → Nat} {σ : Sg} (X : XI h π σ) : ∀ i, i < 8 → St (π i) := fun i hi => (piL_st _ (X.2.2.2.2.2.1.2.2.1 i hi)).1
theorem XI.piNe {h : Hp} {π : Nat → Nat} {σ : Sg} (X : XI h π σ) : ∀ i, i < 8 → π i ≠ 18 := fun i hi => (piL_st _ (X.2.2.2.2.2.1.2.2.1 i hi)).2.2.2.1
def Sg.undo (σ : Sg) : Sg := (σ.1, σ.2.1, (σ.hu, σ.bf (σ.nu - 1)), (σ.nu - 1, σ.bf), σ.2.2.2.2)
def Sg.keep (σ : Sg) : Sg := (σ.1, σ.2.1, σ.2.2.1, σ.2.2.2.1, (σ.nk + 1, upF σ.kp σ.nk σ.ρ))
def Sg.back (σ : Sg) : Sg := (σ.1, σ.2.1, (σ.hu, σ.kp (σ.nk - 1)), (0, σ.bf), (σ.nk - 1, σ.kp))
theorem XI.popped {h h2 : Hp} {π : Nat → Nat} {σ : Sg} (X : XI h π σ) (hnu : σ.nu ≠ 0) (cp : CopyOf 18 (π (σ.nu - 1)) (hup h 28 1 (nI (σ.nu - 1))) h2) : XI h2 π σ.undo ∧ h2 28 1 = nI (σ.nu - 1) ∧ ∀ a, 89 ≤ a → h2 a = h a := by
  obtain ⟨x1, x2, x3, x4, x5, ⟨y1, y2, y3, y4, y5⟩, x7⟩ := X
  have fr : ∀ a, a < 18 ∨ 22 < a → a ≠ 28 → h2 a = h a := fun a ha h28 => by rw [cp.1 a (by omega), hup_cell h28]
  have hb : h2 28 1 = nI (σ.nu - 1) := by rw [cp.1 28 (by omega), hup_at]
  have yl := y5 (σ.nu - 1) (by omega)
  have ml := piL_st _ (y3 (σ.nu - 1) (by omega))
  refine ⟨⟨x1.of_eq (by rw [fr 1 (by omega) (by omega)]) (fr 2 (by omega) (by omega)), x2.of_eq (fr 11 (by omega) (by omega)), x3.of_eq (fr 12 (by omega) (by omega)), yl.1, XR.of_copy yl.1 (yl.2.congr (h' := hup h 28 1 (nI (σ.nu - 1))) (fun a h1 h2 => hup_cell (by omega))) cp, ⟨hb, by show σ.nu - 1 ≤ 8; omega, y3, y4, fun i hi => ?_⟩, x7.of_eq (fun a h1 h2 => fr a (by omega) (by omega))⟩, hb, fun a ha => fr a (by omega) (by omega)⟩
  have hi' : i < σ.nu - 1 := hi
  have mi := piL_st _ (y3 i (by omega))
  exact ⟨(y5 i (by omega)).1, (y5 i (by omega)).2.congr (fun a h1 h2 => fr a (by omega) (by omega))⟩
theorem XI.kept {h h2 : Hp} {π : Nat → Nat} {σ : Sg} (X : XI h π σ) (hnk : σ.nk < 2) (cp : CopyOf (72 + 5 * σ.nk) 18 h h2) : XI (hup h2 70 1 (nI (σ.nk + 1))) π σ.keep ∧ ∀ a, 89 ≤ a → hup h2 70 1 (nI (σ.nk + 1)) a = h a := by
  obtain ⟨x1, x2, x3, x4, x5, x6, ⟨y1, y2, y3⟩⟩ := X
  have fr : ∀ a, a < 70 ∨ 81 < a → hup h2 70 1 (nI (σ.nk + 1)) a = h a := fun a ha => by rw [hup_cell (by omega), cp.1 a (by omega)]
  refine ⟨⟨x1.of_eq (by rw [fr 1 (by omega)]) (fr 2 (by omega)), x2.of_eq (fr 11 (by omega)), x3.of_eq (fr 12 (by omega)), x4, x5.congr (fun a h1 h2 => fr a (by omega)), x6.of_eq (fun a h1 h2 => fr a (by omega)), ⟨hup_at _ _ _ _, by show σ.nk + 1 ≤ 2; omega, fun i hi => ?_⟩⟩, fun a ha => fr a (by omega)⟩
  have hi' : i < σ.nk + 1 := hi
  show RowOK (upF σ.kp σ.nk σ.ρ i) ∧ XR _ (72 + 5 * i) (upF σ.kp σ.nk σ.ρ i)
  unfold upF
  by_cases e : i = σ.nk
  · simp only [e, if_true]
    exact ⟨x4, (XR.of_copy x4 x5 cp).congr (fun a h1 h2 => hup_cell (by omega))⟩
  · simp only [e, if_false]
    exact ⟨(y3 i (by omega)).1, (y3 i (by omega)).2.congr (fun a h1 h2 => by rw [hup_cell (by omega), cp.1 a (by omega)])⟩
theorem XI.backed {h h2 : Hp} {π : Nat → Nat} {σ : Sg} (X : XI h π σ) (hnk : σ.nk ≠ 0) (cp : CopyOf 18 (72 + 5 * (σ.nk - 1)) (hup h 70 1 (nI (σ.nk - 1))) h2) : XI (hup h2 28 1 0) π σ.back ∧ hup h2 28 1 0 70 1 = nI (σ.nk - 1) ∧ ∀ a, 89 ≤ a → hup h2 28 1 0 a = h a := by
  obtain ⟨x1, x2, x3, x4, x5, ⟨z1, z2, z3, z4, z5⟩, ⟨y1, y2, y3⟩⟩ := X
  have fr : ∀ a, a < 18 ∨ 22 < a → a ≠ 28 → a ≠ 70 → hup h2 28 1 0 a = h a := fun a ha h28 h70 => by rw [hup_cell h28, cp.1 a (by omega), hup_cell h70]
  have hb : hup h2 28 1 0 70 1 = nI (σ.nk - 1) := by rw [hup_cell (by decide), cp.1 70 (by omega), hup_at]
  have yl := y3 (σ.nk - 1) (by omega)
  refine ⟨⟨x1.of_eq (by rw [fr 1 (by omega) (by omega) (by omega)]) (fr 2 (by omega) (by omega) (by omega)), x2.of_eq (fr 11 (by omega) (by omega) (by omega)), x3.of_eq (fr 12 (by omega) (by omega) (by omega)), yl.1, (XR.of_copy yl.1 (yl.2.congr (h' := hup h 70 1 (nI (σ.nk - 1))) (fun a h1 h2 => hup_cell (by omega))) cp).congr (fun a h1 h2 => hup_cell (by omega)), ⟨hup_at _ _ _ _, by show 0 ≤ 8; omega, z3, z4, fun i hi => absurd hi (Nat.not_lt_zero i)⟩, ⟨hb, by show σ.nk - 1 ≤ 2; omega, fun i hi => ?_⟩⟩, hb, fun a ha => fr a (by omega) (by omega) (by omega)⟩
  have hi' : i < σ.nk - 1 := hi
  exact ⟨(y3 i (by omega)).1, (y3 i (by omega)).2.congr (fun a h1 h2 => fr a (by omega) (by omega) (by omega))⟩

