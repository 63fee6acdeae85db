
-- THE TEXT, as numbers: what it tells, item by item
def ltr (len : Nat) (tx : Nat → Nat) (p : Nat) : Nat := if p < len then tx p else 0
def dig (len : Nat) (tx : Nat → Nat) (p : Nat) : Option Nat := if 48 ≤ ltr len tx p ∧ ltr len tx p ≤ 57 then some (ltr len tx p - 48) else none
/-- one or two figures from p on: the number, and the place behind it -/
def num (len : Nat) (tx : Nat → Nat) (p : Nat) : Option (Nat × Nat) := match dig len tx p with
  | none => none
  | some a => match dig len tx (p + 1) with
    | none => some (a, p + 1)
    | some b => some (10 * a + b, p + 2)
def pair (len : Nat) (tx : Nat → Nat) (p : Nat) : Option (Nat × Nat × Nat) := match num len tx p with
  | none => none
  | some (a, q) => if ltr len tx q = 44 then (match num len tx (q + 1) with
    | none => none
    | some (b, r) => if ltr len tx r = 59 then some (a, b, r + 1) else none) else none
theorem dig_le {len : Nat} {tx : Nat → Nat} {p a : Nat} (h : dig len tx p = some a) : a ≤ 9 := by
  unfold dig at h
  split at h
  · cases h; omega
  · cases h
theorem num_le {len : Nat} {tx : Nat → Nat} {p a q : Nat} (h : num len tx p = some (a, q)) : a ≤ 99 ∧ p < q ∧ q ≤ p + 2 := by
  unfold num at h
  split at h
  · cases h
  · rename_i a' ha
    have := dig_le ha
    split at h
    · cases h; omega
    · rename_i b' hb
      have := dig_le hb
      cases h; omega
theorem pair_le {len : Nat} {tx : Nat → Nat} {p a b q : Nat} (h : pair len tx p = some (a, b, q)) : a ≤ 99 ∧ b ≤ 99 ∧ p < q ∧ q ≤ p + 6 := by
  unfold pair at h
  split at h
  · cases h
  · rename_i a' q' ha
    have := num_le ha
    split at h
    · split at h
      · cases h
      · rename_i b' r' hb
        have := num_le hb
        split at h
        · cases h; omega
        · cases h
    · cases h
def mk5 (len : Nat) (tx : Nat → Nat) (p : Nat) : Bool := decide (48 ≤ ltr len tx p) && decide (ltr len tx p ≤ 53)
/-- how many letters 0 to 5 come from q on, k at most -/
def nlead (len : Nat) (tx : Nat → Nat) : Nat → Nat → Nat
  | 0, _ => 0
  | k + 1, q => if mk5 len tx q = true then nlead len tx k (q + 1) + 1 else 0
theorem nlead_eq {len : Nat} {tx : Nat → Nat} : ∀ k q t, t ≤ k → (∀ j, j < t → mk5 len tx (q + j) = true) → (t = k ∨ mk5 len tx (q + t) = false) → nlead len tx k q = t := by
  intro k
  induction k with
  | zero => intro q t h _ _; simp only [nlead]; omega
  | succ k ih =>
    intro q t h1 h2 h3
    simp only [nlead]
    cases t with
    | zero =>
      have z : mk5 len tx q = false := by
        rcases h3 with h3 | h3
        · omega
        · exact h3
      simp [z]
    | succ t =>
      have z := h2 0 (by omega)
      rw [Nat.add_zero] at z
      rw [if_pos z, ih (q + 1) t (by omega) (fun j hj => by have := h2 (j + 1) (by omega); rwa [show q + (j + 1) = q + 1 + j by omega] at this) (by
        rcases h3 with h3 | h3
        · left; omega
        · right; rwa [show q + (t + 1) = q + 1 + t by omega] at h3)]
theorem nlead_all {len : Nat} {tx : Nat → Nat} : ∀ k q, nlead len tx k q ≤ k ∧ (∀ j, j < nlead len tx k q → mk5 len tx (q + j) = true) ∧ (nlead len tx k q = k ∨ mk5 len tx (q + nlead len tx k q) = false) := by
  intro k
  induction k with
  | zero => intro q; exact ⟨Nat.le_refl _, fun j hj => by simp only [nlead] at hj; omega, Or.inl rfl⟩
  | succ k ih =>
    intro q
    obtain ⟨h1, h2, h3⟩ := ih (q + 1)
    simp only [nlead]
    cases e : mk5 len tx q
    · simp [e]
    · simp only [if_true]
      refine ⟨by omega, fun j hj => ?_, ?_⟩
      · cases j with
        | zero => rw [Nat.add_zero]; exact e
        | succ j => rw [show q + (j + 1) = q + 1 + j by omega]; exact h2 j (by omega)
      · rcases h3 with h3 | h3
        · left; omega
        · right; rwa [show q + (nlead len tx k (q + 1) + 1) = q + 1 + nlead len tx k (q + 1) by omega]
def upN (f : Nat → Nat) (i v : Nat) : Nat → Nat := fun j => if j = i then v else f j
/-- a walk more behind the others -/
def addW (ρ : Nat → Nat) (κ k : Nat) (f : Nat → Nat) : Nat → Nat := fun i => if i = 16 then ρ 16 + 1 else if i = 17 + 7 * ρ 16 then κ else if i = 18 + 7 * ρ 16 then k else if 19 + 7 * ρ 16 ≤ i ∧ i < 24 + 7 * ρ 16 then (if i - (19 + 7 * ρ 16) < k then f (i - (19 + 7 * ρ 16)) else 0) else ρ i
/-- rows, columns, only deltas so far, hunger, the story -/
abbrev PSt : Type := Nat × Nat × Bool × (Nat → Nat) × (Nat → Nat)
def item (len : Nat) (tx : Nat → Nat) (p : Nat) (s : PSt) : Option (Nat × PSt) :=
  if ltr len tx p = 100 then (if s.2.2.1 = true then (match pair len tx (p + 1) with
      | some (a, b, q) => if 2 ≤ a ∧ a ≤ 4 ∧ 2 ≤ b ∧ b ≤ 4 then some (q, (a, b, true, s.2.2.2.1, s.2.2.2.2)) else none
      | none => none) else none)
  else if ltr len tx p = 109 then (match pair len tx (p + 1) with
      | some (a, b, q) => if a < s.1 * s.2.1 ∧ b ≤ 5 then some (q, (s.1, s.2.1, false, s.2.2.2.1, upN s.2.2.2.2 a b)) else none
      | none => none)
  else if ltr len tx p = 104 then (match pair len tx (p + 1) with
      | some (a, b, q) => if a ≤ 5 ∧ 1 ≤ b ∧ b ≤ 9 then some (q, (s.1, s.2.1, false, upN s.2.2.2.1 a b, s.2.2.2.2)) else none
      | none => none)
  else if ltr len tx p = 119 then (if 48 ≤ ltr len tx (p + 1) ∧ ltr len tx (p + 1) ≤ 51 ∧ s.2.2.2.2 16 < 5 ∧ 2 ≤ nlead len tx 6 (p + 2) ∧ nlead len tx 6 (p + 2) ≤ 5 ∧ ltr len tx (p + 2 + nlead len tx 6 (p + 2)) = 59 then
      some (p + 3 + nlead len tx 6 (p + 2), (s.1, s.2.1, false, s.2.2.2.1, addW s.2.2.2.2 (ltr len tx (p + 1) - 48) (nlead len tx 6 (p + 2)) (fun j => ltr len tx (p + 2 + j) - 48))) else none)
  else none
theorem item_adv {len : Nat} {tx : Nat → Nat} {p : Nat} {s : PSt} {q : Nat} {s' : PSt} (h : item len tx p s = some (q, s')) : p < q ∧ q ≤ p + 9 := by
  unfold item at h
  split at h
  · split at h
    · split at h
      · rename_i a b r hr
        have := pair_le hr
        split at h
        · cases h; omega
        · cases h
      · cases h
    · cases h
  · split at h
    · split at h
      · rename_i a b r hr
        have := pair_le hr
        split at h
        · cases h; omega
        · cases h
      · cases h
    · split at h
      · split at h
        · rename_i a b r hr
          have := pair_le hr
          split at h
          · cases h; omega
          · cases h
        · cases h
      · split at h
        · split at h
          · rename_i hq
            cases h
            omega
          · cases h
        · cases h
def PSok (s : PSt) : Prop := Sh s.1 s.2.1 ∧ RowOK s.2.2.2.2 ∧ ∀ m, m < 6 → 1 ≤ s.2.2.2.1 m ∧ s.2.2.2.1 m ≤ 9
theorem rowOK_upN {ρ : Nat → Nat} (ok : RowOK ρ) {a b : Nat} (ha : a < 16) (hb : b ≤ 5) : RowOK (upN ρ a b) := by
  obtain ⟨h1, h2, h3⟩ := ok
  have e16 : upN ρ a b 16 = ρ 16 := by
    unfold upN; rw [if_neg (by omega)]
  refine ⟨fun i hi => ?_, by rw [e16]; exact h2, fun w hw => ?_⟩
  · unfold upN
    split
    · exact hb
    · exact h1 i hi
  · rw [e16] at hw
    obtain ⟨a1, a2, a3, a4⟩ := h3 w hw
    unfold upN
    rw [if_neg (by omega), if_neg (by omega)]
    exact ⟨a1, a2, a3, fun j hj => by rw [if_neg (by omega)]; exact a4 j hj⟩
theorem addW_lo {ρ : Nat → Nat} {κ k : Nat} {f : Nat → Nat} {i : Nat} (hi : i < 16) : addW ρ κ k f i = ρ i := by
  unfold addW
  rw [if_neg (by omega), if_neg (by omega), if_neg (by omega), if_neg (by omega)]
theorem addW_16 {ρ : Nat → Nat} {κ k : Nat} {f : Nat → Nat} : addW ρ κ k f 16 = ρ 16 + 1 := by
  unfold addW
  rw [if_pos rfl]
theorem addW_k {ρ : Nat → Nat} {κ k : Nat} {f : Nat → Nat} : addW ρ κ k f (17 + 7 * ρ 16) = κ := by
  unfold addW
  rw [if_neg (by omega), if_pos rfl]
theorem addW_n {ρ : Nat → Nat} {κ k : Nat} {f : Nat → Nat} : addW ρ κ k f (18 + 7 * ρ 16) = k := by
  unfold addW
  rw [if_neg (by omega), if_neg (by omega), if_pos rfl]
theorem addW_m {ρ : Nat → Nat} {κ k : Nat} {f : Nat → Nat} {j : Nat} (hj : j < k) (h5 : j < 5) : addW ρ κ k f (19 + 7 * ρ 16 + j) = f j := by
  unfold addW
  rw [if_neg (by omega), if_neg (by omega), if_neg (by omega), if_pos (by omega), show 19 + 7 * ρ 16 + j - (19 + 7 * ρ 16) = j by omega, if_pos hj]
theorem addW_z {ρ : Nat → Nat} {κ k : Nat} {f : Nat → Nat} {j : Nat} (hj : k ≤ j) (h5 : j < 5) : addW ρ κ k f (19 + 7 * ρ 16 + j) = 0 := by
  unfold addW
  rw [if_neg (by omega), if_neg (by omega), if_neg (by omega), if_pos (by omega), show 19 + 7 * ρ 16 + j - (19 + 7 * ρ 16) = j by omega, if_neg (by omega)]
theorem addW_old {ρ : Nat → Nat} {κ k : Nat} {f : Nat → Nat} {i : Nat} (h1 : 16 < i) (h2 : i < 17 + 7 * ρ 16) : addW ρ κ k f i = ρ i := by
  unfold addW
  rw [if_neg (by omega), if_neg (by omega), if_neg (by omega), if_neg (by omega)]
theorem addW_hi {ρ : Nat → Nat} {κ k : Nat} {f : Nat → Nat} {i : Nat} (h1 : 24 + 7 * ρ 16 ≤ i) : addW ρ κ k f i = ρ i := by
  unfold addW
  rw [if_neg (by omega), if_neg (by omega), if_neg (by omega), if_neg (by omega)]
theorem rowOK_addW {ρ : Nat → Nat} (ok : RowOK ρ) {κ k : Nat} {f : Nat → Nat} (h5 : ρ 16 < 5) (hκ : κ ≤ 3) (hk2 : 2 ≤ k) (hk5 : k ≤ 5) (hf : ∀ j, j < k → f j ≤ 5) : RowOK (addW ρ κ k f) := by
  obtain ⟨h1, h2, h3⟩ := ok
  refine ⟨fun i hi => by rw [addW_lo hi]; exact h1 i hi, by rw [addW_16]; omega, fun w hw => ?_⟩
  rw [addW_16] at hw
  by_cases e : w = ρ 16
  · subst e
    rw [addW_k, addW_n]
    exact ⟨hκ, hk2, hk5, fun j hj => by rw [addW_m hj (by omega)]; exact hf j hj⟩
  · obtain ⟨a1, a2, a3, a4⟩ := h3 w (by omega)
    rw [addW_old (by omega) (by omega), addW_old (by omega) (by omega)]
    exact ⟨a1, a2, a3, fun j hj => by rw [addW_old (by omega) (by omega)]; exact a4 j hj⟩
/-- the whole text from p on: where the first fault is, or -4; and what is told -/
def prs (len : Nat) (tx : Nat → Nat) : Nat → Nat → PSt → Int32 × PSt
  | 0, _, s => (-4, s)
  | f + 1, p, s => if p < len then (match item len tx p s with
    | none => (nI p, s)
    | some (q, s') => prs len tx f q s') else (-4, s)
def ps0 : PSt := (4, 4, true, (fun m => m + 1), (fun _ => 0))
theorem ps0_ok : PSok ps0 := by
  refine ⟨by unfold Sh ps0; decide, ⟨fun i hi => Nat.zero_le 5, Nat.zero_le 5, fun w hw => absurd hw (Nat.not_lt_zero w)⟩, fun m hm => ?_⟩
  show 1 ≤ m + 1 ∧ m + 1 ≤ 9
  omega

