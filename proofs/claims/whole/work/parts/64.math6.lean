
-- labels that spread from place to place: the least one of all joined
/-- k rounds are done, and the first c of the 256 twos of one more -/
def HI (R C : Nat) (g : Nat → Bool) (k c : Nat) (L : Nat → Nat) : Prop :=
  (∀ y, y < R * C → g y = true → L y < R * C ∧ g (L y) = true ∧ cc R C g (L y) y = true) ∧
  (∀ z y, z < R * C → y < R * C → g z = true → g y = true → grow R C g (fun i => decide (i = z)) k y = true → L y ≤ z) ∧
  (∀ z y w, z < R * C → y < R * C → w < R * C → g z = true → g y = true → g w = true → 16 * y + w < c → go 0 C y w = true → grow R C g (fun i => decide (i = z)) k w = true → L y ≤ z)
theorem grow_in {R C z y : Nat} {g : Nat → Bool} (gz : g z = true) {k : Nat} (h : grow R C g (fun i => decide (i = z)) k y = true) : g y = true :=
  grow_least (f := fun w => g w = true) gz (fun _ _ _ _ _ _ gb => gb) k y h
theorem HI.start {R C : Nat} {g : Nat → Bool} : HI R C g 0 0 (fun y => y) := by
  refine ⟨fun y hy gy => ⟨hy, gy, cc_self R C g y⟩, fun z y _ _ _ _ h => ?_, fun z y w _ _ _ _ _ _ h => by omega⟩
  simp only [grow, decide_eq_true_eq] at h
  show y ≤ z
  omega
theorem HI.round {R C k : Nat} {g : Nat → Bool} {L : Nat → Nat} (hl : R * C ≤ 16) (q : HI R C g k 256 L) : HI R C g (k + 1) 0 L := by
  obtain ⟨q1, q2, q3⟩ := q
  refine ⟨q1, fun z y hz hy gz gy h => ?_, fun z y w _ _ _ _ _ _ h => by omega⟩
  rw [grow_s, Bool.or_eq_true, Bool.and_eq_true, rch_iff] at h
  rcases h with h | ⟨⟨_, w, hw, h1, h2⟩, _⟩
  · exact q2 z y hz hy gz gy h
  · exact q3 z y w hz hy hw gz gy (grow_in gz h1) (by omega) (by rw [go_comm]; exact h2) h1
theorem HI.no {R C k c : Nat} {g : Nat → Bool} {L : Nat → Nat} (q : HI R C g k c L) (h : ¬ (c / 16 < R * C ∧ c % 16 < R * C ∧ g (c / 16) = true ∧ g (c % 16) = true ∧ go 0 C (c / 16) (c % 16) = true)) (hl : R * C ≤ 16) : HI R C g k (c + 1) L := by
  obtain ⟨q1, q2, q3⟩ := q
  refine ⟨q1, q2, fun z y w hz hy hw gz gy gw hc hg hgr => ?_⟩
  by_cases e : 16 * y + w = c
  · exfalso
    have e1 : c / 16 = y := by omega
    have e2 : c % 16 = w := by omega
    exact h ⟨by omega, by omega, by rw [e1]; exact gy, by rw [e2]; exact gw, by rw [e1, e2]; exact hg⟩
  · exact q3 z y w hz hy hw gz gy gw (by omega) hg hgr
theorem HI.yes {R C k c x y : Nat} {g : Nat → Bool} {L : Nat → Nat} (q : HI R C g k c L) (hl : R * C ≤ 16) (hc : c = 16 * x + y) (hx : x < R * C) (hy : y < R * C) (gx : g x = true) (gy : g y = true) (hg : go 0 C x y = true) : HI R C g k (c + 1) (setF L x (min (L y) (L x))) := by
  obtain ⟨q1, q2, q3⟩ := q
  have le : ∀ v, setF L x (min (L y) (L x)) v ≤ L v := fun v => by
    by_cases e : v = x
    · subst e; rw [setF_at]; omega
    · rw [setF_off e]; exact Nat.le_refl _
  refine ⟨fun v hv gv => ?_, fun z v hz hv gz gv h => Nat.le_trans (le v) (q2 z v hz hv gz gv h), fun z v w hz hv hw gz gv gw hcc hgo hgr => ?_⟩
  · by_cases e : v = x
    · subst e
      rw [setF_at]
      by_cases m : L y ≤ L v
      · rw [show min (L y) (L v) = L y by omega]
        obtain ⟨a1, a2, a3⟩ := q1 y hy gy
        exact ⟨a1, a2, cc_cl hl a1 a3 hv (by rw [go_comm]; exact hg) gv⟩
      · rw [show min (L y) (L v) = L v by omega]
        exact q1 v hv gv
    · rw [setF_off e]; exact q1 v hv gv
  · by_cases e : 16 * v + w = c
    · have e1 : v = x := by omega
      have e2 : w = y := by omega
      subst e1; subst e2
      rw [setF_at]
      have := q2 z w hz hw gz gw hgr
      omega
    · exact Nat.le_trans (le v) (q3 z v w hz hv hw gz gv gw (by omega) hgo hgr)
theorem HI.fin {R C y z : Nat} {g : Nat → Bool} {L : Nat → Nat} (q : HI R C g 16 0 L) (hz : z < R * C) (hy : y < R * C) (gz : g z = true) (gy : g y = true) (h : cc R C g z y = true) : L y ≤ z := q.2.1 z y hz hy gz gy h
def szB (g : Nat → Bool) (L : Nat → Nat) (x : Nat) : Nat → Bool := fun y => g y && decide (L y = x)
theorem sz_hd {R C x : Nat} {g : Nat → Bool} {L : Nat → Nat} (hl : R * C ≤ 16) (q : HI R C g 16 0 L) (hx : x < R * C) : cnB (szB g L x) (R * C) = hsN R C g x := by
  unfold hsN
  cases e : hdB R C g x
  · rw [if_neg (by decide)]
    have : ∀ y, 0 ≤ y → y < R * C → szB g L x y = false := by
      intro y _ hy
      rw [Bool.eq_false_iff]
      intro z
      unfold szB at z
      rw [Bool.and_eq_true, decide_eq_true_eq] at z
      obtain ⟨gy, rfl⟩ := z
      obtain ⟨a1, a2, a3⟩ := q.1 y hy gy
      have : hdB R C g (L y) = true := lfB_iff.mpr ⟨a2, fun w hw gw hcc => by
        have := q.fin (by omega) hy gw gy (cc_trans hl (by omega) hcc a3)
        omega⟩
      rw [this] at e; cases e
    rw [cnB_skip (a := 0) (Nat.zero_le _) this]
    rfl
  · rw [if_pos rfl]
    obtain ⟨gx, hz⟩ := lfB_iff.mp e
    have e2 : cnt (cc R C g x) = cnB (cc R C g x) (R * C) := sumN_ext hl (fun i z1 z2 => by rw [cc_sup hx i z1]; rfl)
    rw [e2]
    refine sumN_congr (fun y hy => ?_)
    congr 1
    rw [Bool.eq_iff_iff]
    unfold szB
    rw [Bool.and_eq_true, decide_eq_true_eq]
    constructor
    · rintro ⟨gy, rfl⟩
      exact (q.1 y hy gy).2.2
    · intro h
      have gy := cc_g gx h
      have le := q.fin hx hy gx gy h
      obtain ⟨a1, a2, a3⟩ := q.1 y hy gy
      refine ⟨gy, ?_⟩
      apply Classical.byContradiction
      intro ne
      exact hz (L y) (by omega) a2 (cc_trans hl a1 a3 (cc_symm hl hx gx h))
theorem hsN_pos {R C x : Nat} {g : Nat → Bool} (hl : R * C ≤ 16) (hx : x < R * C) : 0 < hsN R C g x ↔ hdB R C g x = true := by
  unfold hsN
  cases e : hdB R C g x
  · simp
  · rw [if_pos rfl]
    have : 0 < cnt (cc R C g x) := sumN_pos.mpr ⟨x, by omega, by rw [cc_self]; decide⟩
    exact ⟨fun _ => rfl, fun _ => this⟩

