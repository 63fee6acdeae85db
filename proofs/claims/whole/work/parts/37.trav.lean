abbrev rmX6_isBeside : Room := { frames := 2, cells := 0, slots := 0, locals := 43 }
theorem hy_X6_isBeside : yX6_isBeside.cls = RX6 ∧ yX6_isBeside.cls ≠ "java/lang/invoke/MethodHandle" ∧ yX6_isBeside.cls ≠ "java/lang/invoke/VarHandle" ∧ (parseMethodDescriptor yX6_isBeside.desc).map (fun d => d.parameters.length) = some 3 := by decide +kernel
theorem hz_X6_isBeside : yX6_isBeside.cls ≠ "java/lang/invoke/MethodHandle" ∧ yX6_isBeside.cls ≠ "java/lang/invoke/VarHandle" ∧ (parseMethodDescriptor yX6_isBeside.desc).map (fun d => d.parameters.length) = some 3 := by decide +kernel
abbrev rmX6_leastOn : Room := { frames := 3, cells := 0, slots := 0, locals := 65 }
theorem hy_X6_leastOn : yX6_leastOn.cls = RX6 ∧ yX6_leastOn.cls ≠ "java/lang/invoke/MethodHandle" ∧ yX6_leastOn.cls ≠ "java/lang/invoke/VarHandle" ∧ (parseMethodDescriptor yX6_leastOn.desc).map (fun d => d.parameters.length) = some 3 := by decide +kernel
theorem hz_X6_leastOn : yX6_leastOn.cls ≠ "java/lang/invoke/MethodHandle" ∧ yX6_leastOn.cls ≠ "java/lang/invoke/VarHandle" ∧ (parseMethodDescriptor yX6_leastOn.desc).map (fun d => d.parameters.length) = some 3 := by decide +kernel
abbrev rmX6_next : Room := { frames := 3, cells := 0, slots := 0, locals := 65 }
theorem hy_X6_next : yX6_next.cls = RX6 ∧ yX6_next.cls ≠ "java/lang/invoke/MethodHandle" ∧ yX6_next.cls ≠ "java/lang/invoke/VarHandle" ∧ (parseMethodDescriptor yX6_next.desc).map (fun d => d.parameters.length) = some 3 := by decide +kernel
theorem hz_X6_next : yX6_next.cls ≠ "java/lang/invoke/MethodHandle" ∧ yX6_next.cls ≠ "java/lang/invoke/VarHandle" ∧ (parseMethodDescriptor yX6_next.desc).map (fun d => d.parameters.length) = some 3 := by decide +kernel
abbrev rmX6_through : Room := { frames := 2, cells := 0, slots := 0, locals := 41 }
theorem hy_X6_through : yX6_through.cls = RX6 ∧ yX6_through.cls ≠ "java/lang/invoke/MethodHandle" ∧ yX6_through.cls ≠ "java/lang/invoke/VarHandle" ∧ (parseMethodDescriptor yX6_through.desc).map (fun d => d.parameters.length) = some 3 := by decide +kernel
theorem hz_X6_through : yX6_through.cls ≠ "java/lang/invoke/MethodHandle" ∧ yX6_through.cls ≠ "java/lang/invoke/VarHandle" ∧ (parseMethodDescriptor yX6_through.desc).map (fun d => d.parameters.length) = some 3 := by decide +kernel
theorem me_X6_through_0 : Cond.fieldLink RX6 9 "DrawnByLost$Traveller" "left" "[I" ∈ wsX6_through := by decide +kernel
theorem me_X6_leastOn_0 : Cond.methodLink RX6 39 Lib.Math.min.name ∈ wsX6_leastOn := by decide +kernel
theorem me_X6_leastOn_1 : Cond.static Lib.Math.min.name ∈ wsX6_leastOn := by decide +kernel
theorem me_X6_leastOn_2 : Cond.initialized "java/lang/Math" ∈ wsX6_leastOn := by decide +kernel
theorem me_X6_leastOn_3 : Cond.code Lib.Math.min.name Lib.Math.min.code 2 (some .int) ∈ wsX6_leastOn := by decide +kernel
theorem me_X6_leastOn_4 : Cond.constant RX6 21 (1000000) ∈ wsX6_leastOn := by decide +kernel
theorem me_X6_next_0 : Cond.fieldLink RX6 9 "DrawnByLost$Traveller" "left" "[I" ∈ wsX6_next := by decide +kernel
theorem ic_X6_through_6 : ∀ w ∈ wsX60, w ∈ wsX6_through := by decide +kernel
theorem ic_X6_next_6 : ∀ w ∈ wsX60, w ∈ wsX6_next := by decide +kernel
-- Traveller: neighbours, what a step asks, the least of the steps, the next place
section VT1
variable {l : Launch} {D : va_G} {cy : CY} {B n : Nat} {h : Hp} {lg : Lg} {π : Nat → Nat}
def nbr (R C x y : Nat) : Bool := decide (y < R * C) && go 0 C x y
theorem nbr_iff {R C x y : Nat} : nbr R C x y = true ↔ y < R * C ∧ go 0 C x y = true := by simp [nbr]
theorem rch_one {R C x : Nat} (hx : x < R * C) (y : Nat) : rch 0 R C (fun i => decide (i = x)) y = nbr R C x y := by
  rw [Bool.eq_iff_iff, rch_iff, nbr_iff]
  constructor
  · rintro ⟨h1, z, _, h3, h4⟩
    rw [decide_eq_true_eq] at h3
    subst h3
    exact ⟨h1, h4⟩
  · rintro ⟨h1, h2⟩
    exact ⟨h1, x, hx, by simp, h2⟩
theorem sup_one {P x : Nat} (hx : x < P) : Sup P (fun i => decide (i = x)) := fun i hi => by
  have : i ≠ x := by omega
  simp [this]
theorem nI_min {a b : Nat} (ha : a ≤ 2000000000) (hb : b ≤ 2000000000) : (if nI b < nI a then nI b else nI a) = nI (min b a) := by
  by_cases q : b < a
  · rw [if_pos (nI_lt q (by omega)), show min b a = b by omega]
  · rw [if_neg (nI_nlt (by omega) (by omega)), show min b a = a by omega]
theorem c_X6_isBeside {R C x y : Nat} (hn : 89 ≤ n) (q : ShL h 11 R C) (hx : x < R * C) (hy : y < 16) : Ctr l D cy B yX6_isBeside wsX6_isBeside rmX6_isBeside 0 0 n (rf0 π) h lg [.ref (B + 11), .int (nI x), .int (nI y)] (uI (b2i (nbr R C x y)) (rf0 π) h lg) := by
  have hl := q.1.le
  refine Ctr.of (cc := cX6_isBeside) (nL := 3) (own := RX6) (rt := (some .boolean)) (ls := [some (.ref (B + 11)), some (.int (nI x)), some (.int (nI y))]) (by decide) rfl rfl (Nat.le_of_ble_eq_true rfl) rfl ?_
  refine wp_aload_n_0 (pc' := 1) dX6_isBeside_0 rfl ?_
  refine wp_iconst (pc' := 2) (1) dX6_isBeside_1 rfl (by decide) ?_
  refine wp_iload_n_1 (pc' := 3) dX6_isBeside_2 rfl ?_
  refine wp_ishl (pc' := 4) dX6_isBeside_3 rfl ?_
  rw [S_one (by omega)]
  refine wp_callVu (pc' := 7) (c_X1_beside hn la11 q (sup_one hx)) gX6_isBeside_X1_beside rfl rfl hy_X1_beside ⟨Nat.le_of_ble_eq_true rfl, Nat.le_of_ble_eq_true rfl⟩ ⟨rfl, rfl⟩ (Nat.le_of_ble_eq_true rfl) ⟨Nat.le_of_ble_eq_true rfl, Nat.le_of_ble_eq_true rfl⟩ (by omega) (ce1 rfl) rfl rfl dX6_isBeside_4 rfl ?_
  refine wp_iload_n_2 (pc' := 8) dX6_isBeside_7 rfl ?_
  refine wp_ishr (pc' := 9) dX6_isBeside_8 rfl ?_
  refine wp_iconst (pc' := 10) (1) dX6_isBeside_9 rfl (by decide) ?_
  refine wp_iand (pc' := 11) dX6_isBeside_10 rfl ?_
  rw [S_test _ hy, rch_one hx]
  refine wp_iconst (pc' := 12) (1) dX6_isBeside_11 rfl (by decide) ?_
  refine wp_icmp_ne (pc' := 15) (tgt := 19) dX6_isBeside_12 rfl rfl (fun c12 => ?_) (fun c12 => ?_)
  · skip -- 12 taken
    refine wp_iconst (pc' := 20) (0) dX6_isBeside_19 rfl (by decide) ?_
    refine wp_zreturn (by decide) dX6_isBeside_20 rfl rfl (Nat.le_refl _) (Nat.le_refl _) ?_
    exact uI_of (by
        cases e : nbr R C x y
        · first | rfl | exact absurd (by rw [e]; rfl) c12 | (rw [e] at c12; exact absurd c12 (by decide))
        · first | rfl | exact absurd (by rw [e]; rfl) c12 | (rw [e] at c12; exact absurd c12 (by decide)))
  · skip -- 12 not taken
    refine wp_iconst (pc' := 16) (1) dX6_isBeside_15 rfl (by decide) ?_
    refine wp_goto (tgt := 20) dX6_isBeside_16 rfl ?_
    refine wp_zreturn (by decide) dX6_isBeside_20 rfl rfl (Nat.le_refl _) (Nat.le_refl _) ?_
    exact uI_of (by
        cases e : nbr R C x y
        · first | rfl | exact absurd (by rw [e]; rfl) c12 | (rw [e] at c12; exact absurd c12 (by decide))
        · first | rfl | exact absurd (by rw [e]; rfl) c12 | (rw [e] at c12; exact absurd c12 (by decide)))
def MK (h : Hp) (k : Nat) (mk : Nat → Nat) : Prop := ∀ i, i < 16 → h (k + 1) i = nI (mk i) ∧ mk i ≤ 5
def HU (h : Hp) (hu : Nat → Nat) : Prop := ∀ m, m < 6 → h 12 m = nI (hu m) ∧ 1 ≤ hu m ∧ hu m ≤ 9
def LF (h : Hp) (L : Nat → Nat) : Prop := ∀ i, i < 16 → h 83 i = nI (L i) ∧ L i ≤ 1000000
theorem c_X6_through {y : Nat} {mk hu L : Nat → Nat} (hn : 89 ≤ n) (m : MK h 18 mk) (u : HU h hu) (lf : LF h L) (hy : y < 16) : Ctr l D cy B yX6_through wsX6_through rmX6_through 0 0 n (rf0 π) h lg [.ref (B + 82), .ref (B + 11), .ref (B + 19), .int (nI y)] (uI (nI (hu (mk y) + L y)) (rf0 π) h lg) := by
  obtain ⟨m1, m2⟩ := m y hy
  obtain ⟨u1, u2, u3⟩ := u (mk y) (by omega)
  obtain ⟨l1, l2⟩ := lf y hy
  refine Ctr.of (cc := cX6_through) (nL := 4) (own := RX6) (rt := (some .int)) (ls := [some (.ref (B + 82)), some (.ref (B + 11)), some (.ref (B + 19)), some (.int (nI y))]) (by decide) rfl rfl (Nat.le_of_ble_eq_true rfl) rfl ?_
  refine wp_iload_n_3 (pc' := 1) dX6_through_0 rfl ?_
  refine wp_if_lt (pc' := 4) (tgt := 33) dX6_through_1 rfl rfl (fun c1 => by exfalso; exact absurd c1 (nI_pos (by omega))) (fun c1 => ?_)
  refine wp_iload_n_3 (pc' := 5) dX6_through_4 rfl ?_
  refine wp_aload_n_2 (pc' := 6) dX6_through_5 rfl ?_
  refine wp_aleni (pc' := 7) (N := 16) (v := 16) (by omega) rfl rfl (by decide) dX6_through_6 rfl ?_
  refine wp_icmp_ge (pc' := 10) (tgt := 33) dX6_through_7 rfl rfl (fun c7 => by exfalso; (simp (disch := omega) only [Int32.lt_iff_toInt_lt, Int32.le_iff_toInt_le, ← Int32.toInt_inj, nI_toInt, il_0, il_1, il_2, il_3, il_4, il_5, il_6, il_8, il_9, il_10, il_16, il_26, il_32, il_40, il_n4, il_n1, il_n2, il_11, il_48, il_57, il_59, il_44, il_126, il_200, il_9999, il_66666, il_10000, il_1000000, il_15, il_12, il_256, il_4096, il_53, il_52] at c7; omega)) (fun c7 => ?_)
  refine wp_iload_n_3 (pc' := 11) dX6_through_10 rfl ?_
  refine wp_bipush (pc' := 13) (16) dX6_through_11 rfl (by decide) ?_
  refine wp_icmp_ge (pc' := 16) (tgt := 33) dX6_through_13 rfl rfl (fun c13 => by exfalso; (simp (disch := omega) only [Int32.lt_iff_toInt_lt, Int32.le_iff_toInt_le, ← Int32.toInt_inj, nI_toInt, il_0, il_1, il_2, il_3, il_4, il_5, il_6, il_8, il_9, il_10, il_16, il_26, il_32, il_40, il_n4, il_n1, il_n2, il_11, il_48, il_57, il_59, il_44, il_126, il_200, il_9999, il_66666, il_10000, il_1000000, il_15, il_12, il_256, il_4096, il_53, il_52] at c13; omega)) (fun c13 => ?_)
  refine wp_aload_n_1 (pc' := 17) dX6_through_16 rfl ?_
  refine wp_aload_n_2 (pc' := 18) dX6_through_17 rfl ?_
  refine wp_iload_n_3 (pc' := 19) dX6_through_18 rfl ?_
  refine wp_iald (pc' := 20) (N := 16) (by omega) rfl rfl (by first | exact vp_in_nI (by omega) (by omega) | assumption | (unfold vp_in; decide)) dX6_through_19 rfl ?_
  rw [nI_clamp (by omega), m1]
  refine wp_callVu (pc' := 23) (c_X1_hungerOf hn la11 (by omega)) gX6_through_X1_hungerOf rfl rfl hy_X1_hungerOf ⟨Nat.le_of_ble_eq_true rfl, Nat.le_of_ble_eq_true rfl⟩ ⟨rfl, rfl⟩ (Nat.le_of_ble_eq_true rfl) ⟨Nat.le_of_ble_eq_true rfl, Nat.le_of_ble_eq_true rfl⟩ (by omega) (ce1 rfl) rfl rfl dX6_through_20 rfl ?_
  refine wp_aload_n_0 (pc' := 24) dX6_through_23 rfl ?_
  refine wp_get_6_0 (pc' := 27) (by omega) rfl rfl me_X6_through_0 ic_X6_through_6 dX6_through_24 rfl ?_
  refine wp_iload_n_3 (pc' := 28) dX6_through_27 rfl ?_
  refine wp_iald (pc' := 29) (N := 16) (by omega) rfl rfl (by first | exact vp_in_nI (by omega) (by omega) | assumption | (unfold vp_in; decide)) dX6_through_28 rfl ?_
  rw [nI_clamp (by omega), l1]
  refine wp_iadd (pc' := 30) dX6_through_29 rfl ?_
  rw [show h (11 + 1) (mk y) = nI (hu (mk y)) from u1, nI_add]
  refine wp_goto (tgt := 35) dX6_through_30 rfl ?_
  refine wp_ireturn dX6_through_35 rfl rfl (Nat.le_refl _) (Nat.le_refl _) ?_
  exact uI_of rfl
def lv (R C : Nat) (hm L : Nat → Nat) (x : Nat) : Nat → Nat
  | 0 => 1000000
  | p + 1 => if nbr R C x p = true then min (hm p + L p) (lv R C hm L x p) else lv R C hm L x p
theorem lv_le (R C : Nat) (hm L : Nat → Nat) (x : Nat) : ∀ p, lv R C hm L x p ≤ 1000000 := by
  intro p
  induction p with
  | zero => exact Nat.le_refl _
  | succ p ih => simp only [lv]; split <;> omega
theorem lv_nb {R C : Nat} {hm L : Nat → Nat} {x : Nat} : ∀ p y, y < p → nbr R C x y = true → lv R C hm L x p ≤ hm y + L y := by
  intro p
  induction p with
  | zero => intro y h; omega
  | succ p ih =>
    intro y hy hn
    simp only [lv]
    by_cases e : y = p
    · subst e; rw [if_pos hn]; omega
    · have := ih y (by omega) hn
      split <;> omega
theorem lv_ex {R C : Nat} {hm L : Nat → Nat} {x : Nat} : ∀ p, lv R C hm L x p = 1000000 ∨ ∃ y, y < p ∧ nbr R C x y = true ∧ lv R C hm L x p = hm y + L y := by
  intro p
  induction p with
  | zero => exact Or.inl rfl
  | succ p ih =>
    simp only [lv]
    split
    · next hnb =>
      by_cases q : hm p + L p ≤ lv R C hm L x p
      · exact Or.inr ⟨p, by omega, hnb, by omega⟩
      · rw [show min (hm p + L p) (lv R C hm L x p) = lv R C hm L x p by omega]
        rcases ih with e | ⟨y, h1, h2, h3⟩
        · exact Or.inl e
        · exact Or.inr ⟨y, by omega, h2, h3⟩
    · rcases ih with e | ⟨y, h1, h2, h3⟩
      · exact Or.inl e
      · exact Or.inr ⟨y, by omega, h2, h3⟩
theorem lp_X6_leastOn {R C x : Nat} {mk hu L : Nat → Nat} {post : PO} (hn : 89 ≤ n) (q : ShL h 11 R C) (m : MK h 18 mk) (u : HU h hu) (lf : LF h L) (hx : x < R * C)
    (K : post (some (.int (nI (lv R C (fun y => hu (mk y)) L x 16)))) (rf0 π) h lg) :
    ∀ d p : Nat, p + d = 16 → WP l D cy B cX6_leastOn 6 RX6 wsX6_leastOn rmX6_leastOn (some .int) (QE0 D cy B n 0 0 (post)) EX0 n (rf0 π) h lg 0 0 7 [some (.ref (B + 82)), some (.ref (B + 11)), some (.ref (B + 19)), some (.int (nI x)), some (.int (nI (lv R C (fun y => hu (mk y)) L x p))), some (.int (nI p))] [] := by
  intro d
  induction d with
  | zero =>
    intro p hp
    have : p = 16 := by omega
    subst this
    refine wp_iload_5 (pc' := 9) dX6_leastOn_7 rfl ?_
    refine wp_bipush (pc' := 11) (16) dX6_leastOn_9 rfl (by decide) ?_
    refine wp_icmp_ge (pc' := 14) (tgt := 45) dX6_leastOn_11 rfl rfl (fun c11 => ?_) (fun c11 => by exfalso; exact c11 (by decide))
    refine wp_iload_4 (pc' := 47) dX6_leastOn_45 rfl ?_
    refine wp_ireturn dX6_leastOn_47 rfl rfl (Nat.le_refl _) (Nat.le_refl _) ?_
    exact K
  | succ d ih =>
    intro p hp
    obtain ⟨m1, m2⟩ := m p (by omega)
    obtain ⟨u1, u2, u3⟩ := u (mk p) (by omega)
    obtain ⟨l1, l2⟩ := lf p (by omega)
    have l3 := lv_le R C (fun y => hu (mk y)) L x p
    refine wp_iload_5 (pc' := 9) dX6_leastOn_7 rfl ?_
    refine wp_bipush (pc' := 11) (16) dX6_leastOn_9 rfl (by decide) ?_
    refine wp_icmp_ge (pc' := 14) (tgt := 45) dX6_leastOn_11 rfl rfl (fun c11 => by exfalso; (simp (disch := omega) only [Int32.lt_iff_toInt_lt, Int32.le_iff_toInt_le, ← Int32.toInt_inj, nI_toInt, il_0, il_1, il_2, il_3, il_4, il_5, il_6, il_8, il_9, il_10, il_16, il_26, il_32, il_40, il_n4, il_n1, il_n2, il_11, il_48, il_57, il_59, il_44, il_126, il_200, il_9999, il_66666, il_10000, il_1000000, il_15, il_12, il_256, il_4096, il_53, il_52] at c11; omega)) (fun c11 => ?_)
    refine wp_aload_n_1 (pc' := 15) dX6_leastOn_14 rfl ?_
    refine wp_iload_n_3 (pc' := 16) dX6_leastOn_15 rfl ?_
    refine wp_iload_5 (pc' := 18) dX6_leastOn_16 rfl ?_
    refine wp_callSu (pc' := 21) (c_X6_isBeside hn q hx (by omega)) gX6_leastOn_X6_isBeside rfl rfl hz_X6_isBeside ⟨Nat.le_of_ble_eq_true rfl, Nat.le_of_ble_eq_true rfl⟩ ⟨rfl, rfl⟩ (Nat.le_of_ble_eq_true rfl) ⟨Nat.le_of_ble_eq_true rfl, Nat.le_of_ble_eq_true rfl⟩ rfl dX6_leastOn_18 rfl ?_
    refine wp_if_eq (pc' := 24) (tgt := 39) dX6_leastOn_21 rfl rfl (fun c21 => ?_) (fun c21 => ?_)
    · skip -- 21 taken
      refine wp_iinc_5 (pc' := 42) (v := nI (p + 1)) dX6_leastOn_39 (by first | rfl | exact nI_1 _) (by decide) rfl rfl ?_
      refine wp_goto (tgt := 7) dX6_leastOn_42 rfl ?_
      have e : lv R C (fun y => hu (mk y)) L x (p + 1) = lv R C (fun y => hu (mk y)) L x p := if_neg (fun z => by rw [z] at c21; exact absurd c21 (by decide))
      rw [← e]; exact ih (p + 1) (by omega)
    · skip -- 21 not taken
      refine wp_iload_4 (pc' := 26) dX6_leastOn_24 rfl ?_
      refine wp_aload_n_0 (pc' := 27) dX6_leastOn_26 rfl ?_
      refine wp_aload_n_1 (pc' := 28) dX6_leastOn_27 rfl ?_
      refine wp_aload_n_2 (pc' := 29) dX6_leastOn_28 rfl ?_
      refine wp_iload_5 (pc' := 31) dX6_leastOn_29 rfl ?_
      refine wp_callVu (pc' := 34) (c_X6_through hn m u lf (by omega)) gX6_leastOn_X6_through rfl rfl hy_X6_through ⟨Nat.le_of_ble_eq_true rfl, Nat.le_of_ble_eq_true rfl⟩ ⟨rfl, rfl⟩ (Nat.le_of_ble_eq_true rfl) ⟨Nat.le_of_ble_eq_true rfl, Nat.le_of_ble_eq_true rfl⟩ (by omega) (ce6 rfl) rfl rfl dX6_leastOn_31 rfl ?_
      refine wp_mmin (pc' := 37) me_X6_leastOn_0 me_X6_leastOn_1 me_X6_leastOn_2 me_X6_leastOn_3 (Nat.le_of_ble_eq_true rfl) (Nat.le_of_ble_eq_true rfl) ⟨Nat.le_of_ble_eq_true rfl, Nat.le_of_ble_eq_true rfl⟩ dX6_leastOn_34 rfl ?_
      rw [nI_min (by omega) (by omega)]
      refine wp_istore_4 (pc' := 39) dX6_leastOn_37 (by decide) rfl rfl ?_
      refine wp_iinc_5 (pc' := 42) (v := nI (p + 1)) dX6_leastOn_39 (by first | rfl | exact nI_1 _) (by decide) rfl rfl ?_
      refine wp_goto (tgt := 7) dX6_leastOn_42 rfl ?_
      have e : lv R C (fun y => hu (mk y)) L x (p + 1) = min (hu (mk p) + L p) (lv R C (fun y => hu (mk y)) L x p) := if_pos (b2i_ne0.mp c21)
      rw [← e]; exact ih (p + 1) (by omega)
theorem c_X6_leastOn {R C x : Nat} {mk hu L : Nat → Nat} (hn : 89 ≤ n) (q : ShL h 11 R C) (m : MK h 18 mk) (u : HU h hu) (lf : LF h L) (hx : x < R * C) : Ctr l D cy B yX6_leastOn wsX6_leastOn rmX6_leastOn 0 0 n (rf0 π) h lg [.ref (B + 82), .ref (B + 11), .ref (B + 19), .int (nI x)] (uI (nI (lv R C (fun y => hu (mk y)) L x 16)) (rf0 π) h lg) := by
  refine Ctr.of (cc := cX6_leastOn) (nL := 6) (own := RX6) (rt := (some .int)) (ls := [some (.ref (B + 82)), some (.ref (B + 11)), some (.ref (B + 19)), some (.int (nI x)), none, none]) (by decide) rfl rfl (Nat.le_of_ble_eq_true rfl) rfl ?_
  refine wp_ldc (pc' := 2) (v := (1000000)) me_X6_leastOn_4 dX6_leastOn_0 rfl ?_
  refine wp_istore_4 (pc' := 4) dX6_leastOn_2 (by decide) rfl rfl ?_
  refine wp_iconst (pc' := 5) (0) dX6_leastOn_4 rfl (by decide) ?_
  refine wp_istore_5 (pc' := 7) dX6_leastOn_5 (by decide) rfl rfl ?_
  exact lp_X6_leastOn hn q m u lf hx (uI_of rfl) 16 0 (by omega)
def nxF (f : Nat → Bool) (df : Nat) : Nat → Nat → Nat
  | 0, _ => df
  | d + 1, y => if f y = true then y else nxF f df d (y + 1)
def nxP (R C : Nat) (hm L : Nat → Nat) (x y : Nat) : Bool := nbr R C x y && decide (hm y + L y = L x)
theorem lp_X6_next {R C x : Nat} {mk hu L : Nat → Nat} {post : PO} (hn : 89 ≤ n) (q : ShL h 11 R C) (m : MK h 18 mk) (u : HU h hu) (lf : LF h L) (hx : x < R * C) :
    ∀ d p : Nat, p + d = 16 → ∀ (K : post (some (.int (nI (nxF (nxP R C (fun y => hu (mk y)) L x) x d p)))) (rf0 π) h lg), WP l D cy B cX6_next 5 RX6 wsX6_next rmX6_next (some .int) (QE0 D cy B n 0 0 (post)) EX0 n (rf0 π) h lg 0 0 24 [some (.ref (B + 82)), some (.ref (B + 11)), some (.ref (B + 19)), some (.int (nI x)), some (.int (nI p))] [] := by
  have hl := q.1.le
  obtain ⟨x1, x2⟩ := lf x (by omega)
  intro d
  induction d with
  | zero =>
    intro p hp K
    have : p = 16 := by omega
    subst this
    refine wp_iload_4 (pc' := 26) dX6_next_24 rfl ?_
    refine wp_bipush (pc' := 28) (16) dX6_next_26 rfl (by decide) ?_
    refine wp_icmp_ge (pc' := 31) (tgt := 67) dX6_next_28 rfl rfl (fun c28 => ?_) (fun c28 => by exfalso; exact c28 (by decide))
    refine wp_iload_n_3 (pc' := 68) dX6_next_67 rfl ?_
    refine wp_ireturn dX6_next_68 rfl rfl (Nat.le_refl _) (Nat.le_refl _) ?_
    exact K
  | succ d ih =>
    intro p hp K
    obtain ⟨m1, m2⟩ := m p (by omega)
    obtain ⟨u1, u2, u3⟩ := u (mk p) (by omega)
    obtain ⟨l1, l2⟩ := lf p (by omega)
    refine wp_iload_4 (pc' := 26) dX6_next_24 rfl ?_
    refine wp_bipush (pc' := 28) (16) dX6_next_26 rfl (by decide) ?_
    refine wp_icmp_ge (pc' := 31) (tgt := 67) dX6_next_28 rfl rfl (fun c28 => by exfalso; (simp (disch := omega) only [Int32.lt_iff_toInt_lt, Int32.le_iff_toInt_le, ← Int32.toInt_inj, nI_toInt, il_0, il_1, il_2, il_3, il_4, il_5, il_6, il_8, il_9, il_10, il_16, il_26, il_32, il_40, il_n4, il_n1, il_n2, il_11, il_48, il_57, il_59, il_44, il_126, il_200, il_9999, il_66666, il_10000, il_1000000, il_15, il_12, il_256, il_4096, il_53, il_52] at c28; omega)) (fun c28 => ?_)
    refine wp_aload_n_1 (pc' := 32) dX6_next_31 rfl ?_
    refine wp_iload_n_3 (pc' := 33) dX6_next_32 rfl ?_
    refine wp_iload_4 (pc' := 35) dX6_next_33 rfl ?_
    refine wp_callSu (pc' := 38) (c_X6_isBeside hn q hx (by omega)) gX6_next_X6_isBeside rfl rfl hz_X6_isBeside ⟨Nat.le_of_ble_eq_true rfl, Nat.le_of_ble_eq_true rfl⟩ ⟨rfl, rfl⟩ (Nat.le_of_ble_eq_true rfl) ⟨Nat.le_of_ble_eq_true rfl, Nat.le_of_ble_eq_true rfl⟩ rfl dX6_next_35 rfl ?_
    refine wp_if_eq (pc' := 41) (tgt := 61) dX6_next_38 rfl rfl (fun c38 => ?_) (fun c38 => ?_)
    · skip -- 38 taken
      refine wp_iinc_4 (pc' := 64) (v := nI (p + 1)) dX6_next_61 (by first | rfl | exact nI_1 _) (by decide) rfl rfl ?_
      refine wp_goto (tgt := 24) dX6_next_64 rfl ?_
      have e : nxP R C (fun y => hu (mk y)) L x p = false := by
        have a := b2i_eq0.mp c38
        simp [nxP, a]
      refine ih (p + 1) (by omega) ?_
      simp only [nxF, e] at K
      exact K
    · skip -- 38 not taken
      refine wp_aload_n_0 (pc' := 42) dX6_next_41 rfl ?_
      refine wp_aload_n_1 (pc' := 43) dX6_next_42 rfl ?_
      refine wp_aload_n_2 (pc' := 44) dX6_next_43 rfl ?_
      refine wp_iload_4 (pc' := 46) dX6_next_44 rfl ?_
      refine wp_callVu (pc' := 49) (c_X6_through hn m u lf (by omega)) gX6_next_X6_through rfl rfl hy_X6_through ⟨Nat.le_of_ble_eq_true rfl, Nat.le_of_ble_eq_true rfl⟩ ⟨rfl, rfl⟩ (Nat.le_of_ble_eq_true rfl) ⟨Nat.le_of_ble_eq_true rfl, Nat.le_of_ble_eq_true rfl⟩ (by omega) (ce6 rfl) rfl rfl dX6_next_46 rfl ?_
      refine wp_aload_n_0 (pc' := 50) dX6_next_49 rfl ?_
      refine wp_get_6_0 (pc' := 53) (by omega) rfl rfl me_X6_next_0 ic_X6_next_6 dX6_next_50 rfl ?_
      refine wp_iload_n_3 (pc' := 54) dX6_next_53 rfl ?_
      refine wp_iald (pc' := 55) (N := 16) (by omega) rfl rfl (by first | exact vp_in_nI (by omega) (by omega) | assumption | (unfold vp_in; decide)) dX6_next_54 rfl ?_
      rw [nI_clamp (by omega), x1]
      refine wp_icmp_ne (pc' := 58) (tgt := 61) dX6_next_55 rfl rfl (fun c55 => ?_) (fun c55 => ?_)
      · skip -- 55 taken
        refine wp_iinc_4 (pc' := 64) (v := nI (p + 1)) dX6_next_61 (by first | rfl | exact nI_1 _) (by decide) rfl rfl ?_
        refine wp_goto (tgt := 24) dX6_next_64 rfl ?_
        have e : nxP R C (fun y => hu (mk y)) L x p = false := by
          have b : ¬ hu (mk p) + L p = L x := fun z => c55 (by rw [z])
          simp [nxP, b]
        refine ih (p + 1) (by omega) ?_
        simp only [nxF, e] at K
        exact K
      · skip -- 55 not taken
        refine wp_iload_4 (pc' := 60) dX6_next_58 rfl ?_
        refine wp_ireturn dX6_next_60 rfl rfl (Nat.le_refl _) (Nat.le_refl _) ?_
        have e : nxP R C (fun y => hu (mk y)) L x p = true := by
          have a := b2i_ne0.mp c38
          have b := (nI_eq (by omega) (by omega)).mp c55
          simp [nxP, a, b]
        simp only [nxF, e, if_true] at K
        exact K
theorem c_X6_next {R C x : Nat} {mk hu L : Nat → Nat} (hn : 89 ≤ n) (q : ShL h 11 R C) (m : MK h 18 mk) (u : HU h hu) (lf : LF h L) (hx : x < R * C) : Ctr l D cy B yX6_next wsX6_next rmX6_next 0 0 n (rf0 π) h lg [.ref (B + 82), .ref (B + 11), .ref (B + 19), .int (nI x)] (uI (nI (if L x = 0 then x else nxF (nxP R C (fun y => hu (mk y)) L x) x 16 0)) (rf0 π) h lg) := by
  have hl := q.1.le
  obtain ⟨x1, x2⟩ := lf x (by omega)
  refine Ctr.of (cc := cX6_next) (nL := 5) (own := RX6) (rt := (some .int)) (ls := [some (.ref (B + 82)), some (.ref (B + 11)), some (.ref (B + 19)), some (.int (nI x)), none]) (by decide) rfl rfl (Nat.le_of_ble_eq_true rfl) rfl ?_
  by_cases z : L x = 0
  · skip
    refine wp_iload_n_3 (pc' := 1) dX6_next_0 rfl ?_
    refine wp_if_lt (pc' := 4) (tgt := 19) dX6_next_1 rfl rfl (fun c1 => by exfalso; exact absurd c1 (nI_pos (by omega))) (fun c1 => ?_)
    refine wp_iload_n_3 (pc' := 5) dX6_next_4 rfl ?_
    refine wp_bipush (pc' := 7) (16) dX6_next_5 rfl (by decide) ?_
    refine wp_icmp_ge (pc' := 10) (tgt := 19) dX6_next_7 rfl rfl (fun c7 => by exfalso; (simp (disch := omega) only [Int32.lt_iff_toInt_lt, Int32.le_iff_toInt_le, ← Int32.toInt_inj, nI_toInt, il_0, il_1, il_2, il_3, il_4, il_5, il_6, il_8, il_9, il_10, il_16, il_26, il_32, il_40, il_n4, il_n1, il_n2, il_11, il_48, il_57, il_59, il_44, il_126, il_200, il_9999, il_66666, il_10000, il_1000000, il_15, il_12, il_256, il_4096, il_53, il_52] at c7; omega)) (fun c7 => ?_)
    refine wp_aload_n_0 (pc' := 11) dX6_next_10 rfl ?_
    refine wp_get_6_0 (pc' := 14) (by omega) rfl rfl me_X6_next_0 ic_X6_next_6 dX6_next_11 rfl ?_
    refine wp_iload_n_3 (pc' := 15) dX6_next_14 rfl ?_
    refine wp_iald (pc' := 16) (N := 16) (by omega) rfl rfl (by first | exact vp_in_nI (by omega) (by omega) | assumption | (unfold vp_in; decide)) dX6_next_15 rfl ?_
    rw [nI_clamp (by omega), x1]
    refine wp_if_ne (pc' := 19) (tgt := 21) dX6_next_16 rfl rfl (fun c16 => by exfalso; rw [z] at c16; exact c16 rfl) (fun c16 => ?_)
    refine wp_iload_n_3 (pc' := 20) dX6_next_19 rfl ?_
    refine wp_ireturn dX6_next_20 rfl rfl (Nat.le_refl _) (Nat.le_refl _) ?_
    exact uI_of (by rw [if_pos z])
  · skip
    refine wp_iload_n_3 (pc' := 1) dX6_next_0 rfl ?_
    refine wp_if_lt (pc' := 4) (tgt := 19) dX6_next_1 rfl rfl (fun c1 => by exfalso; exact absurd c1 (nI_pos (by omega))) (fun c1 => ?_)
    refine wp_iload_n_3 (pc' := 5) dX6_next_4 rfl ?_
    refine wp_bipush (pc' := 7) (16) dX6_next_5 rfl (by decide) ?_
    refine wp_icmp_ge (pc' := 10) (tgt := 19) dX6_next_7 rfl rfl (fun c7 => by exfalso; (simp (disch := omega) only [Int32.lt_iff_toInt_lt, Int32.le_iff_toInt_le, ← Int32.toInt_inj, nI_toInt, il_0, il_1, il_2, il_3, il_4, il_5, il_6, il_8, il_9, il_10, il_16, il_26, il_32, il_40, il_n4, il_n1, il_n2, il_11, il_48, il_57, il_59, il_44, il_126, il_200, il_9999, il_66666, il_10000, il_1000000, il_15, il_12, il_256, il_4096, il_53, il_52] at c7; omega)) (fun c7 => ?_)
    refine wp_aload_n_0 (pc' := 11) dX6_next_10 rfl ?_
    refine wp_get_6_0 (pc' := 14) (by omega) rfl rfl me_X6_next_0 ic_X6_next_6 dX6_next_11 rfl ?_
    refine wp_iload_n_3 (pc' := 15) dX6_next_14 rfl ?_
    refine wp_iald (pc' := 16) (N := 16) (by omega) rfl rfl (by first | exact vp_in_nI (by omega) (by omega) | assumption | (unfold vp_in; decide)) dX6_next_15 rfl ?_
    rw [nI_clamp (by omega), x1]
    refine wp_if_ne (pc' := 19) (tgt := 21) dX6_next_16 rfl rfl (fun c16 => ?_) (fun c16 => by exfalso; (simp (disch := omega) only [Int32.lt_iff_toInt_lt, Int32.le_iff_toInt_le, ← Int32.toInt_inj, nI_toInt, il_0, il_1, il_2, il_3, il_4, il_5, il_6, il_8, il_9, il_10, il_16, il_26, il_32, il_40, il_n4, il_n1, il_n2, il_11, il_48, il_57, il_59, il_44, il_126, il_200, il_9999, il_66666, il_10000, il_1000000, il_15, il_12, il_256, il_4096, il_53, il_52] at c16; omega))
    refine wp_iconst (pc' := 22) (0) dX6_next_21 rfl (by decide) ?_
    refine wp_istore_4 (pc' := 24) dX6_next_22 (by decide) rfl rfl ?_
    exact lp_X6_next hn q m u lf hx 16 0 (by omega) (uI_of (by rw [if_neg z]))
end VT1

