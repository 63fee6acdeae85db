abbrev rmX8_addWalk : Room := { frames := 0, cells := 0, slots := 0, locals := 0 }
theorem hy_X8_addWalk : yX8_addWalk.cls = RX8 ∧ yX8_addWalk.cls ≠ "java/lang/invoke/MethodHandle" ∧ yX8_addWalk.cls ≠ "java/lang/invoke/VarHandle" ∧ (parseMethodDescriptor yX8_addWalk.desc).map (fun d => d.parameters.length) = some 3 := by decide +kernel
theorem hz_X8_addWalk : yX8_addWalk.cls ≠ "java/lang/invoke/MethodHandle" ∧ yX8_addWalk.cls ≠ "java/lang/invoke/VarHandle" ∧ (parseMethodDescriptor yX8_addWalk.desc).map (fun d => d.parameters.length) = some 3 := by decide +kernel
abbrev rmX8_letterAt : Room := { frames := 0, cells := 0, slots := 0, locals := 0 }
theorem hy_X8_letterAt : yX8_letterAt.cls = RX8 ∧ yX8_letterAt.cls ≠ "java/lang/invoke/MethodHandle" ∧ yX8_letterAt.cls ≠ "java/lang/invoke/VarHandle" ∧ (parseMethodDescriptor yX8_letterAt.desc).map (fun d => d.parameters.length) = some 1 := by decide +kernel
theorem hz_X8_letterAt : yX8_letterAt.cls ≠ "java/lang/invoke/MethodHandle" ∧ yX8_letterAt.cls ≠ "java/lang/invoke/VarHandle" ∧ (parseMethodDescriptor yX8_letterAt.desc).map (fun d => d.parameters.length) = some 1 := by decide +kernel
theorem me_X8_letterAt_0 : Cond.fieldLink RX8 74 "DrawnByLostModel" "length" "I" ∈ wsX8_letterAt := by decide +kernel
theorem me_X8_letterAt_1 : Cond.fieldLink RX8 7 "DrawnByLostModel" "text" "[I" ∈ wsX8_letterAt := by decide +kernel
theorem ic_X8_letterAt_8 : ∀ w ∈ wsX80, w ∈ wsX8_letterAt := by decide +kernel
-- the reference: a walk added to a row; letters, two figures
section VMD
variable {l : Launch} {D : va_G} {cy : CY} {B n : Nat} {h : Hp} {lg : Lg} {π : Nat → Nat} {σ : Sg}
def AR (c : Nat) : Prop := c = 93 ∨ c = 94
theorem AR.lt {c n : Nat} (a : AR c) (hn : 105 ≤ n) : c < n := by rcases a with rfl | rfl <;> omega
theorem AR.K {c : Nat} (a : AR c) : kd c = 10 := by rcases a with rfl | rfl <;> rfl
theorem AR.ln {c : Nat} (a : AR c) : ln c = 52 := by rcases a with rfl | rfl <;> rfl
/-- v has m figures, none of them 0 -/
def Fg (v m : Nat) : Prop := 1 ≤ m ∧ m ≤ 5 ∧ v < 10 ^ m ∧ ∀ j, j < m → 1 ≤ v / 10 ^ j % 10
theorem Fg.low {v m : Nat} (f : Fg v m) {j : Nat} (hj : j < m) : v / 10 ^ j ≠ 0 := fun z => by
  have := f.2.2.2 j hj
  rw [z] at this
  omega
theorem Fg.top {v m : Nat} (f : Fg v m) : v / 10 ^ m = 0 := Nat.div_eq_of_lt f.2.2.1
theorem Fg.b {v m : Nat} (f : Fg v m) : v < 100000 := Nat.lt_of_lt_of_le f.2.2.1 (Nat.pow_le_pow_right (n := 10) (by decide) f.2.1)
theorem lp1_X8_addWalk {v m κ W c : Nat} {post : PO} (hn : 105 ≤ n) (ar : AR c) (f : Fg v m)
    (K : ∀ a5, WP l D cy B cX8_addWalk 7 RX8 wsX8_addWalk rmX8_addWalk none (QE0 D cy B n 0 0 (post)) EX0 n (rf0 π) h lg 0 0 35 [some (.ref (B + c)), some (.int (nI κ)), some (.int (nI v)), some (.int (nI (17 + 7 * W))), some (.int (nI m)), a5, none] []) :
    ∀ d i : Nat, i + d = m → WP l D cy B cX8_addWalk 7 RX8 wsX8_addWalk rmX8_addWalk none (QE0 D cy B n 0 0 (post)) EX0 n (rf0 π) h lg 0 0 17 [some (.ref (B + c)), some (.int (nI κ)), some (.int (nI v)), some (.int (nI (17 + 7 * W))), some (.int (nI i)), some (.int (nI (v / 10 ^ i))), none] [] := by
  have vb := f.b
  have m5 := f.2.1
  intro d
  induction d with
  | zero =>
    intro i hi
    have : i = m := by omega
    subst this
    refine wp_iload_5 (pc' := 19) dX8_addWalk_17 rfl ?_
    refine wp_if_le (pc' := 22) (tgt := 35) dX8_addWalk_19 rfl rfl (fun c19 => ?_) (fun c19 => by exfalso; rw [f.top] at c19; exact c19 (by decide))
    exact K _
  | succ d ih =>
    intro i hi
    have lo := f.low (j := i) (by omega)
    have dl := Nat.div_le_self v (10 ^ i)
    refine wp_iload_5 (pc' := 19) dX8_addWalk_17 rfl ?_
    refine wp_if_le (pc' := 22) (tgt := 35) dX8_addWalk_19 rfl rfl (fun c19 => by exfalso; exact nI_nle (Nat.pos_of_ne_zero lo) (Nat.lt_of_le_of_lt dl (by omega)) c19) (fun c19 => ?_)
    refine wp_iinc_4 (pc' := 25) (v := nI (i + 1)) dX8_addWalk_22 (by first | rfl | exact nI_1 _) (by decide) rfl rfl ?_
    refine wp_iload_5 (pc' := 27) dX8_addWalk_25 rfl ?_
    refine wp_bipush (pc' := 29) (10) dX8_addWalk_27 rfl (by decide) ?_
    refine wp_idiv (pc' := 30) dX8_addWalk_29 rfl (by decide) ?_
    rw [show (10 : Int32) = nI 10 from rfl, pk_div (by omega) (by omega) (by omega), Nat.div_div_eq_div_mul, ← Nat.pow_succ]
    refine wp_istore_5 (pc' := 32) dX8_addWalk_30 (by decide) rfl rfl ?_
    refine wp_goto (tgt := 17) dX8_addWalk_32 rfl ?_
    exact ih (i + 1) (by omega)
theorem lp2_X8_addWalk {v m κ W c : Nat} {ρ : Nat → Nat} {post : PO} (hn : 105 ≤ n) (ar : AR c) (f : Fg v m) (hW : ρ 16 = W) (hW5 : W < 5) (H0 : Hp) (nr0 : NR H0 c ρ)
    (K : ∀ h', (∀ a, a ≠ c → h' a = H0 a) → NR h' c (addW ρ κ m (fun j => v / 10 ^ (m - 1 - j) % 10 - 1)) → post none (rf0 π) h' lg) :
    ∀ d : Nat, d ≤ 5 → ∀ r, r = v / 10 ^ (m - d) → ∀ x6 : Int32, x6 = nI d - 1 → ∀ h', (∀ a, a ≠ c → h' a = H0 a) → (∀ j, j < 52 → (17 + 7 * W ≤ j → j < 19 + 7 * W + d → 19 + 7 * W ≤ j → True) → h' c j = nI (if j = 16 then ρ 16 else if j < 19 + 7 * W + d ∧ 19 + 7 * W ≤ j then ρ j else addW ρ κ m (fun j => v / 10 ^ (m - 1 - j) % 10 - 1) j)) → WP l D cy B cX8_addWalk 7 RX8 wsX8_addWalk rmX8_addWalk none (QE0 D cy B n 0 0 (post)) EX0 n (rf0 π) h' lg 0 0 52 [some (.ref (B + c)), some (.int (nI κ)), some (.int (nI v)), some (.int (nI (17 + 7 * W))), some (.int (nI m)), some (.int (nI r)), some (.int x6)] [] := by
  have vb := f.b
  have m5 := f.2.1
  intro d
  induction d with
  | zero =>
    intro hd r hr x6 hx h' e0 e1
    subst hx
    have e16 := e1 16 (by omega) (fun _ _ _ => trivial)
    rw [if_pos rfl, hW] at e16
    refine wp_iload_6 (pc' := 54) dX8_addWalk_52 rfl ?_
    refine wp_if_lt (pc' := 57) (tgt := 108) dX8_addWalk_54 rfl rfl (fun c54 => ?_) (fun c54 => by exfalso; exact c54 (by decide))
    refine wp_aload_n_0 (pc' := 109) dX8_addWalk_108 rfl ?_
    refine wp_bipush (pc' := 111) (16) dX8_addWalk_109 rfl (by decide) ?_
    refine wp_dup2 (pc' := 112) dX8_addWalk_111 rfl rfl rfl ?_
    refine wp_iald (pc' := 113) (N := 52) (ar.lt hn) ar.K ar.ln (by first | exact vp_in_nI (by omega) (by omega) | assumption | (unfold vp_in; decide)) dX8_addWalk_112 rfl ?_
    rw [show (16 : Int32).toNatClampNeg = 16 from rfl, e16]
    refine wp_iconst (pc' := 114) (1) dX8_addWalk_113 rfl (by decide) ?_
    refine wp_iadd (pc' := 115) dX8_addWalk_114 rfl ?_
    rw [nI_1]
    refine wp_iast (pc' := 116) (N := 52) (ar.lt hn) ar.K ar.ln (by first | exact vp_in_nI (by omega) (by omega) | assumption | (unfold vp_in; decide)) dX8_addWalk_115 rfl ?_
    refine wp_return dX8_addWalk_116 rfl rfl (Nat.le_refl _) (Nat.le_refl _) ?_
    refine K _ (fun a ha => by rw [hup_cell ha]; exact e0 a ha) (fun j hj => ?_)
    rw [show (16 : Int32).toNatClampNeg = 16 from rfl]
    by_cases e : j = 16
    · subst e; rw [hup_at, addW_16, hW]
    · rw [hup_off e, e1 j hj (fun _ _ _ => trivial), if_neg e, if_neg (by omega)]
  | succ d ih =>
    intro hd r hr x6 hx h' e0 e1
    subst hx
    subst hr
    rw [nI_pred]
    have dl := Nat.div_le_self v (10 ^ (m - (d + 1)))
    have fin : ∀ w r2, w = nI (addW ρ κ m (fun j => v / 10 ^ (m - 1 - j) % 10 - 1) (19 + 7 * W + d)) → r2 = v / 10 ^ (m - d) → WP l D cy B cX8_addWalk 7 RX8 wsX8_addWalk rmX8_addWalk none (QE0 D cy B n 0 0 (post)) EX0 n (rf0 π) (hup h' c (19 + 7 * W + d) w) lg 0 0 52 [some (.ref (B + c)), some (.int (nI κ)), some (.int (nI v)), some (.int (nI (17 + 7 * W))), some (.int (nI m)), some (.int (nI r2)), some (.int (nI d - 1))] [] := by
      intro w r2 hw hr2
      refine ih (by omega) r2 hr2 _ rfl _ (fun a ha => by rw [hup_cell ha]; exact e0 a ha) (fun j hj _ => ?_)
      by_cases e : j = 19 + 7 * W + d
      · subst e
        rw [hup_at, if_neg (by omega), if_neg (by omega)]; exact hw
      · rw [hup_off e, e1 j hj (fun _ _ _ => trivial)]
        by_cases e6 : j = 16
        · rw [if_pos e6, if_pos e6]
        · rw [if_neg e6, if_neg e6]
          by_cases z : j < 19 + 7 * W + (d + 1) ∧ 19 + 7 * W ≤ j
          · rw [if_pos z, if_pos (by omega)]
          · rw [if_neg z, if_neg (by omega)]
    refine wp_iload_6 (pc' := 54) dX8_addWalk_52 rfl ?_
    refine wp_if_lt (pc' := 57) (tgt := 108) dX8_addWalk_54 rfl rfl (fun c54 => by exfalso; exact nI_pos (by omega) c54) (fun c54 => ?_)
    refine wp_aload_n_0 (pc' := 58) dX8_addWalk_57 rfl ?_
    refine wp_iload_n_3 (pc' := 59) dX8_addWalk_58 rfl ?_
    refine wp_iconst (pc' := 60) (2) dX8_addWalk_59 rfl (by decide) ?_
    refine wp_iadd (pc' := 61) dX8_addWalk_60 rfl ?_
    rw [show (2 : Int32) = nI 2 from rfl, nI_add]
    refine wp_iload_6 (pc' := 63) dX8_addWalk_61 rfl ?_
    refine wp_iadd (pc' := 64) dX8_addWalk_63 rfl ?_
    rw [nI_add, show 17 + 7 * W + 2 + d = 19 + 7 * W + d by omega]
    refine wp_iload_6 (pc' := 66) dX8_addWalk_64 rfl ?_
    refine wp_iload_4 (pc' := 68) dX8_addWalk_66 rfl ?_
    refine wp_icmp_ge (pc' := 71) (tgt := 81) dX8_addWalk_68 rfl rfl (fun c68 => ?_) (fun c68 => ?_)
    · skip -- 68 taken
      have dm : ¬ d < m := fun z => nI_ge z (by omega) c68
      refine wp_iconst (pc' := 82) (0) dX8_addWalk_81 rfl (by decide) ?_
      refine wp_iast (pc' := 83) (N := 52) (ar.lt hn) ar.K ar.ln (by first | exact vp_in_nI (by omega) (by omega) | assumption | (unfold vp_in; decide)) dX8_addWalk_82 rfl ?_
      refine wp_iload_6 (pc' := 85) dX8_addWalk_83 rfl ?_
      refine wp_iload_4 (pc' := 87) dX8_addWalk_85 rfl ?_
      refine wp_icmp_ge (pc' := 90) (tgt := 98) dX8_addWalk_87 rfl rfl (fun c87 => ?_) (fun c87 => by exfalso; exact c87 c68)
      refine wp_iload_5 (pc' := 100) dX8_addWalk_98 rfl ?_
      refine wp_istore_5 (pc' := 102) dX8_addWalk_100 (by decide) rfl rfl ?_
      refine wp_iinc_6 (pc' := 105) dX8_addWalk_102 (dec_m1 _) (by decide) rfl rfl ?_
      refine wp_goto (tgt := 52) dX8_addWalk_105 rfl ?_
      rw [nI_clamp (by omega)]
      refine fin _ _ ?_ (by rw [show m - (d + 1) = m - d by omega])
      subst hW
      rw [addW_z (by omega) (by omega)]; rfl
    · skip -- 68 not taken
      have dm : d < m := by
        apply Classical.byContradiction
        intro z
        exact c68 (nI_le (by omega) (by omega))
      have dg1 := f.2.2.2 (m - (d + 1)) (by omega)
      refine wp_iload_5 (pc' := 73) dX8_addWalk_71 rfl ?_
      refine wp_bipush (pc' := 75) (10) dX8_addWalk_73 rfl (by decide) ?_
      refine wp_irem (pc' := 76) dX8_addWalk_75 rfl (by decide) ?_
      rw [show (10 : Int32) = nI 10 from rfl, pk_rem (by omega) (by omega) (by omega)]
      refine wp_iconst (pc' := 77) (1) dX8_addWalk_76 rfl (by decide) ?_
      refine wp_isub (pc' := 78) dX8_addWalk_77 rfl ?_
      rw [nI_pred' dg1]
      refine wp_goto (tgt := 82) dX8_addWalk_78 rfl ?_
      refine wp_iast (pc' := 83) (N := 52) (ar.lt hn) ar.K ar.ln (by first | exact vp_in_nI (by omega) (by omega) | assumption | (unfold vp_in; decide)) dX8_addWalk_82 rfl ?_
      refine wp_iload_6 (pc' := 85) dX8_addWalk_83 rfl ?_
      refine wp_iload_4 (pc' := 87) dX8_addWalk_85 rfl ?_
      refine wp_icmp_ge (pc' := 90) (tgt := 98) dX8_addWalk_87 rfl rfl (fun c87 => by exfalso; exact c68 c87) (fun c87 => ?_)
      refine wp_iload_5 (pc' := 92) dX8_addWalk_90 rfl ?_
      refine wp_bipush (pc' := 94) (10) dX8_addWalk_92 rfl (by decide) ?_
      refine wp_idiv (pc' := 95) dX8_addWalk_94 rfl (by decide) ?_
      rw [show (10 : Int32) = nI 10 from rfl, pk_div (by omega) (by omega) (by omega)]
      refine wp_goto (tgt := 100) dX8_addWalk_95 rfl ?_
      refine wp_istore_5 (pc' := 102) dX8_addWalk_100 (by decide) rfl rfl ?_
      refine wp_iinc_6 (pc' := 105) dX8_addWalk_102 (dec_m1 _) (by decide) rfl rfl ?_
      refine wp_goto (tgt := 52) dX8_addWalk_105 rfl ?_
      rw [nI_clamp (by omega)]
      refine fin _ _ ?_ (by rw [Nat.div_div_eq_div_mul, ← Nat.pow_succ, show (m - (d + 1)).succ = m - d by omega])
      subst hW
      rw [addW_m dm (by omega), show m - 1 - d = m - (d + 1) by omega]
theorem c_X8_addWalk {v m κ c : Nat} {ρ : Nat → Nat} (hn : 105 ≤ n) (ar : AR c) (f : Fg v m) (hW5 : ρ 16 < 5) (nr : NR h c ρ) : Ctr l D cy B yX8_addWalk wsX8_addWalk rmX8_addWalk 0 0 n (rf0 π) h lg [.ref (B + c), .int (nI κ), .int (nI v)] (qV (fun h' => (∀ a, a ≠ c → h' a = h a) ∧ NR h' c (addW ρ κ m (fun j => v / 10 ^ (m - 1 - j) % 10 - 1))) (rf0 π) lg) := by
  have vb := f.b
  refine Ctr.of (cc := cX8_addWalk) (nL := 7) (own := RX8) (rt := none) (ls := [some (.ref (B + c)), some (.int (nI κ)), some (.int (nI v)), none, none, none, none]) (by decide) rfl rfl (Nat.le_of_ble_eq_true rfl) rfl ?_
  refine wp_bipush (pc' := 2) (17) dX8_addWalk_0 rfl (by decide) ?_
  refine wp_bipush (pc' := 4) (7) dX8_addWalk_2 rfl (by decide) ?_
  refine wp_aload_n_0 (pc' := 5) dX8_addWalk_4 rfl ?_
  refine wp_bipush (pc' := 7) (16) dX8_addWalk_5 rfl (by decide) ?_
  refine wp_iald (pc' := 8) (N := 52) (ar.lt hn) ar.K ar.ln (by first | exact vp_in_nI (by omega) (by omega) | assumption | (unfold vp_in; decide)) dX8_addWalk_7 rfl ?_
  rw [show (16 : Int32).toNatClampNeg = 16 from rfl, nr 16 (by omega)]
  refine wp_imul (pc' := 9) dX8_addWalk_8 rfl ?_
  refine wp_iadd (pc' := 10) dX8_addWalk_9 rfl ?_
  rw [nI_7w]
  refine wp_istore_n_3 (pc' := 11) dX8_addWalk_10 (by decide) rfl rfl ?_
  refine wp_iconst (pc' := 12) (0) dX8_addWalk_11 rfl (by decide) ?_
  refine wp_istore_4 (pc' := 14) dX8_addWalk_12 (by decide) rfl rfl ?_
  refine wp_iload_n_2 (pc' := 15) dX8_addWalk_14 rfl ?_
  refine wp_istore_5 (pc' := 17) dX8_addWalk_15 (by decide) rfl rfl ?_
  have z := lp1_X8_addWalk (l := l) (D := D) (cy := cy) (B := B) (n := n) (h := h) (lg := lg) (π := π) (v := v) (m := m) (κ := κ) (W := ρ 16) (c := c) (post := qV (fun h' => (∀ a, a ≠ c → h' a = h a) ∧ NR h' c (addW ρ κ m (fun j => v / 10 ^ (m - 1 - j) % 10 - 1))) (rf0 π) lg) hn ar f (fun a5 => ?_) m 0 (by omega)
  · rw [Nat.pow_zero, Nat.div_one] at z
    exact z
  refine wp_aload_n_0 (pc' := 36) dX8_addWalk_35 rfl ?_
  refine wp_iload_n_3 (pc' := 37) dX8_addWalk_36 rfl ?_
  refine wp_iload_n_1 (pc' := 38) dX8_addWalk_37 rfl ?_
  refine wp_iast (pc' := 39) (N := 52) (ar.lt hn) ar.K ar.ln (by first | exact vp_in_nI (by omega) (by omega) | assumption | (unfold vp_in; decide)) dX8_addWalk_38 rfl ?_
  refine wp_aload_n_0 (pc' := 40) dX8_addWalk_39 rfl ?_
  refine wp_iload_n_3 (pc' := 41) dX8_addWalk_40 rfl ?_
  refine wp_iconst (pc' := 42) (1) dX8_addWalk_41 rfl (by decide) ?_
  refine wp_iadd (pc' := 43) dX8_addWalk_42 rfl ?_
  rw [nI_1]
  refine wp_iload_4 (pc' := 45) dX8_addWalk_43 rfl ?_
  refine wp_iast (pc' := 46) (N := 52) (ar.lt hn) ar.K ar.ln (by first | exact vp_in_nI (by omega) (by omega) | assumption | (unfold vp_in; decide)) dX8_addWalk_45 rfl ?_
  refine wp_iload_n_2 (pc' := 47) dX8_addWalk_46 rfl ?_
  refine wp_istore_5 (pc' := 49) dX8_addWalk_47 (by decide) rfl rfl ?_
  refine wp_iconst (pc' := 50) (4) dX8_addWalk_49 rfl (by decide) ?_
  refine wp_istore_6 (pc' := 52) dX8_addWalk_50 (by decide) rfl rfl ?_
  rw [nI_clamp (by omega), nI_clamp (by omega)]
  refine lp2_X8_addWalk (κ := κ) (m := m) (ρ := ρ) hn ar f rfl hW5 h nr (fun h' e0 e1 => qV_of ⟨e0, e1⟩) 5 (Nat.le_refl _) v (by rw [show m - 5 = 0 by have := f.2.1; omega, Nat.pow_zero, Nat.div_one]) _ rfl _ (fun a ha => by rw [hup_cell ha, hup_cell ha]) (fun j hj _ => ?_)
  by_cases e2 : j = 17 + 7 * ρ 16 + 1
  · rw [e2, hup_at, if_neg (by omega), if_neg (by omega), show 17 + 7 * ρ 16 + 1 = 18 + 7 * ρ 16 by omega, addW_n]
  · rw [hup_off e2]
    by_cases e1 : j = 17 + 7 * ρ 16
    · rw [e1, hup_at, if_neg (by omega), if_neg (by omega), addW_k]
    · rw [hup_off e1, nr j hj]
      by_cases e6 : j = 16
      · rw [if_pos e6, e6]
      · rw [if_neg e6]
        by_cases z : j < 19 + 7 * ρ 16 + 5 ∧ 19 + 7 * ρ 16 ≤ j
        · rw [if_pos z]
        · rw [if_neg z]
          by_cases lo : j < 16
          · rw [addW_lo lo]
          · by_cases mi : j < 17 + 7 * ρ 16
            · rw [addW_old (by omega) mi]
            · rw [addW_hi (by omega)]
theorem c_X8_letterAt {len k : Nat} {tx : Nat → Nat} (hn : 105 ≤ n) (T : TM h len tx) (hk : k < 1000) : Ctr l D cy B yX8_letterAt wsX8_letterAt rmX8_letterAt 0 0 n (rf0 π) h lg [.ref (B + 89), .int (nI k)] (uI (nI (ltr len tx k)) (rf0 π) h lg) := by
  obtain ⟨T1, T2, T3⟩ := T
  refine Ctr.of (cc := cX8_letterAt) (nL := 2) (own := RX8) (rt := (some .int)) (ls := [some (.ref (B + 89)), some (.int (nI k))]) (by decide) rfl rfl (Nat.le_of_ble_eq_true rfl) rfl ?_
  refine wp_iload_n_1 (pc' := 1) dX8_letterAt_0 rfl ?_
  refine wp_aload_n_0 (pc' := 2) dX8_letterAt_1 rfl ?_
  refine wp_get_8_0 (pc' := 5) (by omega) rfl me_X8_letterAt_0 ic_X8_letterAt_8 dX8_letterAt_2 rfl ?_
  rw [T1]
  refine wp_icmp_ge (pc' := 8) (tgt := 17) dX8_letterAt_5 rfl rfl (fun c5 => ?_) (fun c5 => ?_)
  · skip -- 5 taken
    have kl : ¬ k < len := fun z => nI_ge z (by omega) c5
    refine wp_iconst (pc' := 18) (0) dX8_letterAt_17 rfl (by decide) ?_
    refine wp_ireturn dX8_letterAt_18 rfl rfl (Nat.le_refl _) (Nat.le_refl _) ?_
    exact uI_of (by unfold ltr; rw [if_neg kl]; rfl)
  · skip -- 5 not taken
    have kl : k < len := by
      apply Classical.byContradiction
      intro z
      exact c5 (nI_le (by omega) (by omega))
    refine wp_aload_n_0 (pc' := 9) dX8_letterAt_8 rfl ?_
    refine wp_get_8_1 (pc' := 12) (by omega) rfl rfl me_X8_letterAt_1 ic_X8_letterAt_8 dX8_letterAt_9 rfl ?_
    refine wp_iload_n_1 (pc' := 13) dX8_letterAt_12 rfl ?_
    refine wp_iald (pc' := 14) (N := 200) (by omega) rfl rfl (by first | exact vp_in_nI (by omega) (by omega) | assumption | (unfold vp_in; decide)) dX8_letterAt_13 rfl ?_
    rw [nI_clamp (by omega), (T3 k kl).1]
    refine wp_goto (tgt := 18) dX8_letterAt_14 rfl ?_
    refine wp_ireturn dX8_letterAt_18 rfl rfl (Nat.le_refl _) (Nat.le_refl _) ?_
    exact uI_of (by unfold ltr; rw [if_pos kl])
theorem ltr_b {len k : Nat} {tx : Nat → Nat} (T : TM h len tx) : ltr len tx k ≤ 126 := by
  unfold ltr
  split
  · rename_i q; exact (T.2.2 k q).2.2
  · omega
end VMD

