abbrev rmX0_addUp : Room := { frames := 3, cells := 0, slots := 0, locals := 69 }
theorem hy_X0_addUp : yX0_addUp.cls = RX0 ∧ yX0_addUp.cls ≠ "java/lang/invoke/MethodHandle" ∧ yX0_addUp.cls ≠ "java/lang/invoke/VarHandle" ∧ (parseMethodDescriptor yX0_addUp.desc).map (fun d => d.parameters.length) = some 2 := by decide +kernel
theorem hz_X0_addUp : yX0_addUp.cls ≠ "java/lang/invoke/MethodHandle" ∧ yX0_addUp.cls ≠ "java/lang/invoke/VarHandle" ∧ (parseMethodDescriptor yX0_addUp.desc).map (fun d => d.parameters.length) = some 2 := by decide +kernel
theorem me_X0_addUp_0 : Cond.fieldLink RX0 31 "DrawnByLost$Finder" "later" "[I" ∈ wsX0_addUp := by decide +kernel
theorem me_X0_addUp_1 : Cond.fieldLink RX0 28 "DrawnByLost$Finder" "tally" "[I" ∈ wsX0_addUp := by decide +kernel
theorem me_X0_addUp_2 : Cond.fieldLink RX0 12 "DrawnByLost$Finder" "land" "LDrawnByLost$Land;" ∈ wsX0_addUp := by decide +kernel
theorem me_X0_addUp_3 : Cond.methodLink RX0 91 arraycopyName ∈ wsX0_addUp := by decide +kernel
theorem me_X0_addUp_4 : Cond.native arraycopyName ∈ wsX0_addUp := by decide +kernel
theorem me_X0_addUp_5 : Cond.static arraycopyName ∈ wsX0_addUp := by decide +kernel
theorem me_X0_addUp_6 : Cond.initialized "java/lang/System" ∈ wsX0_addUp := by decide +kernel
theorem ic_X0_addUp_0 : ∀ w ∈ wsX00, w ∈ wsX0_addUp := by decide +kernel
-- Finder: how many rows; who lied; round; passed
section VF4
variable {l : Launch} {D : va_G} {cy : CY} {B n : Nat} {h : Hp} {lg : Lg} {π : Nat → Nat}
/-- one step on, as addUp counts -/
def aup (κ R C : Nat) (g : Nat → Bool) (T : Nat → Nat) (x : Nat) : Nat := one (g x) * sumN 16 (fun y => one (rch κ R C (fun z => decide (z = x)) y) * T y)
theorem lpi_X0_addUp {κ R C x : Nat} {g g2 : Nat → Bool} {T : Nat → Nat} {post : PO} {a0 : Nat → Nat} (hn : 89 ≤ n) (H0 : Hp) (hx : x < 16) (hT : ∀ y, y < 16 → H0 16 y = nI (T y))
    (K : ∀ h', (∀ a, a ≠ 17 → h' a = H0 a) → (∀ i, i ≠ x → h' 17 i = H0 17 i) → h' 17 x = nI (a0 x + sumN 16 (fun y => one (g2 y) * T y)) → ∀ a4 a5, WP l D cy B cX0_addUp 6 RX0 wsX0_addUp rmX0_addUp none (QE0 D cy B n 0 0 (post)) EX0 n (rf0 π) h' lg 0 0 84 [some (.ref (B + 10)), some (.int (nI κ)), some (.int (S g)), some (.int (nI x)), some (.int a4), some (.int a5)] []) :
    ∀ d y : Nat, y + d = 16 → ∀ h', (∀ a, a ≠ 17 → h' a = H0 a) → (∀ i, i ≠ x → h' 17 i = H0 17 i) → h' 17 x = nI (a0 x + sumN y (fun y => one (g2 y) * T y)) → WP l D cy B cX0_addUp 6 RX0 wsX0_addUp rmX0_addUp none (QE0 D cy B n 0 0 (post)) EX0 n (rf0 π) h' lg 0 0 44 [some (.ref (B + 10)), some (.int (nI κ)), some (.int (S g)), some (.int (nI x)), some (.int (S g2)), some (.int (nI y))] [] := by
  intro d
  induction d with
  | zero =>
    intro y hy h' e0 e1 e2
    have : y = 16 := by omega
    subst this
    refine wp_iload_5 (pc' := 46) dX0_addUp_44 rfl ?_
    refine wp_bipush (pc' := 48) (16) dX0_addUp_46 rfl (by decide) ?_
    refine wp_icmp_ge (pc' := 51) (tgt := 84) dX0_addUp_48 rfl rfl (fun c48 => ?_) (fun c48 => by exfalso; exact c48 (by decide))
    exact K h' e0 e1 e2 _ _
  | succ d ih =>
    intro y hy h' e0 e1 e2
    refine wp_iload_5 (pc' := 46) dX0_addUp_44 rfl ?_
    refine wp_bipush (pc' := 48) (16) dX0_addUp_46 rfl (by decide) ?_
    refine wp_icmp_ge (pc' := 51) (tgt := 84) dX0_addUp_48 rfl rfl (fun c48 => by exfalso; (simp (disch := omega) only [Int32.lt_iff_toInt_lt, Int32.le_iff_toInt_le, ← Int32.toInt_inj, nI_toInt, il_0, il_1, il_2, il_3, il_4, il_5, il_6, il_8, il_9, il_10, il_16, il_26, il_32, il_40, il_n4, il_n1, il_n2, il_11, il_48, il_57, il_59, il_44, il_126, il_200, il_9999, il_66666, il_10000, il_1000000, il_15, il_12, il_256, il_4096, il_53, il_52] at c48; omega)) (fun c48 => ?_)
    refine wp_iload_4 (pc' := 53) dX0_addUp_51 rfl ?_
    refine wp_iload_5 (pc' := 55) dX0_addUp_53 rfl ?_
    refine wp_ishr (pc' := 56) dX0_addUp_55 rfl ?_
    refine wp_iconst (pc' := 57) (1) dX0_addUp_56 rfl (by decide) ?_
    refine wp_iand (pc' := 58) dX0_addUp_57 rfl ?_
    rw [S_test g2 (by omega)]
    refine wp_iconst (pc' := 59) (1) dX0_addUp_58 rfl (by decide) ?_
    refine wp_icmp_ne (pc' := 62) (tgt := 78) dX0_addUp_59 rfl rfl (fun c59 => ?_) (fun c59 => ?_)
    · skip -- 59 taken
      have hf : g2 y = false := by
        cases q : g2 y
        · rfl
        · rw [q] at c59; exact absurd rfl c59
      refine wp_iinc_5 (pc' := 81) (v := nI (y + 1)) dX0_addUp_78 (by first | rfl | exact nI_1 _) (by decide) rfl rfl ?_
      refine wp_goto (tgt := 44) dX0_addUp_81 rfl ?_
      refine ih (y + 1) (by omega) h' e0 e1 ?_
      rw [e2]
      simp only [sumN]
      rw [hf]
      simp [one]
    · skip -- 59 not taken
      have hf : g2 y = true := by
        cases q : g2 y
        · rw [q] at c59; exact absurd c59 (by decide)
        · rfl
      refine wp_aload_n_0 (pc' := 63) dX0_addUp_62 rfl ?_
      refine wp_get_0_5 (pc' := 66) (by omega) rfl rfl me_X0_addUp_0 ic_X0_addUp_0 dX0_addUp_63 rfl ?_
      refine wp_iload_n_3 (pc' := 67) dX0_addUp_66 rfl ?_
      refine wp_dup2 (pc' := 68) dX0_addUp_67 rfl rfl rfl ?_
      refine wp_iald (pc' := 69) (N := 16) (by omega) rfl rfl (by first | exact vp_in_nI (by omega) (by omega) | assumption | (unfold vp_in; decide)) dX0_addUp_68 rfl ?_
      rw [nI_clamp (by omega), e2]
      refine wp_aload_n_0 (pc' := 70) dX0_addUp_69 rfl ?_
      refine wp_get_0_4 (pc' := 73) (by omega) rfl rfl me_X0_addUp_1 ic_X0_addUp_0 dX0_addUp_70 rfl ?_
      refine wp_iload_5 (pc' := 75) dX0_addUp_73 rfl ?_
      refine wp_iald (pc' := 76) (N := 16) (by omega) rfl rfl (by first | exact vp_in_nI (by omega) (by omega) | assumption | (unfold vp_in; decide)) dX0_addUp_75 rfl ?_
      rw [nI_clamp (by omega), e0 16 (by decide), hT y (by omega)]
      refine wp_iadd (pc' := 77) dX0_addUp_76 rfl ?_
      rw [nI_add]
      refine wp_iast (pc' := 78) (N := 16) (by omega) rfl rfl (by first | exact vp_in_nI (by omega) (by omega) | assumption | (unfold vp_in; decide)) dX0_addUp_77 rfl ?_
      refine wp_iinc_5 (pc' := 81) (v := nI (y + 1)) dX0_addUp_78 (by first | rfl | exact nI_1 _) (by decide) rfl rfl ?_
      refine wp_goto (tgt := 44) dX0_addUp_81 rfl ?_
      refine ih (y + 1) (by omega) _ (fun a ha => by rw [hup_cell ha]; exact e0 a ha) (fun i hi => by rw [nI_clamp (by omega), hup_off hi]; exact e1 i hi) ?_
      rw [nI_clamp (by omega), hup_at]
      simp only [sumN]
      rw [hf]
      simp only [one, if_true, Nat.one_mul]
      rw [Nat.add_assoc]
theorem lpo_X0_addUp {κ R C : Nat} {g : Nat → Bool} {T : Nat → Nat} {post : PO} (hn : 89 ≤ n) (H0 : Hp) (q : ShL H0 11 R C) (hκ : κ ≤ 3) (hg : Sup (R * C) g) (hT : ∀ y, y < 16 → H0 16 y = nI (T y))
    (K : ∀ h', (∀ a, a ≠ 17 → h' a = H0 a) → (∀ x, x < 16 → h' 17 x = nI (aup κ R C g T x)) → ∀ a3 a4 a5, WP l D cy B cX0_addUp 6 RX0 wsX0_addUp rmX0_addUp none (QE0 D cy B n 0 0 (post)) EX0 n (rf0 π) h' lg 0 0 90 [some (.ref (B + 10)), some (.int (nI κ)), some (.int (S g)), a3, a4, a5] []) :
    ∀ d x : Nat, x + d = 16 → ∀ h', (∀ a, a ≠ 17 → h' a = H0 a) → (∀ i, i < x → h' 17 i = nI (aup κ R C g T i)) → ∀ a4 a5, okc a4 = true → WP l D cy B cX0_addUp 6 RX0 wsX0_addUp rmX0_addUp none (QE0 D cy B n 0 0 (post)) EX0 n (rf0 π) h' lg 0 0 2 [some (.ref (B + 10)), some (.int (nI κ)), some (.int (S g)), some (.int (nI x)), a4, a5] [] := by
  have hl := q.1.le
  intro d
  induction d with
  | zero =>
    intro x hx h' e0 e1 a4 a5 ho
    have : x = 16 := by omega
    subst this
    refine wp_iload_n_3 (pc' := 3) dX0_addUp_2 rfl ?_
    refine wp_bipush (pc' := 5) (16) dX0_addUp_3 rfl (by decide) ?_
    refine wp_icmp_ge (pc' := 8) (tgt := 90) dX0_addUp_5 rfl rfl (fun c5 => ?_) (fun c5 => by exfalso; exact c5 (by decide))
    exact K h' e0 e1 _ _ _
  | succ d ih =>
    intro x hx h' e0 e1 a4 a5 ho
    have q' := (q.of_eq (e0 11 (by decide)))
    have e1' : ∀ v i, i < x → hup h' 17 x v 17 i = nI (aup κ R C g T i) := fun v i hi => by rw [hup_off (by omega)]; exact e1 i hi
    have fin : ∀ h2 a4 a5, (∀ a, a ≠ 17 → h2 a = H0 a) → (∀ i, i < x → h2 17 i = nI (aup κ R C g T i)) → h2 17 x = nI (aup κ R C g T x) → WP l D cy B cX0_addUp 6 RX0 wsX0_addUp rmX0_addUp none (QE0 D cy B n 0 0 (post)) EX0 n (rf0 π) h2 lg 0 0 2 [some (.ref (B + 10)), some (.int (nI κ)), some (.int (S g)), some (.int (nI (x + 1))), some (.int a4), some (.int a5)] [] := by
      intro h2 a4 a5 g0 g1 g2
      refine ih (x + 1) (by omega) h2 g0 (fun i hi => ?_) _ _ rfl
      by_cases e : i = x
      · subst e; exact g2
      · exact g1 i (by omega)
    refine wp_iload_n_3 (pc' := 3) dX0_addUp_2 rfl ?_
    refine wp_bipush (pc' := 5) (16) dX0_addUp_3 rfl (by decide) ?_
    refine wp_icmp_ge (pc' := 8) (tgt := 90) dX0_addUp_5 rfl rfl (fun c5 => by exfalso; (simp (disch := omega) only [Int32.lt_iff_toInt_lt, Int32.le_iff_toInt_le, ← Int32.toInt_inj, nI_toInt, il_0, il_1, il_2, il_3, il_4, il_5, il_6, il_8, il_9, il_10, il_16, il_26, il_32, il_40, il_n4, il_n1, il_n2, il_11, il_48, il_57, il_59, il_44, il_126, il_200, il_9999, il_66666, il_10000, il_1000000, il_15, il_12, il_256, il_4096, il_53, il_52] at c5; omega)) (fun c5 => ?_)
    refine wp_aload_n_0 (pc' := 9) dX0_addUp_8 rfl ?_
    refine wp_get_0_5 (pc' := 12) (by omega) rfl rfl me_X0_addUp_0 ic_X0_addUp_0 dX0_addUp_9 rfl ?_
    refine wp_iload_n_3 (pc' := 13) dX0_addUp_12 rfl ?_
    refine wp_iconst (pc' := 14) (0) dX0_addUp_13 rfl (by decide) ?_
    refine wp_iast (pc' := 15) (N := 16) (by omega) rfl rfl (by first | exact vp_in_nI (by omega) (by omega) | assumption | (unfold vp_in; decide)) dX0_addUp_14 rfl ?_
    rw [nI_clamp (by omega)]
    refine wp_iload_n_2 (pc' := 16) dX0_addUp_15 rfl ?_
    refine wp_iload_n_3 (pc' := 17) dX0_addUp_16 rfl ?_
    refine wp_ishr (pc' := 18) dX0_addUp_17 rfl ?_
    refine wp_iconst (pc' := 19) (1) dX0_addUp_18 rfl (by decide) ?_
    refine wp_iand (pc' := 20) dX0_addUp_19 rfl ?_
    rw [S_test g (by omega)]
    refine wp_iconst (pc' := 21) (1) dX0_addUp_20 rfl (by decide) ?_
    refine wp_icmp_ne (pc' := 24) (tgt := 38) dX0_addUp_21 rfl rfl (fun c21 => ?_) (fun c21 => ?_)
    · skip -- 21 taken
      have hf : g x = false := by
        cases q : g x
        · rfl
        · rw [q] at c21; exact absurd rfl c21
      refine wp_iconst (pc' := 39) (0) dX0_addUp_38 rfl (by decide) ?_
      rw [show ([Value.int 0] : List Value) = [Value.int (S (fun _ => false))] by rw [S_zero]]
      refine wp_istore_4 (pc' := 41) dX0_addUp_39 (by decide) rfl rfl ?_
      refine wp_iconst (pc' := 42) (0) dX0_addUp_41 rfl (by decide) ?_
      refine wp_istore_5 (pc' := 44) dX0_addUp_42 (by decide) rfl rfl ?_
      refine lpi_X0_addUp (R := R) (C := C) (g2 := fun _ => false) (T := T) (a0 := fun _ => 0) hn (hup h' 17 x 0) (by omega) (fun y hy => by rw [hup_cell (by decide), e0 16 (by decide)]; exact hT y hy) (fun h2 g0 g1 g2 b4 b5 => ?_) 16 0 (by omega) _ (fun a ha => rfl) (fun i hi => rfl) (by rw [hup_at]; simp [sumN, nI_lit0])
      refine wp_iinc_3 (pc' := 87) (v := nI (x + 1)) dX0_addUp_84 (by first | rfl | exact nI_1 _) (by decide) rfl rfl ?_
      refine wp_goto (tgt := 2) dX0_addUp_87 rfl ?_
      refine fin h2 _ _ (fun a ha => by rw [g0 a ha, hup_cell ha]; exact e0 a ha) (fun i hi => by rw [g1 i (by omega)]; exact e1' _ i hi) ?_
      rw [g2]
      unfold aup
      rw [hf]
      congr 1
      simp only [one, Bool.false_eq_true, if_false, Nat.zero_mul, sumN_zero]
    · skip -- 21 not taken
      have hf : g x = true := by
        cases q : g x
        · rw [q] at c21; exact absurd c21 (by decide)
        · rfl
      have hxl := hg.lt hf
      refine wp_aload_n_0 (pc' := 25) dX0_addUp_24 rfl ?_
      refine wp_get_0_0 (pc' := 28) (by omega) rfl rfl me_X0_addUp_2 ic_X0_addUp_0 dX0_addUp_25 rfl ?_
      refine wp_iload_n_1 (pc' := 29) dX0_addUp_28 rfl ?_
      refine wp_iconst (pc' := 30) (1) dX0_addUp_29 rfl (by decide) ?_
      refine wp_iload_n_3 (pc' := 31) dX0_addUp_30 rfl ?_
      refine wp_ishl (pc' := 32) dX0_addUp_31 rfl ?_
      rw [S_one (by omega)]
      refine wp_callVu (pc' := 35) (c_X1_reach hn la11 (q'.of_eq (hup_cell (by decide))) hκ (sup_pt hxl)) gX0_addUp_X1_reach rfl rfl hy_X1_reach ⟨Nat.le_of_ble_eq_true rfl, Nat.le_of_ble_eq_true rfl⟩ ⟨rfl, rfl⟩ (Nat.le_of_ble_eq_true rfl) ⟨Nat.le_of_ble_eq_true rfl, Nat.le_of_ble_eq_true rfl⟩ (by omega) (ce1 rfl) rfl rfl dX0_addUp_32 rfl ?_
      refine wp_goto (tgt := 39) dX0_addUp_35 rfl ?_
      refine wp_istore_4 (pc' := 41) dX0_addUp_39 (by decide) rfl rfl ?_
      refine wp_iconst (pc' := 42) (0) dX0_addUp_41 rfl (by decide) ?_
      refine wp_istore_5 (pc' := 44) dX0_addUp_42 (by decide) rfl rfl ?_
      refine lpi_X0_addUp (R := R) (C := C) (g2 := rch κ R C (fun z => decide (z = x))) (T := T) (a0 := fun _ => 0) hn (hup h' 17 x 0) (by omega) (fun y hy => by rw [hup_cell (by decide), e0 16 (by decide)]; exact hT y hy) (fun h2 g0 g1 g2 b4 b5 => ?_) 16 0 (by omega) _ (fun a ha => rfl) (fun i hi => rfl) (by rw [hup_at]; simp [sumN, nI_lit0])
      refine wp_iinc_3 (pc' := 87) (v := nI (x + 1)) dX0_addUp_84 (by first | rfl | exact nI_1 _) (by decide) rfl rfl ?_
      refine wp_goto (tgt := 2) dX0_addUp_87 rfl ?_
      refine fin h2 _ _ (fun a ha => by rw [g0 a ha, hup_cell ha]; exact e0 a ha) (fun i hi => by rw [g1 i (by omega)]; exact e1' _ i hi) ?_
      rw [g2]
      unfold aup
      rw [hf]
      simp only [one, if_true, Nat.one_mul, Nat.zero_add]
theorem c_X0_addUp {κ R C : Nat} {g : Nat → Bool} {T : Nat → Nat} (hn : 89 ≤ n) (q : ShL h 11 R C) (hκ : κ ≤ 3) (hg : Sup (R * C) g) (hT : ∀ y, y < 16 → h 16 y = nI (T y)) : Ctr l D cy B yX0_addUp wsX0_addUp rmX0_addUp 0 0 n (rf0 π) h lg [.ref (B + 10), .int (nI κ), .int (S g)] (qV (fun h' => (∀ a, a ≠ 16 → a ≠ 17 → h' a = h a) ∧ ∀ x, x < 16 → h' 16 x = nI (aup κ R C g T x)) (rf0 π) lg) := by
  refine Ctr.of (cc := cX0_addUp) (nL := 6) (own := RX0) (rt := none) (ls := [some (.ref (B + 10)), some (.int (nI κ)), some (.int (S g)), none, none, none]) (by decide) rfl rfl (Nat.le_of_ble_eq_true rfl) rfl ?_
  refine wp_iconst (pc' := 1) (0) dX0_addUp_0 rfl (by decide) ?_
  refine wp_istore_n_3 (pc' := 2) dX0_addUp_1 (by decide) rfl rfl ?_
  refine lpo_X0_addUp hn h q hκ hg hT (fun h' e0 e1 a3 a4 a5 => ?_) 16 0 (by omega) h (fun _ _ => rfl) (fun i hi => by omega) _ _ rfl
  refine wp_aload_n_0 (pc' := 91) dX0_addUp_90 rfl ?_
  refine wp_get_0_5 (pc' := 94) (by omega) rfl rfl me_X0_addUp_0 ic_X0_addUp_0 dX0_addUp_91 rfl ?_
  refine wp_iconst (pc' := 95) (0) dX0_addUp_94 rfl (by decide) ?_
  refine wp_aload_n_0 (pc' := 96) dX0_addUp_95 rfl ?_
  refine wp_get_0_4 (pc' := 99) (by omega) rfl rfl me_X0_addUp_1 ic_X0_addUp_0 dX0_addUp_96 rfl ?_
  refine wp_iconst (pc' := 100) (0) dX0_addUp_99 rfl (by decide) ?_
  refine wp_bipush (pc' := 102) (16) dX0_addUp_100 rfl (by decide) ?_
  refine wp_copyi (pc' := 105) me_X0_addUp_3 me_X0_addUp_4 me_X0_addUp_5 me_X0_addUp_6 (by omega) rfl rfl (by omega) rfl rfl (by decide) (by decide) (by decide) (by decide) (by decide) (Nat.le_of_ble_eq_true rfl) (by decide) dX0_addUp_102 rfl ?_
  refine wp_return dX0_addUp_105 rfl rfl (Nat.le_refl _) (Nat.le_refl _) ?_
  refine qV_of ⟨fun a h1 h2 => ?_, fun x hx => ?_⟩
  · simp only [h1, if_false]
    exact e0 a h2
  · simp only [if_true]
    rw [show (0 : Int32).toNatClampNeg = 0 from rfl, show (16 : Int32).toNatClampNeg = 16 from rfl, va_cpy_0 _ _ hx]
    exact e1 x hx
end VF4

