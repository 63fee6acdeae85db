abbrev rmX6_chance : Room := { frames := 3, cells := 0, slots := 0, locals := 70 }
theorem hy_X6_chance : yX6_chance.cls = RX6 ∧ yX6_chance.cls ≠ "java/lang/invoke/MethodHandle" ∧ yX6_chance.cls ≠ "java/lang/invoke/VarHandle" ∧ (parseMethodDescriptor yX6_chance.desc).map (fun d => d.parameters.length) = some 4 := by decide +kernel
theorem hz_X6_chance : yX6_chance.cls ≠ "java/lang/invoke/MethodHandle" ∧ yX6_chance.cls ≠ "java/lang/invoke/VarHandle" ∧ (parseMethodDescriptor yX6_chance.desc).map (fun d => d.parameters.length) = some 4 := by decide +kernel
theorem me_X6_chance_0 : Cond.fieldLink RX6 15 "DrawnByLost$Traveller" "odds" "[I" ∈ wsX6_chance := by decide +kernel
theorem me_X6_chance_1 : Cond.fieldLink RX6 62 "DrawnByLost$Finder" "land" "LDrawnByLost$Land;" ∈ wsX6_chance := by decide +kernel
theorem me_X6_chance_2 : Cond.constantLong RX6 70 (12) ∈ wsX6_chance := by decide +kernel
theorem me_X6_chance_3 : Cond.constantLong RX6 72 (100000) ∈ wsX6_chance := by decide +kernel
theorem ic_X6_chance_6 : ∀ w ∈ wsX60, w ∈ wsX6_chance := by decide +kernel
theorem ic_X6_chance_0 : ∀ w ∈ wsX00, w ∈ wsX6_chance := by decide +kernel
-- Traveller: chance
section VT5
variable {l : Launch} {D : va_G} {cy : CY} {B n : Nat} {h : Hp} {lg : Lg} {π : Nat → Nat}
theorem lp_X6_ch0 {g : Nat → Bool} {w m : Nat} {post : PO} (hn : 89 ≤ n) (H0 : Hp)
    (K : ∀ h', (∀ a, a ≠ 84 → h' a = H0 a) → (∀ i, i < 16 → h' 84 i = nI (one (g i))) → ∀ a6, WP l D cy B cX6_chance 11 RX6 wsX6_chance rmX6_chance (some .int) (QE0 D cy B n 0 0 (post)) EX0 n (rf0 π) h' lg 0 0 42 [some (.ref (B + 82)), some (.ref (B + 10)), some (.ref (B + 18)), some (.int (nI w)), some (.int (nI m)), some (.int (S g)), a6, none, none, none, none] []) :
    ∀ d i : Nat, i + d = 16 → ∀ h', (∀ a, a ≠ 84 → h' a = H0 a) → (∀ j, j < i → h' 84 j = nI (one (g j))) → WP l D cy B cX6_chance 11 RX6 wsX6_chance rmX6_chance (some .int) (QE0 D cy B n 0 0 (post)) EX0 n (rf0 π) h' lg 0 0 15 [some (.ref (B + 82)), some (.ref (B + 10)), some (.ref (B + 18)), some (.int (nI w)), some (.int (nI m)), some (.int (S g)), some (.int (nI i)), none, none, none, none] [] := by
  intro d
  induction d with
  | zero =>
    intro i hi h' e0 e1
    have : i = 16 := by omega
    subst this
    refine wp_iload_6 (pc' := 17) dX6_chance_15 rfl ?_
    refine wp_bipush (pc' := 19) (16) dX6_chance_17 rfl (by decide) ?_
    refine wp_icmp_ge (pc' := 22) (tgt := 42) dX6_chance_19 rfl rfl (fun c19 => ?_) (fun c19 => by exfalso; exact c19 (by decide))
    exact K h' e0 e1 _
  | succ d ih =>
    intro i hi h' e0 e1
    refine wp_iload_6 (pc' := 17) dX6_chance_15 rfl ?_
    refine wp_bipush (pc' := 19) (16) dX6_chance_17 rfl (by decide) ?_
    refine wp_icmp_ge (pc' := 22) (tgt := 42) dX6_chance_19 rfl rfl (fun c19 => by exfalso; (simp (disch := omega) only [Int32.lt_iff_toInt_lt, Int32.le_iff_toInt_le, ← Int32.toInt_inj, nI_toInt, il_0, il_1, il_2, il_3, il_4, il_5, il_6, il_8, il_9, il_10, il_16, il_26, il_32, il_40, il_n4, il_n1, il_n2, il_11, il_48, il_57, il_59, il_44, il_126, il_200, il_9999, il_66666, il_10000, il_1000000, il_15, il_12, il_256, il_4096, il_53, il_52] at c19; omega)) (fun c19 => ?_)
    refine wp_aload_n_0 (pc' := 23) dX6_chance_22 rfl ?_
    refine wp_get_6_1 (pc' := 26) (by omega) rfl rfl me_X6_chance_0 ic_X6_chance_6 dX6_chance_23 rfl ?_
    refine wp_iload_6 (pc' := 28) dX6_chance_26 rfl ?_
    refine wp_iload_5 (pc' := 30) dX6_chance_28 rfl ?_
    refine wp_iload_6 (pc' := 32) dX6_chance_30 rfl ?_
    refine wp_ishr (pc' := 33) dX6_chance_32 rfl ?_
    refine wp_iconst (pc' := 34) (1) dX6_chance_33 rfl (by decide) ?_
    refine wp_iand (pc' := 35) dX6_chance_34 rfl ?_
    rw [S_test g (by omega), b2i_one]
    refine wp_iast (pc' := 36) (N := 16) (by omega) rfl rfl (by first | exact vp_in_nI (by omega) (by omega) | assumption | (unfold vp_in; decide)) dX6_chance_35 rfl ?_
    refine wp_iinc_6 (pc' := 39) (v := nI (i + 1)) dX6_chance_36 (by first | rfl | exact nI_1 _) (by decide) rfl rfl ?_
    refine wp_goto (tgt := 15) dX6_chance_39 rfl ?_
    rw [nI_clamp (by omega)]
    refine ih (i + 1) (by omega) _ (fun a ha => by rw [hup_cell ha]; exact e0 a ha) (fun j hj => ?_)
    by_cases e : j = i
    · subst e; rw [hup_at]
    · rw [hup_off e]; exact e1 j (by omega)
theorem lp_X6_ch1 {R C w m : Nat} {mk ρ : Nat → Nat} {a5 : Int32} {post : PO} (hn : 89 ≤ n) (H0 : Hp) (q0 : ShL H0 11 R C) (sp0 : Sp H0 R C mk) (xr0 : XR H0 18 ρ) (ok : RowOK ρ) (hw : w < ρ 16) (hm : m < sw ρ w) (hm5 : m < 5)
    (K : ∀ h', (∀ a, a ≠ 84 → a ≠ 85 → h' a = H0 a) → (∀ i, i < 16 → h' 84 i = nI (odP R C mk (fun i => ρ (19 + 7 * w + i)) m i)) → ∀ a8, WP l D cy B cX6_chance 11 RX6 wsX6_chance rmX6_chance (some .int) (QE0 D cy B n 0 0 (post)) EX0 n (rf0 π) h' lg 0 0 95 [some (.ref (B + 82)), some (.ref (B + 10)), some (.ref (B + 18)), some (.int (nI w)), some (.int (nI m)), some (.int a5), some (.long (lI (R * C * 12 ^ m))), none, a8, none, none] []) :
    ∀ d i : Nat, i + d = m → ∀ h', (∀ a, a ≠ 84 → a ≠ 85 → h' a = H0 a) → (∀ j, j < 16 → h' 84 j = nI (odP R C mk (fun i => ρ (19 + 7 * w + i)) i j)) → WP l D cy B cX6_chance 11 RX6 wsX6_chance rmX6_chance (some .int) (QE0 D cy B n 0 0 (post)) EX0 n (rf0 π) h' lg 0 0 55 [some (.ref (B + 82)), some (.ref (B + 10)), some (.ref (B + 18)), some (.int (nI w)), some (.int (nI m)), some (.int a5), some (.long (lI (R * C * 12 ^ i))), none, some (.int (nI (i + 1))), none, none] [] := by
  have hs : St 18 := by unfold St; decide
  intro d
  induction d with
  | zero =>
    intro i hi h' e0 e1
    have : i = m := by omega
    subst this
    refine wp_iload_8 (pc' := 57) dX6_chance_55 rfl ?_
    refine wp_iload_4 (pc' := 59) dX6_chance_57 rfl ?_
    refine wp_icmp_gt (pc' := 62) (tgt := 95) dX6_chance_59 rfl rfl (fun c59 => ?_) (fun c59 => by exfalso; (simp (disch := omega) only [Int32.lt_iff_toInt_lt, Int32.le_iff_toInt_le, ← Int32.toInt_inj, nI_toInt, il_0, il_1, il_2, il_3, il_4, il_5, il_6, il_8, il_9, il_10, il_16, il_26, il_32, il_40, il_n4, il_n1, il_n2, il_11, il_48, il_57, il_59, il_44, il_126, il_200, il_9999, il_66666, il_10000, il_1000000, il_15, il_12, il_256, il_4096, il_53, il_52] at c59; omega))
    exact K h' e0 e1 _
  | succ d ih =>
    intro i hi h' e0 e1
    have q := q0.of_eq (e0 11 (by decide) (by decide))
    have sp := sp0.of_eq (e0 13 (by decide) (by decide))
    have xr := xr0.congr (h' := h') (fun a h1 h2 => e0 a (by omega) (by omega))
    have m5 := (ok.2.2 w hw).2.2.2 (i + 1) (by have : sw ρ w = ρ (18 + 7 * w) := rfl; omega)
    refine wp_iload_8 (pc' := 57) dX6_chance_55 rfl ?_
    refine wp_iload_4 (pc' := 59) dX6_chance_57 rfl ?_
    refine wp_icmp_gt (pc' := 62) (tgt := 95) dX6_chance_59 rfl rfl (fun c59 => by exfalso; (simp (disch := omega) only [Int32.lt_iff_toInt_lt, Int32.le_iff_toInt_le, ← Int32.toInt_inj, nI_toInt, il_0, il_1, il_2, il_3, il_4, il_5, il_6, il_8, il_9, il_10, il_16, il_26, il_32, il_40, il_n4, il_n1, il_n2, il_11, il_48, il_57, il_59, il_44, il_126, il_200, il_9999, il_66666, il_10000, il_1000000, il_15, il_12, il_256, il_4096, il_53, il_52] at c59; omega)) (fun c59 => ?_)
    refine wp_aload_n_0 (pc' := 63) dX6_chance_62 rfl ?_
    refine wp_aload_n_1 (pc' := 64) dX6_chance_63 rfl ?_
    refine wp_get_0_0 (pc' := 67) (by omega) rfl rfl me_X6_chance_1 ic_X6_chance_0 dX6_chance_64 rfl ?_
    refine wp_aload_n_1 (pc' := 68) dX6_chance_67 rfl ?_
    refine wp_aload_n_2 (pc' := 69) dX6_chance_68 rfl ?_
    refine wp_iload_n_3 (pc' := 70) dX6_chance_69 rfl ?_
    refine wp_iload_8 (pc' := 72) dX6_chance_70 rfl ?_
    refine wp_callVu (pc' := 75) (c_toldMark hn hs xr ok hw (by omega)) gX6_chance_X5_toldMark rfl rfl hy_X5_toldMark ⟨Nat.le_of_ble_eq_true rfl, Nat.le_of_ble_eq_true rfl⟩ ⟨rfl, rfl⟩ (Nat.le_of_ble_eq_true rfl) ⟨Nat.le_of_ble_eq_true rfl, Nat.le_of_ble_eq_true rfl⟩ (by omega) (ce5 rfl) rfl rfl dX6_chance_72 rfl ?_
    refine wp_callVu (pc' := 78) (c_X0_placesOf hn sp (by omega)) gX6_chance_X0_placesOf rfl rfl hy_X0_placesOf ⟨Nat.le_of_ble_eq_true rfl, Nat.le_of_ble_eq_true rfl⟩ ⟨rfl, rfl⟩ (Nat.le_of_ble_eq_true rfl) ⟨Nat.le_of_ble_eq_true rfl, Nat.le_of_ble_eq_true rfl⟩ (by omega) (ce0 rfl) rfl rfl dX6_chance_75 rfl ?_
    refine wp_callVv (pc' := 81) (c_X6_goOn (od := odP R C mk (fun i => ρ (19 + 7 * w + i)) i) hn q e1) gX6_chance_X6_goOn rfl rfl hy_X6_goOn ⟨Nat.le_of_ble_eq_true rfl, Nat.le_of_ble_eq_true rfl⟩ ⟨rfl, rfl⟩ (Nat.le_of_ble_eq_true rfl) ⟨Nat.le_of_ble_eq_true rfl, Nat.le_of_ble_eq_true rfl⟩ (by omega) (ce6 rfl) rfl rfl dX6_chance_78 rfl (fun h78 q78 => ?_)
    refine wp_lload_6 (pc' := 83) dX6_chance_81 rfl ?_
    refine wp_ldc2 (pc' := 86) (v := (12)) me_X6_chance_2 dX6_chance_83 rfl ?_
    refine wp_lmul (pc' := 87) dX6_chance_86 rfl ?_
    rw [show (12 : Int64) = lI 12 from rfl, lI_mul, show R * C * 12 ^ i * 12 = R * C * 12 ^ (i + 1) by rw [Nat.pow_succ, Nat.mul_assoc]]
    refine wp_lstore_6 (pc' := 89) dX6_chance_87 (by decide) rfl rfl ?_
    refine wp_iinc_8 (pc' := 92) (v := nI (i + 1 + 1)) dX6_chance_89 (by first | rfl | exact nI_1 _) (by decide) rfl rfl ?_
    refine wp_goto (tgt := 55) dX6_chance_92 rfl ?_
    exact ih (i + 1) (by omega) _ (fun a h1 h2 => by rw [q78.1 a h1 h2]; exact e0 a h1 h2) q78.2
theorem lp_X6_ch2 {R C w m : Nat} {mk t : Nat → Nat} {a5 : Int32} {post : PO} (hn : 89 ≤ n) (hS : Sh R C) (hm5 : m ≤ 4) (he : ∀ i, i < 16 → h 84 i = nI (odP R C mk t m i))
    (K : post (some (.int (chQ R C mk t m))) (rf0 π) h lg) :
    ∀ d i : Nat, i + d = 16 → WP l D cy B cX6_chance 11 RX6 wsX6_chance rmX6_chance (some .int) (QE0 D cy B n 0 0 (post)) EX0 n (rf0 π) h lg 0 0 101 [some (.ref (B + 82)), some (.ref (B + 10)), some (.ref (B + 18)), some (.int (nI w)), some (.int (nI m)), some (.int a5), some (.long (lI (R * C * 12 ^ m))), none, some (.long (lI (sumN i (odP R C mk t m)))), none, some (.int (nI i))] [] := by
  have hp : ∀ m, m ≤ 4 → 1 ≤ 12 ^ m ∧ 12 ^ m ≤ 20736 ∧ 192 ^ m ≤ 1358954496 := by decide
  obtain ⟨p1, p2, p3⟩ := hp m hm5
  have hl := hS.le
  have hl4 := hS.pos
  have w1 : R * C * 1 ≤ R * C * 12 ^ m := Nat.mul_le_mul_left _ p1
  have w2 : R * C * 12 ^ m ≤ 16 * 20736 := Nat.mul_le_mul hl p2
  intro d
  induction d with
  | zero =>
    intro i hi
    have : i = 16 := by omega
    subst this
    refine wp_iload_10 (pc' := 103) dX6_chance_101 rfl ?_
    refine wp_bipush (pc' := 105) (16) dX6_chance_103 rfl (by decide) ?_
    refine wp_icmp_ge (pc' := 108) (tgt := 127) dX6_chance_105 rfl rfl (fun c105 => ?_) (fun c105 => by exfalso; exact c105 (by decide))
    refine wp_lload_6 (pc' := 129) dX6_chance_127 rfl ?_
    refine wp_lconst (pc' := 130) (0) dX6_chance_129 rfl (by decide) ?_
    refine wp_lcmp (pc' := 131) dX6_chance_130 rfl ?_
    refine wp_if_gt (pc' := 134) (tgt := 138) dX6_chance_131 rfl rfl (fun c131 => ?_) (fun c131 => by exfalso; exact c131 ((lg_cmp_gt _ _).mpr (lI_pos (by omega) (by omega))))
    refine wp_ldc2 (pc' := 141) (v := (100000)) me_X6_chance_3 dX6_chance_138 rfl ?_
    refine wp_lload_8 (pc' := 143) dX6_chance_141 rfl ?_
    refine wp_lmul (pc' := 144) dX6_chance_143 rfl ?_
    refine wp_lload_6 (pc' := 146) dX6_chance_144 rfl ?_
    refine wp_ldiv (pc' := 147) dX6_chance_146 rfl (lI_ne0 (by omega) (by omega)) ?_
    refine wp_l2i (pc' := 148) dX6_chance_147 rfl ?_
    refine wp_ireturn dX6_chance_148 rfl rfl (Nat.le_refl _) (Nat.le_refl _) ?_
    exact K
  | succ d ih =>
    intro i hi
    have o := odP_le (mk := mk) (t := t) hS m i
    refine wp_iload_10 (pc' := 103) dX6_chance_101 rfl ?_
    refine wp_bipush (pc' := 105) (16) dX6_chance_103 rfl (by decide) ?_
    refine wp_icmp_ge (pc' := 108) (tgt := 127) dX6_chance_105 rfl rfl (fun c105 => by exfalso; (simp (disch := omega) only [Int32.lt_iff_toInt_lt, Int32.le_iff_toInt_le, ← Int32.toInt_inj, nI_toInt, il_0, il_1, il_2, il_3, il_4, il_5, il_6, il_8, il_9, il_10, il_16, il_26, il_32, il_40, il_n4, il_n1, il_n2, il_11, il_48, il_57, il_59, il_44, il_126, il_200, il_9999, il_66666, il_10000, il_1000000, il_15, il_12, il_256, il_4096, il_53, il_52] at c105; omega)) (fun c105 => ?_)
    refine wp_lload_8 (pc' := 110) dX6_chance_108 rfl ?_
    refine wp_aload_n_0 (pc' := 111) dX6_chance_110 rfl ?_
    refine wp_get_6_1 (pc' := 114) (by omega) rfl rfl me_X6_chance_0 ic_X6_chance_6 dX6_chance_111 rfl ?_
    refine wp_iload_10 (pc' := 116) dX6_chance_114 rfl ?_
    refine wp_iald (pc' := 117) (N := 16) (by omega) rfl rfl (by first | exact vp_in_nI (by omega) (by omega) | assumption | (unfold vp_in; decide)) dX6_chance_116 rfl ?_
    rw [nI_clamp (by omega), he i (by omega)]
    refine wp_i2l (pc' := 118) dX6_chance_117 rfl ?_
    rw [nI_long (by omega)]
    refine wp_ladd (pc' := 119) dX6_chance_118 rfl ?_
    rw [lI_add, show sumN i (odP R C mk t m) + odP R C mk t m i = sumN (i + 1) (odP R C mk t m) from rfl]
    refine wp_lstore_8 (pc' := 121) dX6_chance_119 (by decide) rfl rfl ?_
    refine wp_iinc_10 (pc' := 124) (v := nI (i + 1)) dX6_chance_121 (by first | rfl | exact nI_1 _) (by decide) rfl rfl ?_
    refine wp_goto (tgt := 101) dX6_chance_124 rfl ?_
    exact ih (i + 1) (by omega)
theorem c_X6_chance {R C w m : Nat} {mk ρ : Nat → Nat} (hn : 89 ≤ n) (q : ShL h 11 R C) (sp : Sp h R C mk) (xr : XR h 18 ρ) (ok : RowOK ρ) (hw : w < ρ 16) (hm : m < sw ρ w) (hm5 : m < 5) : Ctr l D cy B yX6_chance wsX6_chance rmX6_chance 0 0 n (rf0 π) h lg [.ref (B + 82), .ref (B + 10), .ref (B + 18), .int (nI w), .int (nI m)] (qI (fun x h' => (∀ a, a ≠ 84 → a ≠ 85 → h' a = h a) ∧ x = chQ R C mk (fun i => ρ (19 + 7 * w + i)) m) (rf0 π) lg) := by
  have hs : St 18 := by unfold St; decide
  have hl := q.1.le
  have m5 := (ok.2.2 w hw).2.2.2 0 (by have : sw ρ w = ρ (18 + 7 * w) := rfl; omega)
  refine Ctr.of (cc := cX6_chance) (nL := 11) (own := RX6) (rt := (some .int)) (ls := [some (.ref (B + 82)), some (.ref (B + 10)), some (.ref (B + 18)), some (.int (nI w)), some (.int (nI m)), none, none, none, none, none, none]) (by decide) rfl rfl (Nat.le_of_ble_eq_true rfl) rfl ?_
  refine wp_aload_n_1 (pc' := 1) dX6_chance_0 rfl ?_
  refine wp_aload_n_2 (pc' := 2) dX6_chance_1 rfl ?_
  refine wp_iload_n_3 (pc' := 3) dX6_chance_2 rfl ?_
  refine wp_iconst (pc' := 4) (0) dX6_chance_3 rfl (by decide) ?_
  refine wp_callVu (pc' := 7) (c_toldMark (i := 0) hn hs xr ok hw (by omega)) gX6_chance_X5_toldMark rfl rfl hy_X5_toldMark ⟨Nat.le_of_ble_eq_true rfl, Nat.le_of_ble_eq_true rfl⟩ ⟨rfl, rfl⟩ (Nat.le_of_ble_eq_true rfl) ⟨Nat.le_of_ble_eq_true rfl, Nat.le_of_ble_eq_true rfl⟩ (by omega) (ce5 rfl) rfl rfl dX6_chance_4 rfl ?_
  refine wp_callVu (pc' := 10) (c_X0_placesOf hn sp (by omega)) gX6_chance_X0_placesOf rfl rfl hy_X0_placesOf ⟨Nat.le_of_ble_eq_true rfl, Nat.le_of_ble_eq_true rfl⟩ ⟨rfl, rfl⟩ (Nat.le_of_ble_eq_true rfl) ⟨Nat.le_of_ble_eq_true rfl, Nat.le_of_ble_eq_true rfl⟩ (by omega) (ce0 rfl) rfl rfl dX6_chance_7 rfl ?_
  refine wp_istore_5 (pc' := 12) dX6_chance_10 (by decide) rfl rfl ?_
  refine wp_iconst (pc' := 13) (0) dX6_chance_12 rfl (by decide) ?_
  refine wp_istore_6 (pc' := 15) dX6_chance_13 (by decide) rfl rfl ?_
  refine lp_X6_ch0 hn h (fun h' e0 e1 a6 => ?_) 16 0 (by omega) h (fun _ _ => rfl) (fun j hj => by omega)
  have q' := q.of_eq (h' := h') (e0 11 (by decide))
  refine wp_aload_n_1 (pc' := 43) dX6_chance_42 rfl ?_
  refine wp_get_0_0 (pc' := 46) (by omega) rfl rfl me_X6_chance_1 ic_X6_chance_0 dX6_chance_43 rfl ?_
  refine wp_callVu (pc' := 49) (c_X1_places hn la11) gX6_chance_X1_places rfl rfl hy_X1_places ⟨Nat.le_of_ble_eq_true rfl, Nat.le_of_ble_eq_true rfl⟩ ⟨rfl, rfl⟩ (Nat.le_of_ble_eq_true rfl) ⟨Nat.le_of_ble_eq_true rfl, Nat.le_of_ble_eq_true rfl⟩ (by omega) (ce1 rfl) rfl rfl dX6_chance_46 rfl ?_
  rw [q'.places]
  refine wp_i2l (pc' := 50) dX6_chance_49 rfl ?_
  rw [nI_long (by omega), show R * C = R * C * 12 ^ 0 from (Nat.mul_one _).symm]
  refine wp_lstore_6 (pc' := 52) dX6_chance_50 (by decide) rfl rfl ?_
  refine wp_iconst (pc' := 53) (1) dX6_chance_52 rfl (by decide) ?_
  refine wp_istore_8 (pc' := 55) dX6_chance_53 (by decide) rfl rfl ?_
  refine lp_X6_ch1 (R := R) (C := C) (mk := mk) hn h q sp xr ok hw hm hm5 (fun h2 f0 f1 a8 => ?_) m 0 (by omega) h' (fun a h1 h2 => e0 a h1) e1
  refine wp_lconst (pc' := 96) (0) dX6_chance_95 rfl (by decide) ?_
  refine wp_lstore_8 (pc' := 98) dX6_chance_96 (by decide) rfl rfl ?_
  refine wp_iconst (pc' := 99) (0) dX6_chance_98 rfl (by decide) ?_
  refine wp_istore_10 (pc' := 101) dX6_chance_99 (by decide) rfl rfl ?_
  exact lp_X6_ch2 hn q.1 (by omega) f1 (qI_of ⟨f0, rfl⟩) 16 0 (by omega)
end VT5

