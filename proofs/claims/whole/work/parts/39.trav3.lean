abbrev rmX6_goOn : Room := { frames := 2, cells := 0, slots := 0, locals := 43 }
theorem hy_X6_goOn : yX6_goOn.cls = RX6 ∧ yX6_goOn.cls ≠ "java/lang/invoke/MethodHandle" ∧ yX6_goOn.cls ≠ "java/lang/invoke/VarHandle" ∧ (parseMethodDescriptor yX6_goOn.desc).map (fun d => d.parameters.length) = some 2 := by decide +kernel
theorem hz_X6_goOn : yX6_goOn.cls ≠ "java/lang/invoke/MethodHandle" ∧ yX6_goOn.cls ≠ "java/lang/invoke/VarHandle" ∧ (parseMethodDescriptor yX6_goOn.desc).map (fun d => d.parameters.length) = some 2 := by decide +kernel
theorem me_X6_goOn_0 : Cond.fieldLink RX6 18 "DrawnByLost$Traveller" "later" "[I" ∈ wsX6_goOn := by decide +kernel
theorem me_X6_goOn_1 : Cond.fieldLink RX6 15 "DrawnByLost$Traveller" "odds" "[I" ∈ wsX6_goOn := by decide +kernel
theorem me_X6_goOn_2 : Cond.methodLink RX6 79 arraycopyName ∈ wsX6_goOn := by decide +kernel
theorem me_X6_goOn_3 : Cond.native arraycopyName ∈ wsX6_goOn := by decide +kernel
theorem me_X6_goOn_4 : Cond.static arraycopyName ∈ wsX6_goOn := by decide +kernel
theorem me_X6_goOn_5 : Cond.initialized "java/lang/System" ∈ wsX6_goOn := by decide +kernel
theorem ic_X6_goOn_6 : ∀ w ∈ wsX60, w ∈ wsX6_goOn := by decide +kernel
-- Traveller: going on by chance
section VT3
variable {l : Launch} {D : va_G} {cy : CY} {B n : Nat} {h : Hp} {lg : Lg} {π : Nat → Nat}
theorem div12 : ∀ b, b < 17 → (12 : Int32) / nI b = nI (12 / b) := by decide
theorem cnt_le (f : Nat → Bool) : cnt f ≤ 16 := by
  have w : cnt f ≤ 16 * 1 := sumN_le fun i _ => one_le _
  omega
def shr (R C : Nat) (od : Nat → Nat) (x : Nat) : Nat := od x * (12 / cnt (nbr R C x))
def laP (R C : Nat) (g : Nat → Bool) (od : Nat → Nat) (p y : Nat) : Nat := sumN p (fun x => one (nbr R C x y && g y) * shr R C od x)
theorem laP_s (R C : Nat) (g : Nat → Bool) (od : Nat → Nat) (p y : Nat) : laP R C g od (p + 1) y = laP R C g od p y + one (nbr R C p y && g y) * shr R C od p := rfl
theorem lp_X6_goIn {R C x : Nat} {g : Nat → Bool} {od : Nat → Nat} {post : PO} (hn : 89 ≤ n) (H0 : Hp)
    (K : ∀ h', (∀ a, a ≠ 85 → h' a = H0 a) → (∀ i, i < 16 → h' 85 i = nI (laP R C g od (x + 1) i)) → ∀ a7, WP l D cy B cX6_goOn 8 RX6 wsX6_goOn rmX6_goOn none (QE0 D cy B n 0 0 (post)) EX0 n (rf0 π) h' lg 0 0 116 [some (.ref (B + 82)), some (.ref (B + 11)), some (.int (S g)), some (.int (nI x)), some (.int (S (nbr R C x))), some (.int (nI (cnt (nbr R C x)))), some (.int (nI (shr R C od x))), a7] []) :
    ∀ d j : Nat, j + d = 16 → ∀ h', (∀ a, a ≠ 85 → h' a = H0 a) → (∀ i, i < 16 → h' 85 i = nI (if i < j then laP R C g od (x + 1) i else laP R C g od x i)) → WP l D cy B cX6_goOn 8 RX6 wsX6_goOn rmX6_goOn none (QE0 D cy B n 0 0 (post)) EX0 n (rf0 π) h' lg 0 0 79 [some (.ref (B + 82)), some (.ref (B + 11)), some (.int (S g)), some (.int (nI x)), some (.int (S (nbr R C x))), some (.int (nI (cnt (nbr R C x)))), some (.int (nI (shr R C od x))), some (.int (nI j))] [] := by
  intro d
  induction d with
  | zero =>
    intro j hj h' e0 e1
    have : j = 16 := by omega
    subst this
    refine wp_iload_7 (pc' := 81) dX6_goOn_79 rfl ?_
    refine wp_bipush (pc' := 83) (16) dX6_goOn_81 rfl (by decide) ?_
    refine wp_icmp_ge (pc' := 86) (tgt := 116) dX6_goOn_83 rfl rfl (fun c83 => ?_) (fun c83 => by exfalso; exact c83 (by decide))
    exact K h' e0 (fun i hi => by rw [e1 i hi, if_pos hi]) _
  | succ d ih =>
    intro j hj h' e0 e1
    have w := e1 j (by omega)
    rw [if_neg (by omega)] at w
    refine wp_iload_7 (pc' := 81) dX6_goOn_79 rfl ?_
    refine wp_bipush (pc' := 83) (16) dX6_goOn_81 rfl (by decide) ?_
    refine wp_icmp_ge (pc' := 86) (tgt := 116) dX6_goOn_83 rfl rfl (fun c83 => by exfalso; (simp (disch := omega) only [Int32.lt_iff_toInt_lt, Int32.le_iff_toInt_le, ← Int32.toInt_inj, nI_toInt, il_0, il_1, il_2, il_3, il_4, il_5, il_6, il_8, il_9, il_10, il_16, il_26, il_32, il_40, il_n4, il_n1, il_n2, il_11, il_48, il_57, il_59, il_44, il_126, il_200, il_9999, il_66666, il_10000, il_1000000, il_15, il_12, il_256, il_4096, il_53, il_52] at c83; omega)) (fun c83 => ?_)
    refine wp_iload_4 (pc' := 88) dX6_goOn_86 rfl ?_
    refine wp_iload_n_2 (pc' := 89) dX6_goOn_88 rfl ?_
    refine wp_iand (pc' := 90) dX6_goOn_89 rfl ?_
    rw [S_and]
    refine wp_iconst (pc' := 91) (1) dX6_goOn_90 rfl (by decide) ?_
    refine wp_iload_7 (pc' := 93) dX6_goOn_91 rfl ?_
    refine wp_ishl (pc' := 94) dX6_goOn_93 rfl ?_
    rw [S_one (by omega)]
    refine wp_iand (pc' := 95) dX6_goOn_94 rfl ?_
    rw [S_and]
    refine wp_if_eq (pc' := 98) (tgt := 110) dX6_goOn_95 rfl rfl (fun c95 => ?_) (fun c95 => ?_)
    · skip -- 95 taken
      refine wp_iinc_7 (pc' := 113) (v := nI (j + 1)) dX6_goOn_110 (by first | rfl | exact nI_1 _) (by decide) rfl rfl ?_
      refine wp_goto (tgt := 79) dX6_goOn_113 rfl ?_
      refine ih (j + 1) (by omega) h' e0 (fun i hi => ?_)
      rw [e1 i hi]
      by_cases e : i = j
      · subst e
        have z := S_eq0.mp c95 i hi
        simp only [decide_true, Bool.and_true] at z
        rw [if_neg (by omega), if_pos (by omega), laP_s, z]
        simp [one]
      · by_cases q : i < j
        · rw [if_pos q, if_pos (by omega)]
        · rw [if_neg q, if_neg (by omega)]
    · skip -- 95 not taken
      refine wp_aload_n_0 (pc' := 99) dX6_goOn_98 rfl ?_
      refine wp_get_6_2 (pc' := 102) (by omega) rfl rfl me_X6_goOn_0 ic_X6_goOn_6 dX6_goOn_99 rfl ?_
      refine wp_iload_7 (pc' := 104) dX6_goOn_102 rfl ?_
      refine wp_dup2 (pc' := 105) dX6_goOn_104 rfl rfl rfl ?_
      refine wp_iald (pc' := 106) (N := 16) (by omega) rfl rfl (by first | exact vp_in_nI (by omega) (by omega) | assumption | (unfold vp_in; decide)) dX6_goOn_105 rfl ?_
      rw [nI_clamp (by omega), w]
      refine wp_iload_6 (pc' := 108) dX6_goOn_106 rfl ?_
      refine wp_iadd (pc' := 109) dX6_goOn_108 rfl ?_
      rw [nI_add]
      refine wp_iast (pc' := 110) (N := 16) (by omega) rfl rfl (by first | exact vp_in_nI (by omega) (by omega) | assumption | (unfold vp_in; decide)) dX6_goOn_109 rfl ?_
      refine wp_iinc_7 (pc' := 113) (v := nI (j + 1)) dX6_goOn_110 (by first | rfl | exact nI_1 _) (by decide) rfl rfl ?_
      refine wp_goto (tgt := 79) dX6_goOn_113 rfl ?_
      rw [nI_clamp (by omega)]
      refine ih (j + 1) (by omega) _ (fun a ha => by rw [hup_cell ha]; exact e0 a ha) (fun i hi => ?_)
      by_cases e : i = j
      · subst e
        have z : (nbr R C x i && g i) = true := by
          cases z : (nbr R C x i && g i)
          · exfalso
            apply c95
            rw [S_eq0]
            intro i' hi'
            by_cases e' : i' = i
            · subst e'; rw [z]; rfl
            · simp [e']
          · rfl
        rw [hup_at, if_pos (by omega), laP_s, z]
        simp [one]
      · rw [hup_off e, e1 i hi]
        by_cases q : i < j
        · rw [if_pos q, if_pos (by omega)]
        · rw [if_neg q, if_neg (by omega)]
theorem lp_X6_goOut {R C : Nat} {g : Nat → Bool} {od : Nat → Nat} {post : PO} (hn : 89 ≤ n) (H0 : Hp) (q0 : ShL H0 11 R C) (o0 : ∀ i, i < 16 → H0 84 i = nI (od i))
    (K : ∀ h', (∀ a, a ≠ 85 → h' a = H0 a) → (∀ i, i < 16 → h' 85 i = nI (laP R C g od (R * C) i)) → ∀ a3 a4 a5 a6 a7, WP l D cy B cX6_goOn 8 RX6 wsX6_goOn rmX6_goOn none (QE0 D cy B n 0 0 (post)) EX0 n (rf0 π) h' lg 0 0 122 [some (.ref (B + 82)), some (.ref (B + 11)), some (.int (S g)), a3, a4, a5, a6, a7] []) :
    ∀ d x : Nat, x + d = R * C → ∀ h', (∀ a, a ≠ 85 → h' a = H0 a) → (∀ i, i < 16 → h' 85 i = nI (laP R C g od x i)) → ∀ a4 a5 a6 a7, WP l D cy B cX6_goOn 8 RX6 wsX6_goOn rmX6_goOn none (QE0 D cy B n 0 0 (post)) EX0 n (rf0 π) h' lg 0 0 23 [some (.ref (B + 82)), some (.ref (B + 11)), some (.int (S g)), some (.int (nI x)), a4, a5, a6, a7] [] := by
  have hl := q0.1.le
  intro d
  induction d with
  | zero =>
    intro x hx h' e0 e1 a4 a5 a6 a7
    have q := q0.of_eq (e0 11 (by decide))
    have e : x = R * C := by omega
    subst e
    refine wp_iload_n_3 (pc' := 24) dX6_goOn_23 rfl ?_
    refine wp_aload_n_1 (pc' := 25) dX6_goOn_24 rfl ?_
    refine wp_callVu (pc' := 28) (c_X1_places hn la11) gX6_goOn_X1_places rfl rfl hy_X1_places ⟨Nat.le_of_ble_eq_true rfl, Nat.le_of_ble_eq_true rfl⟩ ⟨rfl, rfl⟩ (Nat.le_of_ble_eq_true rfl) ⟨Nat.le_of_ble_eq_true rfl, Nat.le_of_ble_eq_true rfl⟩ (by omega) (ce1 rfl) rfl rfl dX6_goOn_25 rfl ?_
    rw [q.places]
    refine wp_icmp_ge (pc' := 31) (tgt := 122) dX6_goOn_28 rfl rfl (fun c28 => ?_) (fun c28 => by exfalso; (simp (disch := omega) only [Int32.lt_iff_toInt_lt, Int32.le_iff_toInt_le, ← Int32.toInt_inj, nI_toInt, il_0, il_1, il_2, il_3, il_4, il_5, il_6, il_8, il_9, il_10, il_16, il_26, il_32, il_40, il_n4, il_n1, il_n2, il_11, il_48, il_57, il_59, il_44, il_126, il_200, il_9999, il_66666, il_10000, il_1000000, il_15, il_12, il_256, il_4096, il_53, il_52] at c28; omega))
    exact K h' e0 e1 _ _ _ _ _
  | succ d ih =>
    intro x hx h' e0 e1 a4 a5 a6 a7
    have q := q0.of_eq (e0 11 (by decide))
    have hxR : x < R * C := by omega
    have o1 : h' 84 x = nI (od x) := by rw [e0 84 (by decide)]; exact o0 x (by omega)
    have hc := cnt_le (nbr R C x)
    have key : ∀ a6, WP l D cy B cX6_goOn 8 RX6 wsX6_goOn rmX6_goOn none (QE0 D cy B n 0 0 (post)) EX0 n (rf0 π) h' lg 0 0 74 [some (.ref (B + 82)), some (.ref (B + 11)), some (.int (S g)), some (.int (nI x)), some (.int (S (nbr R C x))), some (.int (nI (cnt (nbr R C x)))), a6, a7] [.int (nI (shr R C od x))] := by
      intro a6
      have K2 : ∀ h2, (∀ a, a ≠ 85 → h2 a = h' a) → (∀ i, i < 16 → h2 85 i = nI (laP R C g od (x + 1) i)) → ∀ a7, WP l D cy B cX6_goOn 8 RX6 wsX6_goOn rmX6_goOn none (QE0 D cy B n 0 0 (post)) EX0 n (rf0 π) h2 lg 0 0 116 [some (.ref (B + 82)), some (.ref (B + 11)), some (.int (S g)), some (.int (nI x)), some (.int (S (nbr R C x))), some (.int (nI (cnt (nbr R C x)))), some (.int (nI (shr R C od x))), a7] [] := by
        intro h2 f0 f1 a7
        refine wp_iinc_3 (pc' := 119) (v := nI (x + 1)) dX6_goOn_116 (by first | rfl | exact nI_1 _) (by decide) rfl rfl ?_
        refine wp_goto (tgt := 23) dX6_goOn_119 rfl ?_
        exact ih (x + 1) (by omega) h2 (fun a ha => (f0 a ha).trans (e0 a ha)) f1 _ _ _ _
      refine wp_istore_6 (pc' := 76) dX6_goOn_74 (by decide) rfl rfl ?_
      refine wp_iconst (pc' := 77) (0) dX6_goOn_76 rfl (by decide) ?_
      refine wp_istore_7 (pc' := 79) dX6_goOn_77 (by decide) rfl rfl ?_
      exact lp_X6_goIn hn h' K2 16 0 (by omega) h' (fun _ _ => rfl) (fun i hi => by rw [if_neg (by omega)]; exact e1 i hi)
    refine wp_iload_n_3 (pc' := 24) dX6_goOn_23 rfl ?_
    refine wp_aload_n_1 (pc' := 25) dX6_goOn_24 rfl ?_
    refine wp_callVu (pc' := 28) (c_X1_places hn la11) gX6_goOn_X1_places rfl rfl hy_X1_places ⟨Nat.le_of_ble_eq_true rfl, Nat.le_of_ble_eq_true rfl⟩ ⟨rfl, rfl⟩ (Nat.le_of_ble_eq_true rfl) ⟨Nat.le_of_ble_eq_true rfl, Nat.le_of_ble_eq_true rfl⟩ (by omega) (ce1 rfl) rfl rfl dX6_goOn_25 rfl ?_
    rw [q.places]
    refine wp_icmp_ge (pc' := 31) (tgt := 122) dX6_goOn_28 rfl rfl (fun c28 => by exfalso; (simp (disch := omega) only [Int32.lt_iff_toInt_lt, Int32.le_iff_toInt_le, ← Int32.toInt_inj, nI_toInt, il_0, il_1, il_2, il_3, il_4, il_5, il_6, il_8, il_9, il_10, il_16, il_26, il_32, il_40, il_n4, il_n1, il_n2, il_11, il_48, il_57, il_59, il_44, il_126, il_200, il_9999, il_66666, il_10000, il_1000000, il_15, il_12, il_256, il_4096, il_53, il_52] at c28; omega)) (fun c28 => ?_)
    refine wp_iload_n_3 (pc' := 32) dX6_goOn_31 rfl ?_
    refine wp_bipush (pc' := 34) (16) dX6_goOn_32 rfl (by decide) ?_
    refine wp_icmp_ge (pc' := 37) (tgt := 122) dX6_goOn_34 rfl rfl (fun c34 => by exfalso; (simp (disch := omega) only [Int32.lt_iff_toInt_lt, Int32.le_iff_toInt_le, ← Int32.toInt_inj, nI_toInt, il_0, il_1, il_2, il_3, il_4, il_5, il_6, il_8, il_9, il_10, il_16, il_26, il_32, il_40, il_n4, il_n1, il_n2, il_11, il_48, il_57, il_59, il_44, il_126, il_200, il_9999, il_66666, il_10000, il_1000000, il_15, il_12, il_256, il_4096, il_53, il_52] at c34; omega)) (fun c34 => ?_)
    refine wp_aload_n_1 (pc' := 38) dX6_goOn_37 rfl ?_
    refine wp_iconst (pc' := 39) (1) dX6_goOn_38 rfl (by decide) ?_
    refine wp_iload_n_3 (pc' := 40) dX6_goOn_39 rfl ?_
    refine wp_ishl (pc' := 41) dX6_goOn_40 rfl ?_
    rw [S_one (by omega)]
    refine wp_callVu (pc' := 44) (c_X1_beside hn la11 q (sup_one hxR)) gX6_goOn_X1_beside rfl rfl hy_X1_beside ⟨Nat.le_of_ble_eq_true rfl, Nat.le_of_ble_eq_true rfl⟩ ⟨rfl, rfl⟩ (Nat.le_of_ble_eq_true rfl) ⟨Nat.le_of_ble_eq_true rfl, Nat.le_of_ble_eq_true rfl⟩ (by omega) (ce1 rfl) rfl rfl dX6_goOn_41 rfl ?_
    rw [S_ext (fun y _ => rch_one hxR y)]
    refine wp_istore_4 (pc' := 46) dX6_goOn_44 (by decide) rfl rfl ?_
    refine wp_iload_4 (pc' := 48) dX6_goOn_46 rfl ?_
    refine wp_callSu (pc' := 51) (c_J6_bitCount_0f7a4 _) gX6_goOn_J6_bitCount_0f7a4 rfl rfl hz_J6_bitCount_0f7a4 ⟨Nat.le_of_ble_eq_true rfl, Nat.le_of_ble_eq_true rfl⟩ ⟨rfl, rfl⟩ (Nat.le_of_ble_eq_true rfl) ⟨Nat.le_of_ble_eq_true rfl, Nat.le_of_ble_eq_true rfl⟩ rfl dX6_goOn_48 rfl ?_
    refine wp_istore_5 (pc' := 53) dX6_goOn_51 (by decide) rfl rfl ?_
    refine wp_iload_5 (pc' := 55) dX6_goOn_53 rfl ?_
    refine wp_if_ne (pc' := 58) (tgt := 62) dX6_goOn_55 rfl rfl (fun c55 => ?_) (fun c55 => ?_)
    · skip -- 55 taken
      refine wp_aload_n_0 (pc' := 63) dX6_goOn_62 rfl ?_
      refine wp_get_6_1 (pc' := 66) (by omega) rfl rfl me_X6_goOn_1 ic_X6_goOn_6 dX6_goOn_63 rfl ?_
      refine wp_iload_n_3 (pc' := 67) dX6_goOn_66 rfl ?_
      refine wp_iald (pc' := 68) (N := 16) (by omega) rfl rfl (by first | exact vp_in_nI (by omega) (by omega) | assumption | (unfold vp_in; decide)) dX6_goOn_67 rfl ?_
      rw [nI_clamp (by omega), o1]
      refine wp_bipush (pc' := 70) (12) dX6_goOn_68 rfl (by decide) ?_
      refine wp_iload_5 (pc' := 72) dX6_goOn_70 rfl ?_
      refine wp_idiv (pc' := 73) dX6_goOn_72 rfl c55 ?_
      rw [div12 _ (by omega)]
      refine wp_imul (pc' := 74) dX6_goOn_73 rfl ?_
      rw [nI_mul]
      exact key a6
    · skip -- 55 not taken
      refine wp_iconst (pc' := 59) (0) dX6_goOn_58 rfl (by decide) ?_
      refine wp_goto (tgt := 74) dX6_goOn_59 rfl ?_
      have z : shr R C od x = 0 := by
        have : cnt (nbr R C x) = 0 := by (simp (disch := omega) only [Int32.lt_iff_toInt_lt, Int32.le_iff_toInt_le, ← Int32.toInt_inj, nI_toInt, il_0, il_1, il_2, il_3, il_4, il_5, il_6, il_8, il_9, il_10, il_16, il_26, il_32, il_40, il_n4, il_n1, il_n2, il_11, il_48, il_57, il_59, il_44, il_126, il_200, il_9999, il_66666, il_10000, il_1000000, il_15, il_12, il_256, il_4096, il_53, il_52] at c55; omega)
        unfold shr
        rw [this]
        simp
      have := key a6
      rw [z] at this
      exact this
theorem lp_X6_go0 {g : Nat → Bool} {post : PO} (hn : 89 ≤ n) (H0 : Hp)
    (K : ∀ h', (∀ a, a ≠ 85 → h' a = H0 a) → (∀ i, i < 16 → h' 85 i = 0) → ∀ a3, WP l D cy B cX6_goOn 8 RX6 wsX6_goOn rmX6_goOn none (QE0 D cy B n 0 0 (post)) EX0 n (rf0 π) h' lg 0 0 21 [some (.ref (B + 82)), some (.ref (B + 11)), some (.int (S g)), a3, none, none, none, none] []) :
    ∀ d i : Nat, i + d = 16 → ∀ h', (∀ a, a ≠ 85 → h' a = H0 a) → (∀ j, j < i → h' 85 j = 0) → WP l D cy B cX6_goOn 8 RX6 wsX6_goOn rmX6_goOn none (QE0 D cy B n 0 0 (post)) EX0 n (rf0 π) h' lg 0 0 2 [some (.ref (B + 82)), some (.ref (B + 11)), some (.int (S g)), some (.int (nI i)), none, none, none, none] [] := by
  intro d
  induction d with
  | zero =>
    intro i hi h' e0 e1
    have : i = 16 := by omega
    subst this
    refine wp_iload_n_3 (pc' := 3) dX6_goOn_2 rfl ?_
    refine wp_bipush (pc' := 5) (16) dX6_goOn_3 rfl (by decide) ?_
    refine wp_icmp_ge (pc' := 8) (tgt := 21) dX6_goOn_5 rfl rfl (fun c5 => ?_) (fun c5 => by exfalso; exact c5 (by decide))
    exact K h' e0 e1 _
  | succ d ih =>
    intro i hi h' e0 e1
    refine wp_iload_n_3 (pc' := 3) dX6_goOn_2 rfl ?_
    refine wp_bipush (pc' := 5) (16) dX6_goOn_3 rfl (by decide) ?_
    refine wp_icmp_ge (pc' := 8) (tgt := 21) dX6_goOn_5 rfl rfl (fun c5 => by exfalso; (simp (disch := omega) only [Int32.lt_iff_toInt_lt, Int32.le_iff_toInt_le, ← Int32.toInt_inj, nI_toInt, il_0, il_1, il_2, il_3, il_4, il_5, il_6, il_8, il_9, il_10, il_16, il_26, il_32, il_40, il_n4, il_n1, il_n2, il_11, il_48, il_57, il_59, il_44, il_126, il_200, il_9999, il_66666, il_10000, il_1000000, il_15, il_12, il_256, il_4096, il_53, il_52] at c5; omega)) (fun c5 => ?_)
    refine wp_aload_n_0 (pc' := 9) dX6_goOn_8 rfl ?_
    refine wp_get_6_2 (pc' := 12) (by omega) rfl rfl me_X6_goOn_0 ic_X6_goOn_6 dX6_goOn_9 rfl ?_
    refine wp_iload_n_3 (pc' := 13) dX6_goOn_12 rfl ?_
    refine wp_iconst (pc' := 14) (0) dX6_goOn_13 rfl (by decide) ?_
    refine wp_iast (pc' := 15) (N := 16) (by omega) rfl rfl (by first | exact vp_in_nI (by omega) (by omega) | assumption | (unfold vp_in; decide)) dX6_goOn_14 rfl ?_
    refine wp_iinc_3 (pc' := 18) (v := nI (i + 1)) dX6_goOn_15 (by first | rfl | exact nI_1 _) (by decide) rfl rfl ?_
    refine wp_goto (tgt := 2) dX6_goOn_18 rfl ?_
    refine ih (i + 1) (by omega) _ (fun a ha => by rw [hup_cell ha]; exact e0 a ha) (fun j hj => ?_)
    rw [nI_clamp (by omega)]
    by_cases e : j = i
    · subst e; rw [hup_at]
    · rw [hup_off e]; exact e1 j (by omega)
theorem c_X6_goOn {R C : Nat} {g : Nat → Bool} {od : Nat → Nat} (hn : 89 ≤ n) (q : ShL h 11 R C) (o : ∀ i, i < 16 → h 84 i = nI (od i)) : Ctr l D cy B yX6_goOn wsX6_goOn rmX6_goOn 0 0 n (rf0 π) h lg [.ref (B + 82), .ref (B + 11), .int (S g)] (qV (fun h' => (∀ a, a ≠ 84 → a ≠ 85 → h' a = h a) ∧ ∀ i, i < 16 → h' 84 i = nI (laP R C g od (R * C) i)) (rf0 π) lg) := by
  refine Ctr.of (cc := cX6_goOn) (nL := 8) (own := RX6) (rt := none) (ls := [some (.ref (B + 82)), some (.ref (B + 11)), some (.int (S g)), none, none, none, none, none]) (by decide) rfl rfl (Nat.le_of_ble_eq_true rfl) rfl ?_
  refine wp_iconst (pc' := 1) (0) dX6_goOn_0 rfl (by decide) ?_
  refine wp_istore_n_3 (pc' := 2) dX6_goOn_1 (by decide) rfl rfl ?_
  refine lp_X6_go0 hn h (fun h' e0 e1 a3 => ?_) 16 0 (by omega) h (fun _ _ => rfl) (fun j hj => by omega)
  refine wp_iconst (pc' := 22) (0) dX6_goOn_21 rfl (by decide) ?_
  refine wp_istore_n_3 (pc' := 23) dX6_goOn_22 (by decide) rfl rfl ?_
  refine lp_X6_goOut (od := od) hn h q o (fun h2 f0 f1 a3 a4 a5 a6 a7 => ?_) (R * C) 0 (by omega) h' e0 e1 _ _ _ _
  refine wp_aload_n_0 (pc' := 123) dX6_goOn_122 rfl ?_
  refine wp_get_6_2 (pc' := 126) (by omega) rfl rfl me_X6_goOn_0 ic_X6_goOn_6 dX6_goOn_123 rfl ?_
  refine wp_iconst (pc' := 127) (0) dX6_goOn_126 rfl (by decide) ?_
  refine wp_aload_n_0 (pc' := 128) dX6_goOn_127 rfl ?_
  refine wp_get_6_1 (pc' := 131) (by omega) rfl rfl me_X6_goOn_1 ic_X6_goOn_6 dX6_goOn_128 rfl ?_
  refine wp_iconst (pc' := 132) (0) dX6_goOn_131 rfl (by decide) ?_
  refine wp_bipush (pc' := 134) (16) dX6_goOn_132 rfl (by decide) ?_
  refine wp_copyi (pc' := 137) me_X6_goOn_2 me_X6_goOn_3 me_X6_goOn_4 me_X6_goOn_5 (by omega) rfl rfl (by omega) rfl rfl (by decide) (by decide) (by decide) (by decide) (by decide) (Nat.le_of_ble_eq_true rfl) (by decide) dX6_goOn_134 rfl ?_
  refine wp_return dX6_goOn_137 rfl rfl (Nat.le_refl _) (Nat.le_refl _) ?_
  exact qV_of ⟨fun a h4 h5 => by simp only [h4, if_false]; exact f0 a h5, fun i hi => by simp only [if_true]; exact (va_cpy_0 _ _ hi).trans (f1 i hi)⟩
end VT3

