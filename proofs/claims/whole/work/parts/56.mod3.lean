abbrev rmX8_countToward : Room := { frames := 2, cells := 0, slots := 0, locals := 47 }
theorem hy_X8_countToward : yX8_countToward.cls = RX8 ∧ yX8_countToward.cls ≠ "java/lang/invoke/MethodHandle" ∧ yX8_countToward.cls ≠ "java/lang/invoke/VarHandle" ∧ (parseMethodDescriptor yX8_countToward.desc).map (fun d => d.parameters.length) = some 1 := by decide +kernel
theorem hz_X8_countToward : yX8_countToward.cls ≠ "java/lang/invoke/MethodHandle" ∧ yX8_countToward.cls ≠ "java/lang/invoke/VarHandle" ∧ (parseMethodDescriptor yX8_countToward.desc).map (fun d => d.parameters.length) = some 1 := by decide +kernel
abbrev rmX8_endsOf : Room := { frames := 3, cells := 0, slots := 0, locals := 72 }
theorem hy_X8_endsOf : yX8_endsOf.cls = RX8 ∧ yX8_endsOf.cls ≠ "java/lang/invoke/MethodHandle" ∧ yX8_endsOf.cls ≠ "java/lang/invoke/VarHandle" ∧ (parseMethodDescriptor yX8_endsOf.desc).map (fun d => d.parameters.length) = some 0 := by decide +kernel
theorem hz_X8_endsOf : yX8_endsOf.cls ≠ "java/lang/invoke/MethodHandle" ∧ yX8_endsOf.cls ≠ "java/lang/invoke/VarHandle" ∧ (parseMethodDescriptor yX8_endsOf.desc).map (fun d => d.parameters.length) = some 0 := by decide +kernel
abbrev rmX8_liedNow : Room := { frames := 4, cells := 0, slots := 0, locals := 94 }
theorem hy_X8_liedNow : yX8_liedNow.cls = RX8 ∧ yX8_liedNow.cls ≠ "java/lang/invoke/MethodHandle" ∧ yX8_liedNow.cls ≠ "java/lang/invoke/VarHandle" ∧ (parseMethodDescriptor yX8_liedNow.desc).map (fun d => d.parameters.length) = some 0 := by decide +kernel
theorem hz_X8_liedNow : yX8_liedNow.cls ≠ "java/lang/invoke/MethodHandle" ∧ yX8_liedNow.cls ≠ "java/lang/invoke/VarHandle" ∧ (parseMethodDescriptor yX8_liedNow.desc).map (fun d => d.parameters.length) = some 0 := by decide +kernel
abbrev rmX8_waysOf : Room := { frames := 3, cells := 0, slots := 0, locals := 71 }
theorem hy_X8_waysOf : yX8_waysOf.cls = RX8 ∧ yX8_waysOf.cls ≠ "java/lang/invoke/MethodHandle" ∧ yX8_waysOf.cls ≠ "java/lang/invoke/VarHandle" ∧ (parseMethodDescriptor yX8_waysOf.desc).map (fun d => d.parameters.length) = some 1 := by decide +kernel
theorem hz_X8_waysOf : yX8_waysOf.cls ≠ "java/lang/invoke/MethodHandle" ∧ yX8_waysOf.cls ≠ "java/lang/invoke/VarHandle" ∧ (parseMethodDescriptor yX8_waysOf.desc).map (fun d => d.parameters.length) = some 1 := by decide +kernel
theorem me_X8_countToward_0 : Cond.fieldLink RX8 40 "DrawnByLostModel" "toward" "[I" ∈ wsX8_countToward := by decide +kernel
theorem me_X8_countToward_1 : Cond.fieldLink RX8 19 "DrawnByLostModel" "now" "[I" ∈ wsX8_countToward := by decide +kernel
theorem me_X8_countToward_2 : Cond.fieldLink RX8 34 "DrawnByLostModel" "marks" "[I" ∈ wsX8_countToward := by decide +kernel
theorem me_X8_countToward_3 : Cond.fieldLink RX8 161 "DrawnByLostModel" "many" "I" ∈ wsX8_countToward := by decide +kernel
theorem me_X8_waysOf_0 : Cond.fieldLink RX8 37 "DrawnByLostModel" "onward" "[I" ∈ wsX8_waysOf := by decide +kernel
theorem me_X8_endsOf_0 : Cond.fieldLink RX8 40 "DrawnByLostModel" "toward" "[I" ∈ wsX8_endsOf := by decide +kernel
theorem me_X8_endsOf_1 : Cond.fieldLink RX8 161 "DrawnByLostModel" "many" "I" ∈ wsX8_endsOf := by decide +kernel
theorem me_X8_liedNow_0 : Cond.fieldLink RX8 19 "DrawnByLostModel" "now" "[I" ∈ wsX8_liedNow := by decide +kernel
theorem ic_X8_countToward_8 : ∀ w ∈ wsX80, w ∈ wsX8_countToward := by decide +kernel
theorem ic_X8_waysOf_8 : ∀ w ∈ wsX80, w ∈ wsX8_waysOf := by decide +kernel
theorem ic_X8_endsOf_8 : ∀ w ∈ wsX80, w ∈ wsX8_endsOf := by decide +kernel
theorem ic_X8_liedNow_8 : ∀ w ∈ wsX80, w ∈ wsX8_liedNow := by decide +kernel
-- the reference: how many rows come to a place
section VM3
variable {l : Launch} {D : va_G} {cy : CY} {B n : Nat} {h : Hp} {lg : Lg} {π : Nat → Nat}
theorem lpi_X8_to {R C κ k y : Nat} {fr : Int32} {g : Nat → Nat} {post : PO} (hn : 105 ≤ n) (q : ShM h R C) (hk : h 89 13 = nI κ) (hκ : κ ≤ 3) (hk5 : k < 4) (hy : y < R * C) (hg : ∀ x, x < R * C → h 100 (16 * k + x) = nI (g x))
    (K : ∀ a5, WP l D cy B cX8_countToward 6 RX8 wsX8_countToward rmX8_countToward none (QE0 D cy B n 0 0 (post)) EX0 n (rf0 π) h lg 0 0 95 [some (.ref (B + 89)), some (.int fr), some (.int (nI (k + 1))), some (.int (nI y)), some (.int (nI (sumN (R * C) (fun x => one (go κ C x y) * g x)))), a5] []) :
    ∀ d x : Nat, x + d = R * C → WP l D cy B cX8_countToward 6 RX8 wsX8_countToward rmX8_countToward none (QE0 D cy B n 0 0 (post)) EX0 n (rf0 π) h lg 0 0 43 [some (.ref (B + 89)), some (.int fr), some (.int (nI (k + 1))), some (.int (nI y)), some (.int (nI (sumN x (fun x => one (go κ C x y) * g x)))), some (.int (nI x))] [] := by
  have hl := q.1.le
  intro d
  induction d with
  | zero =>
    intro x hx
    have : x = R * C := by omega
    subst this
    refine wp_iload_5 (pc' := 45) dX8_countToward_43 rfl ?_
    refine wp_aload_n_0 (pc' := 46) dX8_countToward_45 rfl ?_
    refine wp_callVu (pc' := 49) (c_X8_places hn q) gX8_countToward_X8_places rfl rfl hy_X8_places ⟨Nat.le_of_ble_eq_true rfl, Nat.le_of_ble_eq_true rfl⟩ ⟨rfl, rfl⟩ (Nat.le_of_ble_eq_true rfl) ⟨Nat.le_of_ble_eq_true rfl, Nat.le_of_ble_eq_true rfl⟩ (by omega) (ce8 rfl) rfl rfl dX8_countToward_46 rfl ?_
    refine wp_icmp_ge (pc' := 52) (tgt := 95) dX8_countToward_49 rfl rfl (fun c49 => ?_) (fun c49 => by exfalso; exact c49 (nI_le (Nat.le_refl _) (by omega)))
    exact K _
  | succ d ih =>
    intro x hx
    refine wp_iload_5 (pc' := 45) dX8_countToward_43 rfl ?_
    refine wp_aload_n_0 (pc' := 46) dX8_countToward_45 rfl ?_
    refine wp_callVu (pc' := 49) (c_X8_places hn q) gX8_countToward_X8_places rfl rfl hy_X8_places ⟨Nat.le_of_ble_eq_true rfl, Nat.le_of_ble_eq_true rfl⟩ ⟨rfl, rfl⟩ (Nat.le_of_ble_eq_true rfl) ⟨Nat.le_of_ble_eq_true rfl, Nat.le_of_ble_eq_true rfl⟩ (by omega) (ce8 rfl) rfl rfl dX8_countToward_46 rfl ?_
    refine wp_icmp_ge (pc' := 52) (tgt := 95) dX8_countToward_49 rfl rfl (fun c49 => by exfalso; exact nI_ge (by omega) (by omega) c49) (fun c49 => ?_)
    refine wp_iload_n_2 (pc' := 53) dX8_countToward_52 rfl ?_
    refine wp_if_le (pc' := 56) (tgt := 95) dX8_countToward_53 rfl rfl (fun c53 => by exfalso; exact nI_nle (by omega) (by omega) c53) (fun c53 => ?_)
    refine wp_iload_4 (pc' := 58) dX8_countToward_56 rfl ?_
    refine wp_aload_n_0 (pc' := 59) dX8_countToward_58 rfl ?_
    refine wp_iload_5 (pc' := 61) dX8_countToward_59 rfl ?_
    refine wp_iload_n_3 (pc' := 62) dX8_countToward_61 rfl ?_
    refine wp_callVu (pc' := 65) (c_X8_goes hn q hk hκ (by omega) (by omega)) gX8_countToward_X8_goes rfl rfl hy_X8_goes ⟨Nat.le_of_ble_eq_true rfl, Nat.le_of_ble_eq_true rfl⟩ ⟨rfl, rfl⟩ (Nat.le_of_ble_eq_true rfl) ⟨Nat.le_of_ble_eq_true rfl, Nat.le_of_ble_eq_true rfl⟩ (by omega) (ce8 rfl) rfl rfl dX8_countToward_62 rfl ?_
    refine wp_if_eq (pc' := 68) (tgt := 85) dX8_countToward_65 rfl rfl (fun c65 => ?_) (fun c65 => ?_)
    · skip -- 65 taken
      refine wp_iconst (pc' := 86) (0) dX8_countToward_85 rfl (by decide) ?_
      refine wp_iadd (pc' := 87) dX8_countToward_86 rfl ?_
      first | rw [nI_add] | rw [show (0 : Int32) = nI 0 from rfl, nI_add]
      refine wp_istore_4 (pc' := 89) dX8_countToward_87 (by decide) rfl rfl ?_
      refine wp_iinc_5 (pc' := 92) (v := nI (x + 1)) dX8_countToward_89 (by first | rfl | exact nI_1 _) (by decide) rfl rfl ?_
      refine wp_goto (tgt := 43) dX8_countToward_92 rfl ?_
      have z := ih (x + 1) (by omega)
      rw [show sumN (x + 1) (fun x => one (go κ C x y) * g x) = sumN x (fun x => one (go κ C x y) * g x) + 0 by simp only [sumN]; rw [b2i_eq0.mp c65]; simp [one]] at z
      exact z
    · skip -- 65 not taken
      refine wp_aload_n_0 (pc' := 69) dX8_countToward_68 rfl ?_
      refine wp_get_8_17 (pc' := 72) (by omega) rfl rfl me_X8_countToward_0 ic_X8_countToward_8 dX8_countToward_69 rfl ?_
      refine wp_bipush (pc' := 74) (16) dX8_countToward_72 rfl (by decide) ?_
      refine wp_iload_n_2 (pc' := 75) dX8_countToward_74 rfl ?_
      refine wp_iconst (pc' := 76) (1) dX8_countToward_75 rfl (by decide) ?_
      refine wp_isub (pc' := 77) dX8_countToward_76 rfl ?_
      rw [nI_pred]
      refine wp_imul (pc' := 78) dX8_countToward_77 rfl ?_
      refine wp_iload_5 (pc' := 80) dX8_countToward_78 rfl ?_
      refine wp_iadd (pc' := 81) dX8_countToward_80 rfl ?_
      rw [ix16]
      refine wp_iald (pc' := 82) (N := 80) (by omega) rfl rfl (by first | exact vp_in_nI (by omega) (by omega) | assumption | (unfold vp_in; decide)) dX8_countToward_81 rfl ?_
      rw [nI_clamp (by omega), hg x (by omega)]
      refine wp_goto (tgt := 86) dX8_countToward_82 rfl ?_
      refine wp_iadd (pc' := 87) dX8_countToward_86 rfl ?_
      first | rw [nI_add] | rw [show (0 : Int32) = nI 0 from rfl, nI_add]
      refine wp_istore_4 (pc' := 89) dX8_countToward_87 (by decide) rfl rfl ?_
      refine wp_iinc_5 (pc' := 92) (v := nI (x + 1)) dX8_countToward_89 (by first | rfl | exact nI_1 _) (by decide) rfl rfl ?_
      refine wp_goto (tgt := 43) dX8_countToward_92 rfl ?_
      have z := ih (x + 1) (by omega)
      rw [show sumN (x + 1) (fun x => one (go κ C x y) * g x) = sumN x (fun x => one (go κ C x y) * g x) + g x by simp only [sumN]; rw [b2i_ne0.mp c65]; simp [one]] at z
      exact z
def ToW (H0 h' : Hp) (κ R C : Nat) (ρ t : Nat → Nat) (f0 : Nat → Bool) (s k y : Nat) : Prop := (∀ a, a ≠ 100 → h' a = H0 a) ∧ ∀ k' y', k' < s → y' < R * C → (k' < k ∨ (k' = k ∧ y' < y)) → h' 100 (16 * k' + y') = nI (cf κ R C ρ t f0 k' y')
theorem lpm_X8_to {R C κ s k : Nat} {fr : Int32} {ρ t : Nat → Nat} {f0 : Nat → Bool} {post : PO} (hn : 105 ≤ n) (H0 : Hp) (q0 : ShM H0 R C) (tk : TK H0 κ s t) (nr : NR H0 93 ρ) (hκ : κ ≤ 3) (hs5 : s ≤ 5) (hk : k < s) (h5 : ∀ i, i < 16 → ρ i ≤ 5) (ht5 : ∀ i, i < s → t i ≤ 5) (hf : ∀ y, y < R * C → (f0 y = true ↔ (fr < 0 ∨ fr = nI y)))
    (K : ∀ h' a4 a5, ToW H0 h' κ R C ρ t f0 s k (R * C) → WP l D cy B cX8_countToward 6 RX8 wsX8_countToward rmX8_countToward none (QE0 D cy B n 0 0 (post)) EX0 n (rf0 π) h' lg 0 0 133 [some (.ref (B + 89)), some (.int fr), some (.int (nI k)), some (.int (nI (R * C))), a4, a5] []) :
    ∀ d y : Nat, y + d = R * C → ∀ h' a4 a5, ToW H0 h' κ R C ρ t f0 s k y → WP l D cy B cX8_countToward 6 RX8 wsX8_countToward rmX8_countToward none (QE0 D cy B n 0 0 (post)) EX0 n (rf0 π) h' lg 0 0 12 [some (.ref (B + 89)), some (.int fr), some (.int (nI k)), some (.int (nI y)), a4, a5] [] := by
  have hl := q0.1.le
  intro d
  induction d with
  | zero =>
    intro y hy h' a4 a5 o
    have : y = R * C := by omega
    subst this
    have q := q0.of (h' := h') (by rw [o.1 91 (by decide)]) (by rw [o.1 91 (by decide)])
    refine wp_iload_n_3 (pc' := 13) dX8_countToward_12 rfl ?_
    refine wp_aload_n_0 (pc' := 14) dX8_countToward_13 rfl ?_
    refine wp_callVu (pc' := 17) (c_X8_places hn q) gX8_countToward_X8_places rfl rfl hy_X8_places ⟨Nat.le_of_ble_eq_true rfl, Nat.le_of_ble_eq_true rfl⟩ ⟨rfl, rfl⟩ (Nat.le_of_ble_eq_true rfl) ⟨Nat.le_of_ble_eq_true rfl, Nat.le_of_ble_eq_true rfl⟩ (by omega) (ce8 rfl) rfl rfl dX8_countToward_14 rfl ?_
    refine wp_icmp_ge (pc' := 20) (tgt := 133) dX8_countToward_17 rfl rfl (fun c17 => ?_) (fun c17 => by exfalso; exact c17 (nI_le (Nat.le_refl _) (by omega)))
    exact K h' _ _ o
  | succ d ih =>
    intro y hy h' a4 a5 o
    have q := q0.of (h' := h') (by rw [o.1 91 (by decide)]) (by rw [o.1 91 (by decide)])
    have tk' := tk.of (o.1 89 (by decide)) (o.1 98 (by decide))
    have y5 := h5 y (by omega)
    have k5 := ht5 k hk
    have hfy := hf y (by omega)
    have key : ∀ m a5, one (atB R C ρ (t k) y) * m = cf κ R C ρ t f0 k y → WP l D cy B cX8_countToward 6 RX8 wsX8_countToward rmX8_countToward none (QE0 D cy B n 0 0 (post)) EX0 n (rf0 π) h' lg 0 0 95 [some (.ref (B + 89)), some (.int fr), some (.int (nI k)), some (.int (nI y)), some (.int (nI m)), a5] [] := by
      intro m a5 hm
      have fin : ∀ v, v = nI (cf κ R C ρ t f0 k y) → WP l D cy B cX8_countToward 6 RX8 wsX8_countToward rmX8_countToward none (QE0 D cy B n 0 0 (post)) EX0 n (rf0 π) (hup h' 100 (16 * k + y) v) lg 0 0 12 [some (.ref (B + 89)), some (.int fr), some (.int (nI k)), some (.int (nI (y + 1))), some (.int (nI m)), a5] [] := by
        intro v hv
        subst hv
        refine ih (y + 1) (by omega) _ _ _ ⟨fun a ha => by rw [hup_cell ha]; exact o.1 a ha, fun k' x' z1 z2 z3 => ?_⟩
        by_cases e : 16 * k' + x' = 16 * k + y
        · have e1 : k' = k := by omega
          have e2 : x' = y := by omega
          subst e1; subst e2
          rw [hup_at]
        · rw [hup_off e]; exact o.2 k' x' z1 z2 (by omega)
      refine wp_aload_n_0 (pc' := 96) dX8_countToward_95 rfl ?_
      refine wp_get_8_17 (pc' := 99) (by omega) rfl rfl me_X8_countToward_0 ic_X8_countToward_8 dX8_countToward_96 rfl ?_
      refine wp_bipush (pc' := 101) (16) dX8_countToward_99 rfl (by decide) ?_
      refine wp_iload_n_2 (pc' := 102) dX8_countToward_101 rfl ?_
      refine wp_imul (pc' := 103) dX8_countToward_102 rfl ?_
      refine wp_iload_n_3 (pc' := 104) dX8_countToward_103 rfl ?_
      refine wp_iadd (pc' := 105) dX8_countToward_104 rfl ?_
      rw [ix16]
      refine wp_aload_n_0 (pc' := 106) dX8_countToward_105 rfl ?_
      refine wp_get_8_4 (pc' := 109) (by omega) rfl rfl me_X8_countToward_1 ic_X8_countToward_8 dX8_countToward_106 rfl ?_
      refine wp_iload_n_3 (pc' := 110) dX8_countToward_109 rfl ?_
      refine wp_iald (pc' := 111) (N := 52) (by omega) rfl rfl (by first | exact vp_in_nI (by omega) (by omega) | assumption | (unfold vp_in; decide)) dX8_countToward_110 rfl ?_
      rw [nI_clamp (by omega), o.1 93 (by decide), nr y (by omega)]
      refine wp_aload_n_0 (pc' := 112) dX8_countToward_111 rfl ?_
      refine wp_get_8_15 (pc' := 115) (by omega) rfl rfl me_X8_countToward_2 ic_X8_countToward_8 dX8_countToward_112 rfl ?_
      refine wp_iload_n_2 (pc' := 116) dX8_countToward_115 rfl ?_
      refine wp_iald (pc' := 117) (N := 5) (by omega) rfl rfl (by first | exact vp_in_nI (by omega) (by omega) | assumption | (unfold vp_in; decide)) dX8_countToward_116 rfl ?_
      rw [nI_clamp (by omega), tk'.2.2 k hk]
      refine wp_icmp_ne (pc' := 120) (tgt := 125) dX8_countToward_117 rfl rfl (fun c117 => ?_) (fun c117 => ?_)
      · skip -- 117 taken
        refine wp_iconst (pc' := 126) (0) dX8_countToward_125 rfl (by decide) ?_
        refine wp_iast (pc' := 127) (N := 80) (by omega) rfl rfl (by first | exact vp_in_nI (by omega) (by omega) | assumption | (unfold vp_in; decide)) dX8_countToward_126 rfl ?_
        refine wp_iinc_3 (pc' := 130) (v := nI (y + 1)) dX8_countToward_127 (by first | rfl | exact nI_1 _) (by decide) rfl rfl ?_
        refine wp_goto (tgt := 12) dX8_countToward_130 rfl ?_
        rw [nI_clamp (by omega)]
        refine fin _ ?_
        rw [← hm, show atB R C ρ (t k) y = false by unfold atB; rw [decide_eq_false (p := ρ y = t k) (fun z => c117 (by rw [z]))]; simp]
        simp [one, nI_lit0]
      · skip -- 117 not taken
        refine wp_iload_4 (pc' := 122) dX8_countToward_120 rfl ?_
        refine wp_goto (tgt := 126) dX8_countToward_122 rfl ?_
        refine wp_iast (pc' := 127) (N := 80) (by omega) rfl rfl (by first | exact vp_in_nI (by omega) (by omega) | assumption | (unfold vp_in; decide)) dX8_countToward_126 rfl ?_
        refine wp_iinc_3 (pc' := 130) (v := nI (y + 1)) dX8_countToward_127 (by first | rfl | exact nI_1 _) (by decide) rfl rfl ?_
        refine wp_goto (tgt := 12) dX8_countToward_130 rfl ?_
        rw [nI_clamp (by omega)]
        refine fin _ ?_
        rw [← hm, show atB R C ρ (t k) y = true by unfold atB; rw [decide_eq_true (p := ρ y = t k) ((nI_eq (by omega) (by omega)).mp c117), decide_eq_true (p := y < R * C) (by omega)]; rfl]
        simp [one]
    cases k with
    | zero =>
      have k0 : ∀ b : Bool, f0 y = b → one (atB R C ρ (t 0) y) * one b = cf κ R C ρ t f0 0 y := by
        intro b hb
        simp only [cf]
        rw [hb]
        cases b <;> cases atB R C ρ (t 0) y <;> rfl
      refine wp_iload_n_3 (pc' := 13) dX8_countToward_12 rfl ?_
      refine wp_aload_n_0 (pc' := 14) dX8_countToward_13 rfl ?_
      refine wp_callVu (pc' := 17) (c_X8_places hn q) gX8_countToward_X8_places rfl rfl hy_X8_places ⟨Nat.le_of_ble_eq_true rfl, Nat.le_of_ble_eq_true rfl⟩ ⟨rfl, rfl⟩ (Nat.le_of_ble_eq_true rfl) ⟨Nat.le_of_ble_eq_true rfl, Nat.le_of_ble_eq_true rfl⟩ (by omega) (ce8 rfl) rfl rfl dX8_countToward_14 rfl ?_
      refine wp_icmp_ge (pc' := 20) (tgt := 133) dX8_countToward_17 rfl rfl (fun c17 => by exfalso; exact nI_ge (by omega) (by omega) c17) (fun c17 => ?_)
      refine wp_iload_n_2 (pc' := 21) dX8_countToward_20 rfl ?_
      refine wp_if_ne (pc' := 24) (tgt := 37) dX8_countToward_21 rfl rfl (fun c21 => by exfalso; exact c21 rfl) (fun c21 => ?_)
      refine wp_iload_n_1 (pc' := 25) dX8_countToward_24 rfl ?_
      refine wp_if_lt (pc' := 28) (tgt := 33) dX8_countToward_25 rfl rfl (fun c25 => ?_) (fun c25 => ?_)
      · skip -- 25 taken
        refine wp_iconst (pc' := 34) (1) dX8_countToward_33 rfl (by decide) ?_
        refine wp_goto (tgt := 38) dX8_countToward_34 rfl ?_
        refine wp_istore_4 (pc' := 40) dX8_countToward_38 (by decide) rfl rfl ?_
        refine wp_iconst (pc' := 41) (0) dX8_countToward_40 rfl (by decide) ?_
        refine wp_istore_5 (pc' := 43) dX8_countToward_41 (by decide) rfl rfl ?_
        refine wp_iload_5 (pc' := 45) dX8_countToward_43 rfl ?_
        refine wp_aload_n_0 (pc' := 46) dX8_countToward_45 rfl ?_
        refine wp_callVu (pc' := 49) (c_X8_places hn q) gX8_countToward_X8_places rfl rfl hy_X8_places ⟨Nat.le_of_ble_eq_true rfl, Nat.le_of_ble_eq_true rfl⟩ ⟨rfl, rfl⟩ (Nat.le_of_ble_eq_true rfl) ⟨Nat.le_of_ble_eq_true rfl, Nat.le_of_ble_eq_true rfl⟩ (by omega) (ce8 rfl) rfl rfl dX8_countToward_46 rfl ?_
        refine wp_icmp_ge (pc' := 52) (tgt := 95) dX8_countToward_49 rfl rfl (fun c49 => by exfalso; exact nI_ge (a := 0) (by omega) (by omega) c49) (fun c49 => ?_)
        refine wp_iload_n_2 (pc' := 53) dX8_countToward_52 rfl ?_
        refine wp_if_le (pc' := 56) (tgt := 95) dX8_countToward_53 rfl rfl (fun c53 => ?_) (fun c53 => by exfalso; exact c53 (by decide))
        exact key 1 _ (k0 true (hfy.mpr (Or.inl c25)))
      · skip -- 25 not taken
        refine wp_iload_n_1 (pc' := 29) dX8_countToward_28 rfl ?_
        refine wp_iload_n_3 (pc' := 30) dX8_countToward_29 rfl ?_
        refine wp_icmp_ne (pc' := 33) (tgt := 37) dX8_countToward_30 rfl rfl (fun c30 => ?_) (fun c30 => ?_)
        · skip -- 30 taken
          refine wp_iconst (pc' := 38) (0) dX8_countToward_37 rfl (by decide) ?_
          refine wp_istore_4 (pc' := 40) dX8_countToward_38 (by decide) rfl rfl ?_
          refine wp_iconst (pc' := 41) (0) dX8_countToward_40 rfl (by decide) ?_
          refine wp_istore_5 (pc' := 43) dX8_countToward_41 (by decide) rfl rfl ?_
          refine wp_iload_5 (pc' := 45) dX8_countToward_43 rfl ?_
          refine wp_aload_n_0 (pc' := 46) dX8_countToward_45 rfl ?_
          refine wp_callVu (pc' := 49) (c_X8_places hn q) gX8_countToward_X8_places rfl rfl hy_X8_places ⟨Nat.le_of_ble_eq_true rfl, Nat.le_of_ble_eq_true rfl⟩ ⟨rfl, rfl⟩ (Nat.le_of_ble_eq_true rfl) ⟨Nat.le_of_ble_eq_true rfl, Nat.le_of_ble_eq_true rfl⟩ (by omega) (ce8 rfl) rfl rfl dX8_countToward_46 rfl ?_
          refine wp_icmp_ge (pc' := 52) (tgt := 95) dX8_countToward_49 rfl rfl (fun c49 => by exfalso; exact nI_ge (a := 0) (by omega) (by omega) c49) (fun c49 => ?_)
          refine wp_iload_n_2 (pc' := 53) dX8_countToward_52 rfl ?_
          refine wp_if_le (pc' := 56) (tgt := 95) dX8_countToward_53 rfl rfl (fun c53 => ?_) (fun c53 => by exfalso; exact c53 (by decide))
          refine key 0 _ (k0 false ?_)
          rw [Bool.eq_false_iff]
          intro z
          rcases hfy.mp z with w | w
          · exact c25 w
          · exact c30 w
        · skip -- 30 not taken
          refine wp_iconst (pc' := 34) (1) dX8_countToward_33 rfl (by decide) ?_
          refine wp_goto (tgt := 38) dX8_countToward_34 rfl ?_
          refine wp_istore_4 (pc' := 40) dX8_countToward_38 (by decide) rfl rfl ?_
          refine wp_iconst (pc' := 41) (0) dX8_countToward_40 rfl (by decide) ?_
          refine wp_istore_5 (pc' := 43) dX8_countToward_41 (by decide) rfl rfl ?_
          refine wp_iload_5 (pc' := 45) dX8_countToward_43 rfl ?_
          refine wp_aload_n_0 (pc' := 46) dX8_countToward_45 rfl ?_
          refine wp_callVu (pc' := 49) (c_X8_places hn q) gX8_countToward_X8_places rfl rfl hy_X8_places ⟨Nat.le_of_ble_eq_true rfl, Nat.le_of_ble_eq_true rfl⟩ ⟨rfl, rfl⟩ (Nat.le_of_ble_eq_true rfl) ⟨Nat.le_of_ble_eq_true rfl, Nat.le_of_ble_eq_true rfl⟩ (by omega) (ce8 rfl) rfl rfl dX8_countToward_46 rfl ?_
          refine wp_icmp_ge (pc' := 52) (tgt := 95) dX8_countToward_49 rfl rfl (fun c49 => by exfalso; exact nI_ge (a := 0) (by omega) (by omega) c49) (fun c49 => ?_)
          refine wp_iload_n_2 (pc' := 53) dX8_countToward_52 rfl ?_
          refine wp_if_le (pc' := 56) (tgt := 95) dX8_countToward_53 rfl rfl (fun c53 => ?_) (fun c53 => by exfalso; exact c53 (by decide))
          exact key 1 _ (k0 true (hfy.mpr (Or.inr c30)))
    | succ k =>
      refine wp_iload_n_3 (pc' := 13) dX8_countToward_12 rfl ?_
      refine wp_aload_n_0 (pc' := 14) dX8_countToward_13 rfl ?_
      refine wp_callVu (pc' := 17) (c_X8_places hn q) gX8_countToward_X8_places rfl rfl hy_X8_places ⟨Nat.le_of_ble_eq_true rfl, Nat.le_of_ble_eq_true rfl⟩ ⟨rfl, rfl⟩ (Nat.le_of_ble_eq_true rfl) ⟨Nat.le_of_ble_eq_true rfl, Nat.le_of_ble_eq_true rfl⟩ (by omega) (ce8 rfl) rfl rfl dX8_countToward_14 rfl ?_
      refine wp_icmp_ge (pc' := 20) (tgt := 133) dX8_countToward_17 rfl rfl (fun c17 => by exfalso; exact nI_ge (by omega) (by omega) c17) (fun c17 => ?_)
      refine wp_iload_n_2 (pc' := 21) dX8_countToward_20 rfl ?_
      refine wp_if_ne (pc' := 24) (tgt := 37) dX8_countToward_21 rfl rfl (fun c21 => ?_) (fun c21 => by exfalso; exact nI_ne0 (by omega) (by omega) c21)
      refine wp_iconst (pc' := 38) (0) dX8_countToward_37 rfl (by decide) ?_
      refine wp_istore_4 (pc' := 40) dX8_countToward_38 (by decide) rfl rfl ?_
      refine wp_iconst (pc' := 41) (0) dX8_countToward_40 rfl (by decide) ?_
      refine wp_istore_5 (pc' := 43) dX8_countToward_41 (by decide) rfl rfl ?_
      exact lpi_X8_to (g := cf κ R C ρ t f0 k) hn q tk'.1 hκ (by omega) (by omega) (fun x hx => o.2 k x (by omega) hx (Or.inl (by omega))) (fun a5 => key _ a5 (cf_s κ R C ρ t f0 k y).symm) (R * C) 0 (by omega)
theorem lpo_X8_to {R C κ s : Nat} {fr : Int32} {ρ t : Nat → Nat} {f0 : Nat → Bool} {post : PO} (hn : 105 ≤ n) (H0 : Hp) (q0 : ShM H0 R C) (tk : TK H0 κ s t) (nr : NR H0 93 ρ) (hκ : κ ≤ 3) (hs5 : s ≤ 5) (h5 : ∀ i, i < 16 → ρ i ≤ 5) (ht5 : ∀ i, i < s → t i ≤ 5) (hf : ∀ y, y < R * C → (f0 y = true ↔ (fr < 0 ∨ fr = nI y)))
    (K : ∀ h', (∀ a, a ≠ 100 → h' a = H0 a) → (∀ k y, k < s → y < R * C → h' 100 (16 * k + y) = nI (cf κ R C ρ t f0 k y)) → post none (rf0 π) h' lg) :
    ∀ d k : Nat, k + d = s → ∀ h' a3 a4 a5, okc a3 = true → ToW H0 h' κ R C ρ t f0 s k 0 → WP l D cy B cX8_countToward 6 RX8 wsX8_countToward rmX8_countToward none (QE0 D cy B n 0 0 (post)) EX0 n (rf0 π) h' lg 0 0 2 [some (.ref (B + 89)), some (.int fr), some (.int (nI k)), a3, a4, a5] [] := by
  have hl := q0.1.le
  intro d
  induction d with
  | zero =>
    intro k hk h' a3 a4 a5 ho o
    have : k = s := by omega
    subst this
    have tk' := tk.of (o.1 89 (by decide)) (o.1 98 (by decide))
    refine wp_iload_n_2 (pc' := 3) dX8_countToward_2 rfl ?_
    refine wp_aload_n_0 (pc' := 4) dX8_countToward_3 rfl ?_
    refine wp_get_8_14 (pc' := 7) (by omega) rfl me_X8_countToward_3 ic_X8_countToward_8 dX8_countToward_4 rfl ?_
    rw [tk'.2.1]
    refine wp_icmp_ge (pc' := 10) (tgt := 139) dX8_countToward_7 rfl rfl (fun c7 => ?_) (fun c7 => by exfalso; exact c7 (nI_le (Nat.le_refl _) (by omega)))
    refine wp_return dX8_countToward_139 rfl rfl (Nat.le_refl _) (Nat.le_refl _) ?_
    exact K h' o.1 (fun k y z1 z2 => o.2 k y z1 z2 (Or.inl z1))
  | succ d ih =>
    intro k hk h' a3 a4 a5 ho o
    have tk' := tk.of (o.1 89 (by decide)) (o.1 98 (by decide))
    refine wp_iload_n_2 (pc' := 3) dX8_countToward_2 rfl ?_
    refine wp_aload_n_0 (pc' := 4) dX8_countToward_3 rfl ?_
    refine wp_get_8_14 (pc' := 7) (by omega) rfl me_X8_countToward_3 ic_X8_countToward_8 dX8_countToward_4 rfl ?_
    rw [tk'.2.1]
    refine wp_icmp_ge (pc' := 10) (tgt := 139) dX8_countToward_7 rfl rfl (fun c7 => by exfalso; exact nI_ge (by omega) (by omega) c7) (fun c7 => ?_)
    refine wp_iconst (pc' := 11) (0) dX8_countToward_10 rfl (by decide) ?_
    refine wp_istore_n_3 (pc' := 12) dX8_countToward_11 (by decide) rfl rfl ?_
    refine lpm_X8_to hn H0 q0 tk nr hκ hs5 (by omega) h5 ht5 hf (fun h2 b4 b5 o2 => ?_) (R * C) 0 (by omega) h' _ _ o
    refine wp_iinc_2 (pc' := 136) (v := nI (k + 1)) dX8_countToward_133 (by first | rfl | exact nI_1 _) (by decide) rfl rfl ?_
    refine wp_goto (tgt := 2) dX8_countToward_136 rfl ?_
    exact ih (k + 1) (by omega) h2 _ _ _ rfl ⟨o2.1, fun k' y' z1 z2 z3 => o2.2 k' y' z1 z2 (by omega)⟩
theorem c_X8_countToward {R C κ s : Nat} {fr : Int32} {ρ t : Nat → Nat} {f0 : Nat → Bool} (hn : 105 ≤ n) (q : ShM h R C) (tk : TK h κ s t) (nr : NR h 93 ρ) (hκ : κ ≤ 3) (hs5 : s ≤ 5) (h5 : ∀ i, i < 16 → ρ i ≤ 5) (ht5 : ∀ i, i < s → t i ≤ 5) (hf : ∀ y, y < R * C → (f0 y = true ↔ (fr < 0 ∨ fr = nI y))) : Ctr l D cy B yX8_countToward wsX8_countToward rmX8_countToward 0 0 n (rf0 π) h lg [.ref (B + 89), .int fr] (qV (fun h' => (∀ a, a ≠ 100 → h' a = h a) ∧ ∀ k y, k < s → y < R * C → h' 100 (16 * k + y) = nI (cf κ R C ρ t f0 k y)) (rf0 π) lg) := by
  refine Ctr.of (cc := cX8_countToward) (nL := 6) (own := RX8) (rt := none) (ls := [some (.ref (B + 89)), some (.int fr), none, none, none, none]) (by decide) rfl rfl (Nat.le_of_ble_eq_true rfl) rfl ?_
  refine wp_iconst (pc' := 1) (0) dX8_countToward_0 rfl (by decide) ?_
  refine wp_istore_n_2 (pc' := 2) dX8_countToward_1 (by decide) rfl rfl ?_
  exact lpo_X8_to hn h q tk nr hκ hs5 h5 ht5 hf (fun h' e0 e1 => qV_of ⟨e0, e1⟩) s 0 (by omega) h _ _ _ rfl ⟨fun _ _ => rfl, fun k' y' z1 z2 z3 => by omega⟩
theorem lp_X8_waysOf {R C : Nat} {g : Nat → Nat} {w : Int32} {post : PO} (hn : 105 ≤ n) (q : ShM h R C) (hg : ∀ x, x < R * C → h 99 x = nI (g x)) (K : post (some (.int (nI (sumN (R * C) g)))) (rf0 π) h lg) :
    ∀ d x : Nat, x + d = R * C → WP l D cy B cX8_waysOf 4 RX8 wsX8_waysOf rmX8_waysOf (some .int) (QE0 D cy B n 0 0 (post)) EX0 n (rf0 π) h lg 0 0 13 [some (.ref (B + 89)), some (.int w), some (.int (nI (sumN x g))), some (.int (nI x))] [] := by
  have hl := q.1.le
  intro d
  induction d with
  | zero =>
    intro x hx
    have : x = R * C := by omega
    subst this
    refine wp_iload_n_3 (pc' := 14) dX8_waysOf_13 rfl ?_
    refine wp_aload_n_0 (pc' := 15) dX8_waysOf_14 rfl ?_
    refine wp_callVu (pc' := 18) (c_X8_places hn q) gX8_waysOf_X8_places rfl rfl hy_X8_places ⟨Nat.le_of_ble_eq_true rfl, Nat.le_of_ble_eq_true rfl⟩ ⟨rfl, rfl⟩ (Nat.le_of_ble_eq_true rfl) ⟨Nat.le_of_ble_eq_true rfl, Nat.le_of_ble_eq_true rfl⟩ (by omega) (ce8 rfl) rfl rfl dX8_waysOf_15 rfl ?_
    refine wp_icmp_ge (pc' := 21) (tgt := 36) dX8_waysOf_18 rfl rfl (fun c18 => ?_) (fun c18 => by exfalso; exact c18 (nI_le (Nat.le_refl _) (by omega)))
    refine wp_iload_n_2 (pc' := 37) dX8_waysOf_36 rfl ?_
    refine wp_ireturn dX8_waysOf_37 rfl rfl (Nat.le_refl _) (Nat.le_refl _) ?_
    exact K
  | succ d ih =>
    intro x hx
    refine wp_iload_n_3 (pc' := 14) dX8_waysOf_13 rfl ?_
    refine wp_aload_n_0 (pc' := 15) dX8_waysOf_14 rfl ?_
    refine wp_callVu (pc' := 18) (c_X8_places hn q) gX8_waysOf_X8_places rfl rfl hy_X8_places ⟨Nat.le_of_ble_eq_true rfl, Nat.le_of_ble_eq_true rfl⟩ ⟨rfl, rfl⟩ (Nat.le_of_ble_eq_true rfl) ⟨Nat.le_of_ble_eq_true rfl, Nat.le_of_ble_eq_true rfl⟩ (by omega) (ce8 rfl) rfl rfl dX8_waysOf_15 rfl ?_
    refine wp_icmp_ge (pc' := 21) (tgt := 36) dX8_waysOf_18 rfl rfl (fun c18 => by exfalso; exact nI_ge (by omega) (by omega) c18) (fun c18 => ?_)
    refine wp_iload_n_2 (pc' := 22) dX8_waysOf_21 rfl ?_
    refine wp_aload_n_0 (pc' := 23) dX8_waysOf_22 rfl ?_
    refine wp_get_8_16 (pc' := 26) (by omega) rfl rfl me_X8_waysOf_0 ic_X8_waysOf_8 dX8_waysOf_23 rfl ?_
    refine wp_iload_n_3 (pc' := 27) dX8_waysOf_26 rfl ?_
    refine wp_iald (pc' := 28) (N := 80) (by omega) rfl rfl (by first | exact vp_in_nI (by omega) (by omega) | assumption | (unfold vp_in; decide)) dX8_waysOf_27 rfl ?_
    rw [nI_clamp (by omega), hg x (by omega)]
    refine wp_iadd (pc' := 29) dX8_waysOf_28 rfl ?_
    rw [nI_add]
    refine wp_istore_n_2 (pc' := 30) dX8_waysOf_29 (by decide) rfl rfl ?_
    refine wp_iinc_3 (pc' := 33) (v := nI (x + 1)) dX8_waysOf_30 (by first | rfl | exact nI_1 _) (by decide) rfl rfl ?_
    refine wp_goto (tgt := 13) dX8_waysOf_33 rfl ?_
    exact ih (x + 1) (by omega)
theorem c_X8_waysOf {R C w : Nat} {ρ : Nat → Nat} (hn : 105 ≤ n) (q : ShM h R C) (nr : NR h 93 ρ) (ok : RowOK ρ) (hw : w < ρ 16) : Ctr l D cy B yX8_waysOf wsX8_waysOf rmX8_waysOf 0 0 n (rf0 π) h lg [.ref (B + 89), .int (nI w)] (qI (fun v h' => v = nI (waysN R C ρ ρ w) ∧ MF h' h ∧ TK h' (kw ρ w) (sw ρ w) (tm ρ w) ∧ ∀ k x, k < sw ρ w → x < R * C → h' 99 (16 * k + x) = nI (cb (kw ρ w) R C ρ (tm ρ w) (sw ρ w) (sw ρ w - 1 - k) x)) (rf0 π) lg) := by
  obtain ⟨w5, hk3, hs2, hs5⟩ := ok.w hw
  refine Ctr.of (cc := cX8_waysOf) (nL := 4) (own := RX8) (rt := (some .int)) (ls := [some (.ref (B + 89)), some (.int (nI w)), none, none]) (by decide) rfl rfl (Nat.le_of_ble_eq_true rfl) rfl ?_
  refine wp_aload_n_0 (pc' := 1) dX8_waysOf_0 rfl ?_
  refine wp_iload_n_1 (pc' := 2) dX8_waysOf_1 rfl ?_
  refine wp_callVv (pc' := 5) (c_X8_take hn nr ok hw) gX8_waysOf_X8_take rfl rfl hy_X8_take ⟨Nat.le_of_ble_eq_true rfl, Nat.le_of_ble_eq_true rfl⟩ ⟨rfl, rfl⟩ (Nat.le_of_ble_eq_true rfl) ⟨Nat.le_of_ble_eq_true rfl, Nat.le_of_ble_eq_true rfl⟩ (by omega) (ce8 rfl) rfl rfl dX8_waysOf_2 rfl (fun h2 q2 => ?_)
  refine wp_aload_n_0 (pc' := 6) dX8_waysOf_5 rfl ?_
  refine wp_callVv (pc' := 9) (c_X8_countOnward hn (q2.1.sh q) q2.2 (q2.1.nr nr) hk3 hs5 ok.1 (fun i hi => tm_le ok hw hi)) gX8_waysOf_X8_countOnward rfl rfl hy_X8_countOnward ⟨Nat.le_of_ble_eq_true rfl, Nat.le_of_ble_eq_true rfl⟩ ⟨rfl, rfl⟩ (Nat.le_of_ble_eq_true rfl) ⟨Nat.le_of_ble_eq_true rfl, Nat.le_of_ble_eq_true rfl⟩ (by omega) (ce8 rfl) rfl rfl dX8_waysOf_6 rfl (fun h6 q6 => ?_)
  refine wp_iconst (pc' := 10) (0) dX8_waysOf_9 rfl (by decide) ?_
  refine wp_istore_n_2 (pc' := 11) dX8_waysOf_10 (by decide) rfl rfl ?_
  refine wp_iconst (pc' := 12) (0) dX8_waysOf_11 rfl (by decide) ?_
  refine wp_istore_n_3 (pc' := 13) dX8_waysOf_12 (by decide) rfl rfl ?_
  refine lp_X8_waysOf (g := cb (kw ρ w) R C ρ (tm ρ w) (sw ρ w) (sw ρ w - 1)) (R := R) (C := C) hn (q.of (by rw [q6.1 91 (by decide), q2.1.1 91 (by omega)]) (by rw [q6.1 91 (by decide), q2.1.1 91 (by omega)])) (fun x hx => by have := q6.2 0 x (by omega) hx; rwa [show 16 * 0 + x = x by omega, Nat.sub_zero] at this) (qI_of ⟨?_, MF.tr (MF.hi (fun a ha => q6.1 a (by omega))) q2.1, q2.2.of (q6.1 89 (by decide)) (q6.1 98 (by decide)), q6.2⟩) (R * C) 0 (by omega)
  rw [ways_same (kw ρ w) R C ρ (tm ρ w) (by omega)]; rfl
theorem cf_b {κ R C : Nat} (h : R * C ≤ 16) (mk t : Nat → Nat) (f0 : Nat → Bool) {i x : Nat} (hi : i < 5) : cf κ R C mk t f0 i x < 2 ^ 31 := by
  have z := cf_le (κ := κ) h mk t f0 i x
  have : 16 ^ i ≤ 16 ^ 4 := Nat.pow_le_pow_right (by decide) (by omega)
  omega
theorem lp_X8_endsOf {R C κ s : Nat} {ρ t : Nat → Nat} {post : PO} (hn : 105 ≤ n) (q : ShM h R C) (hm : h 89 14 = nI s) (hs1 : 1 ≤ s) (hs5 : s ≤ 5) (hg : ∀ x, x < R * C → h 100 (16 * (s - 1) + x) = nI (cf κ R C ρ t (fun _ => true) (s - 1) x)) (K : post (some (.int (S (fw κ R C ρ t (fun _ => true) (s - 1))))) (rf0 π) h lg) :
    ∀ d x : Nat, x + d = R * C → WP l D cy B cX8_endsOf 3 RX8 wsX8_endsOf rmX8_endsOf (some .int) (QE0 D cy B n 0 0 (post)) EX0 n (rf0 π) h lg 0 0 10 [some (.ref (B + 89)), some (.int (SN x (fw κ R C ρ t (fun _ => true) (s - 1)))), some (.int (nI x))] [] := by
  have hl := q.1.le
  intro d
  induction d with
  | zero =>
    intro x hx
    have : x = R * C := by omega
    subst this
    rw [SN_S hl (fun i z1 _ => fw_sup κ R C ρ t (fun _ => true) (s - 1) i z1)]
    refine wp_iload_n_2 (pc' := 11) dX8_endsOf_10 rfl ?_
    refine wp_aload_n_0 (pc' := 12) dX8_endsOf_11 rfl ?_
    refine wp_callVu (pc' := 15) (c_X8_places hn q) gX8_endsOf_X8_places rfl rfl hy_X8_places ⟨Nat.le_of_ble_eq_true rfl, Nat.le_of_ble_eq_true rfl⟩ ⟨rfl, rfl⟩ (Nat.le_of_ble_eq_true rfl) ⟨Nat.le_of_ble_eq_true rfl, Nat.le_of_ble_eq_true rfl⟩ (by omega) (ce8 rfl) rfl rfl dX8_endsOf_12 rfl ?_
    refine wp_icmp_ge (pc' := 18) (tgt := 53) dX8_endsOf_15 rfl rfl (fun c15 => ?_) (fun c15 => by exfalso; exact c15 (nI_le (Nat.le_refl _) (by omega)))
    refine wp_iload_n_1 (pc' := 54) dX8_endsOf_53 rfl ?_
    refine wp_ireturn dX8_endsOf_54 rfl rfl (Nat.le_refl _) (Nat.le_refl _) ?_
    exact K
  | succ d ih =>
    intro x hx
    have cbn := cf_b (κ := κ) hl ρ t (fun _ => true) (i := s - 1) (x := x) (by omega)
    refine wp_iload_n_2 (pc' := 11) dX8_endsOf_10 rfl ?_
    refine wp_aload_n_0 (pc' := 12) dX8_endsOf_11 rfl ?_
    refine wp_callVu (pc' := 15) (c_X8_places hn q) gX8_endsOf_X8_places rfl rfl hy_X8_places ⟨Nat.le_of_ble_eq_true rfl, Nat.le_of_ble_eq_true rfl⟩ ⟨rfl, rfl⟩ (Nat.le_of_ble_eq_true rfl) ⟨Nat.le_of_ble_eq_true rfl, Nat.le_of_ble_eq_true rfl⟩ (by omega) (ce8 rfl) rfl rfl dX8_endsOf_12 rfl ?_
    refine wp_icmp_ge (pc' := 18) (tgt := 53) dX8_endsOf_15 rfl rfl (fun c15 => by exfalso; exact nI_ge (by omega) (by omega) c15) (fun c15 => ?_)
    refine wp_iload_n_1 (pc' := 19) dX8_endsOf_18 rfl ?_
    refine wp_aload_n_0 (pc' := 20) dX8_endsOf_19 rfl ?_
    refine wp_get_8_17 (pc' := 23) (by omega) rfl rfl me_X8_endsOf_0 ic_X8_endsOf_8 dX8_endsOf_20 rfl ?_
    refine wp_bipush (pc' := 25) (16) dX8_endsOf_23 rfl (by decide) ?_
    refine wp_aload_n_0 (pc' := 26) dX8_endsOf_25 rfl ?_
    refine wp_get_8_14 (pc' := 29) (by omega) rfl me_X8_endsOf_1 ic_X8_endsOf_8 dX8_endsOf_26 rfl ?_
    rw [hm]
    refine wp_iconst (pc' := 30) (1) dX8_endsOf_29 rfl (by decide) ?_
    refine wp_isub (pc' := 31) dX8_endsOf_30 rfl ?_
    rw [nI_pred' hs1]
    refine wp_imul (pc' := 32) dX8_endsOf_31 rfl ?_
    refine wp_iload_n_2 (pc' := 33) dX8_endsOf_32 rfl ?_
    refine wp_iadd (pc' := 34) dX8_endsOf_33 rfl ?_
    rw [ix16]
    refine wp_iald (pc' := 35) (N := 80) (by omega) rfl rfl (by first | exact vp_in_nI (by omega) (by omega) | assumption | (unfold vp_in; decide)) dX8_endsOf_34 rfl ?_
    rw [nI_clamp (by omega), hg x (by omega)]
    refine wp_if_le (pc' := 38) (tgt := 44) dX8_endsOf_35 rfl rfl (fun c35 => ?_) (fun c35 => ?_)
    · skip -- 35 taken
      refine wp_iconst (pc' := 45) (0) dX8_endsOf_44 rfl (by decide) ?_
      refine wp_ior (pc' := 46) dX8_endsOf_45 rfl ?_
      refine wp_istore_n_1 (pc' := 47) dX8_endsOf_46 (by decide) rfl rfl ?_
      refine wp_iinc_2 (pc' := 50) (v := nI (x + 1)) dX8_endsOf_47 (by first | rfl | exact nI_1 _) (by decide) rfl rfl ?_
      refine wp_goto (tgt := 10) dX8_endsOf_50 rfl ?_
      have z := ih (x + 1) (by omega)
      have e : fw κ R C ρ t (fun _ => true) (s - 1) x = false := by
        rw [Bool.eq_false_iff, ne_eq, fw_iff]
        intro w
        exact nI_nle w cbn c35
      rw [show SN (x + 1) (fw κ R C ρ t (fun _ => true) (s - 1)) = SN x (fw κ R C ρ t (fun _ => true) (s - 1)) ||| 0 by simp [SN, e]] at z
      exact z
    · skip -- 35 not taken
      refine wp_iconst (pc' := 39) (1) dX8_endsOf_38 rfl (by decide) ?_
      refine wp_iload_n_2 (pc' := 40) dX8_endsOf_39 rfl ?_
      refine wp_ishl (pc' := 41) dX8_endsOf_40 rfl ?_
      refine wp_goto (tgt := 45) dX8_endsOf_41 rfl ?_
      refine wp_ior (pc' := 46) dX8_endsOf_45 rfl ?_
      refine wp_istore_n_1 (pc' := 47) dX8_endsOf_46 (by decide) rfl rfl ?_
      refine wp_iinc_2 (pc' := 50) (v := nI (x + 1)) dX8_endsOf_47 (by first | rfl | exact nI_1 _) (by decide) rfl rfl ?_
      refine wp_goto (tgt := 10) dX8_endsOf_50 rfl ?_
      have z := ih (x + 1) (by omega)
      have e : fw κ R C ρ t (fun _ => true) (s - 1) x = true := by
        rw [fw_iff]
        rcases Nat.eq_zero_or_pos (cf κ R C ρ t (fun _ => true) (s - 1) x) with w | w
        · exfalso; rw [w] at c35; exact c35 (by decide)
        · exact w
      rw [show SN (x + 1) (fw κ R C ρ t (fun _ => true) (s - 1)) = SN x (fw κ R C ρ t (fun _ => true) (s - 1)) ||| ((1 : Int32) <<< (nI x &&& 31)) by simp [SN, e]] at z
      exact z
theorem c_X8_endsOf {R C κ s : Nat} {ρ t : Nat → Nat} (hn : 105 ≤ n) (q : ShM h R C) (tk : TK h κ s t) (nr : NR h 93 ρ) (hκ : κ ≤ 3) (hs1 : 1 ≤ s) (hs5 : s ≤ 5) (h5 : ∀ i, i < 16 → ρ i ≤ 5) (ht5 : ∀ i, i < s → t i ≤ 5) : Ctr l D cy B yX8_endsOf wsX8_endsOf rmX8_endsOf 0 0 n (rf0 π) h lg [.ref (B + 89)] (qI (fun v h' => v = S (fw κ R C ρ t (fun _ => true) (s - 1)) ∧ ∀ a, a ≠ 100 → h' a = h a) (rf0 π) lg) := by
  refine Ctr.of (cc := cX8_endsOf) (nL := 3) (own := RX8) (rt := (some .int)) (ls := [some (.ref (B + 89)), none, none]) (by decide) rfl rfl (Nat.le_of_ble_eq_true rfl) rfl ?_
  refine wp_aload_n_0 (pc' := 1) dX8_endsOf_0 rfl ?_
  refine wp_bipush (pc' := 3) (-4) dX8_endsOf_1 rfl (by decide) ?_
  refine wp_callVv (pc' := 6) (c_X8_countToward (f0 := fun _ => true) hn q tk nr hκ hs5 h5 ht5 (fun y _ => ⟨fun _ => Or.inl (by decide), fun _ => rfl⟩)) gX8_endsOf_X8_countToward rfl rfl hy_X8_countToward ⟨Nat.le_of_ble_eq_true rfl, Nat.le_of_ble_eq_true rfl⟩ ⟨rfl, rfl⟩ (Nat.le_of_ble_eq_true rfl) ⟨Nat.le_of_ble_eq_true rfl, Nat.le_of_ble_eq_true rfl⟩ (by omega) (ce8 rfl) rfl rfl dX8_endsOf_3 rfl (fun h3 q3 => ?_)
  refine wp_iconst (pc' := 7) (0) dX8_endsOf_6 rfl (by decide) ?_
  refine wp_istore_n_1 (pc' := 8) dX8_endsOf_7 (by decide) rfl rfl ?_
  refine wp_iconst (pc' := 9) (0) dX8_endsOf_8 rfl (by decide) ?_
  refine wp_istore_n_2 (pc' := 10) dX8_endsOf_9 (by decide) rfl rfl ?_
  exact lp_X8_endsOf (R := R) (C := C) (κ := κ) (ρ := ρ) (t := t) hn (q.of (by rw [q3.1 91 (by decide)]) (by rw [q3.1 91 (by decide)])) (by rw [q3.1 89 (by decide)]; exact tk.2.1) hs1 hs5 (fun x hx => q3.2 (s - 1) x (by omega) hx) (qI_of ⟨rfl, q3.1⟩) (R * C) 0 (by omega)
theorem waysN_b {R C w : Nat} {mk ρ : Nat → Nat} (hl : R * C ≤ 16) (ok : RowOK ρ) (hw : w < ρ 16) : waysN R C mk ρ w < 2 ^ 31 := by
  obtain ⟨w5, hk3, hs2, hs5⟩ := ok.w hw
  unfold waysN
  have := sumN_le (n := R * C) (f := cf (kw ρ w) R C mk (tm ρ w) (fun _ => true) (sw ρ w - 1)) (b := 65536) (fun x _ => by
    have z := cf_le (κ := kw ρ w) hl mk (tm ρ w) (fun _ => true) (sw ρ w - 1) x
    have : 16 ^ (sw ρ w - 1) ≤ 16 ^ 4 := Nat.pow_le_pow_right (by decide) (by omega)
    omega)
  have := Nat.mul_le_mul_right 65536 hl
  omega
theorem lp_X8_liedNow {R C : Nat} {ρ : Nat → Nat} {post : PO} (hn : 105 ≤ n) (H0 : Hp) (q0 : ShM H0 R C) (nr0 : NR H0 93 ρ) (ok : RowOK ρ) (K : ∀ h', MF h' H0 → post (some (.int (SN (ρ 16) (lieB R C ρ)))) (rf0 π) h' lg) :
    ∀ d w : Nat, w + d = ρ 16 → ∀ h', MF h' H0 → WP l D cy B cX8_liedNow 3 RX8 wsX8_liedNow rmX8_liedNow (some .int) (QE0 D cy B n 0 0 (post)) EX0 n (rf0 π) h' lg 0 0 4 [some (.ref (B + 89)), some (.int (SN w (lieB R C ρ))), some (.int (nI w))] [] := by
  have hl := q0.1.le
  have h5 := ok.2.1
  intro d
  induction d with
  | zero =>
    intro w hw h' f
    have : w = ρ 16 := by omega
    subst this
    have nr := f.nr nr0
    refine wp_iload_n_2 (pc' := 5) dX8_liedNow_4 rfl ?_
    refine wp_aload_n_0 (pc' := 6) dX8_liedNow_5 rfl ?_
    refine wp_get_8_4 (pc' := 9) (by omega) rfl rfl me_X8_liedNow_0 ic_X8_liedNow_8 dX8_liedNow_6 rfl ?_
    refine wp_bipush (pc' := 11) (16) dX8_liedNow_9 rfl (by decide) ?_
    refine wp_iald (pc' := 12) (N := 52) (by omega) rfl rfl (by first | exact vp_in_nI (by omega) (by omega) | assumption | (unfold vp_in; decide)) dX8_liedNow_11 rfl ?_
    rw [show (16 : Int32).toNatClampNeg = 16 from rfl, nr 16 (by omega)]
    refine wp_icmp_ge (pc' := 15) (tgt := 39) dX8_liedNow_12 rfl rfl (fun c12 => ?_) (fun c12 => by exfalso; exact c12 (nI_le (Nat.le_refl _) (by omega)))
    refine wp_iload_n_1 (pc' := 40) dX8_liedNow_39 rfl ?_
    refine wp_ireturn dX8_liedNow_40 rfl rfl (Nat.le_refl _) (Nat.le_refl _) ?_
    exact K h' f
  | succ d ih =>
    intro w hwd h' f
    have nr := f.nr nr0
    have q := f.sh q0
    have hw : w < ρ 16 := by omega
    have wb := waysN_b (mk := ρ) hl ok hw
    refine wp_iload_n_2 (pc' := 5) dX8_liedNow_4 rfl ?_
    refine wp_aload_n_0 (pc' := 6) dX8_liedNow_5 rfl ?_
    refine wp_get_8_4 (pc' := 9) (by omega) rfl rfl me_X8_liedNow_0 ic_X8_liedNow_8 dX8_liedNow_6 rfl ?_
    refine wp_bipush (pc' := 11) (16) dX8_liedNow_9 rfl (by decide) ?_
    refine wp_iald (pc' := 12) (N := 52) (by omega) rfl rfl (by first | exact vp_in_nI (by omega) (by omega) | assumption | (unfold vp_in; decide)) dX8_liedNow_11 rfl ?_
    rw [show (16 : Int32).toNatClampNeg = 16 from rfl, nr 16 (by omega)]
    refine wp_icmp_ge (pc' := 15) (tgt := 39) dX8_liedNow_12 rfl rfl (fun c12 => by exfalso; exact nI_ge (by omega) (by omega) c12) (fun c12 => ?_)
    refine wp_iload_n_1 (pc' := 16) dX8_liedNow_15 rfl ?_
    refine wp_aload_n_0 (pc' := 17) dX8_liedNow_16 rfl ?_
    refine wp_iload_n_2 (pc' := 18) dX8_liedNow_17 rfl ?_
    refine wp_callVq (pc' := 21) (c_X8_waysOf hn q nr ok hw) gX8_liedNow_X8_waysOf rfl rfl hy_X8_waysOf ⟨Nat.le_of_ble_eq_true rfl, Nat.le_of_ble_eq_true rfl⟩ ⟨rfl, rfl⟩ (Nat.le_of_ble_eq_true rfl) ⟨Nat.le_of_ble_eq_true rfl, Nat.le_of_ble_eq_true rfl⟩ (by omega) (ce8 rfl) rfl rfl dX8_liedNow_18 rfl (fun x18 h18 q18 => ?_)
    obtain ⟨g0, g1, _⟩ := q18
    subst g0
    refine wp_if_ne (pc' := 24) (tgt := 30) dX8_liedNow_21 rfl rfl (fun c21 => ?_) (fun c21 => ?_)
    · skip -- 21 taken
      refine wp_iconst (pc' := 31) (0) dX8_liedNow_30 rfl (by decide) ?_
      refine wp_ior (pc' := 32) dX8_liedNow_31 rfl ?_
      refine wp_istore_n_1 (pc' := 33) dX8_liedNow_32 (by decide) rfl rfl ?_
      refine wp_iinc_2 (pc' := 36) (v := nI (w + 1)) dX8_liedNow_33 (by first | rfl | exact nI_1 _) (by decide) rfl rfl ?_
      refine wp_goto (tgt := 4) dX8_liedNow_36 rfl ?_
      have z := ih (w + 1) (by omega) h18 (g1.tr f)
      have e : lieB R C ρ w = false := by unfold lieB; exact decide_eq_false (fun q => c21 (by rw [q]; rfl))
      rw [show SN (w + 1) (lieB R C ρ) = SN w (lieB R C ρ) ||| 0 by simp [SN, e]] at z
      exact z
    · skip -- 21 not taken
      refine wp_iconst (pc' := 25) (1) dX8_liedNow_24 rfl (by decide) ?_
      refine wp_iload_n_2 (pc' := 26) dX8_liedNow_25 rfl ?_
      refine wp_ishl (pc' := 27) dX8_liedNow_26 rfl ?_
      refine wp_goto (tgt := 31) dX8_liedNow_27 rfl ?_
      refine wp_ior (pc' := 32) dX8_liedNow_31 rfl ?_
      refine wp_istore_n_1 (pc' := 33) dX8_liedNow_32 (by decide) rfl rfl ?_
      refine wp_iinc_2 (pc' := 36) (v := nI (w + 1)) dX8_liedNow_33 (by first | rfl | exact nI_1 _) (by decide) rfl rfl ?_
      refine wp_goto (tgt := 4) dX8_liedNow_36 rfl ?_
      have z := ih (w + 1) (by omega) h18 (g1.tr f)
      have e : lieB R C ρ w = true := by unfold lieB; exact decide_eq_true ((nI_eq wb (by omega)).mp (show nI (waysN R C ρ ρ w) = nI 0 from c21))
      rw [show SN (w + 1) (lieB R C ρ) = SN w (lieB R C ρ) ||| ((1 : Int32) <<< (nI w &&& 31)) by simp [SN, e]] at z
      exact z
theorem c_X8_liedNow {R C : Nat} {ρ : Nat → Nat} (hn : 105 ≤ n) (q : ShM h R C) (nr : NR h 93 ρ) (ok : RowOK ρ) : Ctr l D cy B yX8_liedNow wsX8_liedNow rmX8_liedNow 0 0 n (rf0 π) h lg [.ref (B + 89)] (qI (fun v h' => v = SN (ρ 16) (lieB R C ρ) ∧ MF h' h) (rf0 π) lg) := by
  refine Ctr.of (cc := cX8_liedNow) (nL := 3) (own := RX8) (rt := (some .int)) (ls := [some (.ref (B + 89)), none, none]) (by decide) rfl rfl (Nat.le_of_ble_eq_true rfl) rfl ?_
  refine wp_iconst (pc' := 1) (0) dX8_liedNow_0 rfl (by decide) ?_
  refine wp_istore_n_1 (pc' := 2) dX8_liedNow_1 (by decide) rfl rfl ?_
  refine wp_iconst (pc' := 3) (0) dX8_liedNow_2 rfl (by decide) ?_
  refine wp_istore_n_2 (pc' := 4) dX8_liedNow_3 (by decide) rfl rfl ?_
  exact lp_X8_liedNow hn h q nr ok (fun h' f => qI_of ⟨rfl, f⟩) (ρ 16) 0 (by omega) h (MF.rf h)
theorem SN_any {f : Nat → Bool} {m : Nat} (hm : m ≤ 16) : SN m f = 0 ↔ anyB m f = false := by
  rw [SN_lim f hm, S_eq0, Bool.eq_false_iff, ne_eq, anyB_iff]
  constructor
  · rintro z ⟨i, h1, h2⟩
    have := z i (by omega)
    simp [h1, h2] at this
  · intro z i hi
    cases e : f i
    · simp
    · by_cases q : i < m
      · exact absurd ⟨i, q, e⟩ z
      · simp [q]
theorem lied0 {R C : Nat} {ρ : Nat → Nat} (ok : RowOK ρ) : SN (ρ 16) (lieB R C ρ) = 0 ↔ anyL R C ρ = false := SN_any (by have := ok.2.1; omega)
end VM3

