abbrev rmX8_huts : Room := { frames := 1, cells := 0, slots := 0, locals := 25 }
theorem hy_X8_huts : yX8_huts.cls = RX8 ∧ yX8_huts.cls ≠ "java/lang/invoke/MethodHandle" ∧ yX8_huts.cls ≠ "java/lang/invoke/VarHandle" ∧ (parseMethodDescriptor yX8_huts.desc).map (fun d => d.parameters.length) = some 1 := by decide +kernel
theorem hz_X8_huts : yX8_huts.cls ≠ "java/lang/invoke/MethodHandle" ∧ yX8_huts.cls ≠ "java/lang/invoke/VarHandle" ∧ (parseMethodDescriptor yX8_huts.desc).map (fun d => d.parameters.length) = some 1 := by decide +kernel
theorem me_X8_huts_0 : Cond.fieldLink RX8 50 "DrawnByLostModel" "sets" "[I" ∈ wsX8_huts := by decide +kernel
theorem me_X8_huts_1 : Cond.fieldLink RX8 19 "DrawnByLostModel" "now" "[I" ∈ wsX8_huts := by decide +kernel
theorem ic_X8_huts_8 : ∀ w ∈ wsX80, w ∈ wsX8_huts := by decide +kernel
-- the reference's calls: huts
section VMB
variable {l : Launch} {D : va_G} {cy : CY} {B n : Nat} {h : Hp} {lg : Lg} {π : Nat → Nat} {σ : Sg}
def SL (h : Hp) (P : Nat) (g : Nat → Bool) (L : Nat → Nat) : Prop := ∀ y, y < P → h 103 y = (if g y = true then nI (L y) else -4) ∧ (g y = true → L y < P)
theorem SL.set {P x v : Nat} {g : Nat → Bool} {L : Nat → Nat} (s : SL h P g L) (gx : g x = true) (hv : v < P) : SL (hup h 103 x (nI v)) P g (setF L x v) := fun y hy => by
  by_cases e : y = x
  · subst e; rw [hup_at, setF_at, if_pos gx]; exact ⟨rfl, fun _ => hv⟩
  · rw [hup_off e, setF_off e]; exact s y hy
theorem lp0_X8_huts {R C : Nat} {t : Int32} {ρ : Nat → Nat} {post : PO} (hn : 105 ≤ n) (H0 : Hp) (q0 : ShM H0 R C) (nr : NR H0 93 ρ) (h5 : ∀ i, i < 16 → ρ i ≤ 5)
    (K : ∀ h', (∀ a, a ≠ 103 → h' a = H0 a) → SL h' (R * C) (atB R C ρ 2) (fun y => y) → ∀ a2, WP l D cy B cX8_huts 7 RX8 wsX8_huts rmX8_huts (some .int) (QE0 D cy B n 0 0 (post)) EX0 n (rf0 π) h' lg 0 0 50 [some (.ref (B + 89)), some (.int t), a2, none, none, none, none] []) :
    ∀ d x : Nat, x + d = R * C → ∀ h', (∀ a, a ≠ 103 → h' a = H0 a) → (∀ y, y < x → h' 103 y = (if atB R C ρ 2 y = true then nI y else -4)) → WP l D cy B cX8_huts 7 RX8 wsX8_huts rmX8_huts (some .int) (QE0 D cy B n 0 0 (post)) EX0 n (rf0 π) h' lg 0 0 14 [some (.ref (B + 89)), some (.int t), some (.int (nI x)), none, none, none, none] [] := by
  have hl := q0.1.le
  intro d
  induction d with
  | zero =>
    intro x hx h' e0 e1
    have : x = R * C := by omega
    subst this
    have q := q0.of (h' := h') (by rw [e0 91 (by decide)]) (by rw [e0 91 (by decide)])
    refine wp_iload_n_2 (pc' := 15) dX8_huts_14 rfl ?_
    refine wp_aload_n_0 (pc' := 16) dX8_huts_15 rfl ?_
    refine wp_callVu (pc' := 19) (c_X8_places hn q) gX8_huts_X8_places rfl rfl hy_X8_places ⟨Nat.le_of_ble_eq_true rfl, Nat.le_of_ble_eq_true rfl⟩ ⟨rfl, rfl⟩ (Nat.le_of_ble_eq_true rfl) ⟨Nat.le_of_ble_eq_true rfl, Nat.le_of_ble_eq_true rfl⟩ (by omega) (ce8 rfl) rfl rfl dX8_huts_16 rfl ?_
    refine wp_icmp_ge (pc' := 22) (tgt := 50) dX8_huts_19 rfl rfl (fun c19 => ?_) (fun c19 => by exfalso; exact c19 (nI_le (Nat.le_refl _) (by omega)))
    exact K h' e0 (fun y hy => ⟨e1 y hy, fun _ => hy⟩) _
  | succ d ih =>
    intro x hx h' e0 e1
    have q := q0.of (h' := h') (by rw [e0 91 (by decide)]) (by rw [e0 91 (by decide)])
    have x5 := h5 x (by omega)
    have fin : ∀ v, v = (if atB R C ρ 2 x = true then nI x else -4) → WP l D cy B cX8_huts 7 RX8 wsX8_huts rmX8_huts (some .int) (QE0 D cy B n 0 0 (post)) EX0 n (rf0 π) (hup h' 103 x v) lg 0 0 14 [some (.ref (B + 89)), some (.int t), some (.int (nI (x + 1))), none, none, none, none] [] := by
      intro v hv
      refine ih (x + 1) (by omega) _ (fun a ha => by rw [hup_cell ha]; exact e0 a ha) (fun y hy => ?_)
      by_cases e : y = x
      · subst e; rw [hup_at]; exact hv
      · rw [hup_off e]; exact e1 y (by omega)
    refine wp_iload_n_2 (pc' := 15) dX8_huts_14 rfl ?_
    refine wp_aload_n_0 (pc' := 16) dX8_huts_15 rfl ?_
    refine wp_callVu (pc' := 19) (c_X8_places hn q) gX8_huts_X8_places rfl rfl hy_X8_places ⟨Nat.le_of_ble_eq_true rfl, Nat.le_of_ble_eq_true rfl⟩ ⟨rfl, rfl⟩ (Nat.le_of_ble_eq_true rfl) ⟨Nat.le_of_ble_eq_true rfl, Nat.le_of_ble_eq_true rfl⟩ (by omega) (ce8 rfl) rfl rfl dX8_huts_16 rfl ?_
    refine wp_icmp_ge (pc' := 22) (tgt := 50) dX8_huts_19 rfl rfl (fun c19 => by exfalso; exact nI_ge (by omega) (by omega) c19) (fun c19 => ?_)
    refine wp_aload_n_0 (pc' := 23) dX8_huts_22 rfl ?_
    refine wp_get_8_20 (pc' := 26) (by omega) rfl rfl me_X8_huts_0 ic_X8_huts_8 dX8_huts_23 rfl ?_
    refine wp_iload_n_2 (pc' := 27) dX8_huts_26 rfl ?_
    refine wp_aload_n_0 (pc' := 28) dX8_huts_27 rfl ?_
    refine wp_get_8_4 (pc' := 31) (by omega) rfl rfl me_X8_huts_1 ic_X8_huts_8 dX8_huts_28 rfl ?_
    refine wp_iload_n_2 (pc' := 32) dX8_huts_31 rfl ?_
    refine wp_iald (pc' := 33) (N := 52) (by omega) rfl rfl (by first | exact vp_in_nI (by omega) (by omega) | assumption | (unfold vp_in; decide)) dX8_huts_32 rfl ?_
    rw [nI_clamp (by omega), e0 93 (by decide), nr x (by omega)]
    refine wp_iconst (pc' := 34) (2) dX8_huts_33 rfl (by decide) ?_
    refine wp_icmp_ne (pc' := 37) (tgt := 41) dX8_huts_34 rfl rfl (fun c34 => ?_) (fun c34 => ?_)
    · skip -- 34 taken
      refine wp_bipush (pc' := 43) (-4) dX8_huts_41 rfl (by decide) ?_
      refine wp_iast (pc' := 44) (N := 16) (by omega) rfl rfl (by first | exact vp_in_nI (by omega) (by omega) | assumption | (unfold vp_in; decide)) dX8_huts_43 rfl ?_
      refine wp_iinc_2 (pc' := 47) (v := nI (x + 1)) dX8_huts_44 (by first | rfl | exact nI_1 _) (by decide) rfl rfl ?_
      refine wp_goto (tgt := 14) dX8_huts_47 rfl ?_
      rw [nI_clamp (by omega)]
      refine fin _ ?_
      rw [show atB R C ρ 2 x = false by unfold atB; rw [decide_eq_false (p := ρ x = 2) (fun z => c34 (by rw [z]; rfl))]; simp]
      rfl
    · skip -- 34 not taken
      refine wp_iload_n_2 (pc' := 38) dX8_huts_37 rfl ?_
      refine wp_goto (tgt := 43) dX8_huts_38 rfl ?_
      refine wp_iast (pc' := 44) (N := 16) (by omega) rfl rfl (by first | exact vp_in_nI (by omega) (by omega) | assumption | (unfold vp_in; decide)) dX8_huts_43 rfl ?_
      refine wp_iinc_2 (pc' := 47) (v := nI (x + 1)) dX8_huts_44 (by first | rfl | exact nI_1 _) (by decide) rfl rfl ?_
      refine wp_goto (tgt := 14) dX8_huts_47 rfl ?_
      rw [nI_clamp (by omega)]
      refine fin _ ?_
      rw [show atB R C ρ 2 x = true by unfold atB; rw [decide_eq_true (p := ρ x = 2) ((nI_eq (by omega) (by omega)).mp (show nI (ρ x) = nI 2 from c34)), decide_eq_true (p := x < R * C) (by omega)]; rfl]
      rfl
theorem lp1_X8_huts {R C : Nat} {t : Int32} {g : Nat → Bool} {post : PO} (hn : 105 ≤ n) (H0 : Hp) (q0 : ShM H0 R C)
    (K : ∀ h' L, (∀ a, a ≠ 103 → h' a = H0 a) → SL h' (R * C) g L → HI R C g 16 0 L → ∀ a2 a3 a4 a5, WP l D cy B cX8_huts 7 RX8 wsX8_huts rmX8_huts (some .int) (QE0 D cy B n 0 0 (post)) EX0 n (rf0 π) h' lg 0 0 176 [some (.ref (B + 89)), some (.int t), a2, a3, a4, a5, none] []) :
    ∀ d k c : Nat, 256 * k + c + d = 4096 → c < 256 → ∀ h' L a3 a4 a5, (∀ a, a ≠ 103 → h' a = H0 a) → SL h' (R * C) g L → HI R C g k c L → WP l D cy B cX8_huts 7 RX8 wsX8_huts rmX8_huts (some .int) (QE0 D cy B n 0 0 (post)) EX0 n (rf0 π) h' lg 0 0 52 [some (.ref (B + 89)), some (.int t), some (.int (nI (256 * k + c))), a3, a4, a5, none] [] := by
  have hl := q0.1.le
  intro d
  induction d with
  | zero =>
    intro k c hkc hc h' L a3 a4 a5 e0 s hi
    have e1 : k = 16 := by omega
    have e2 : c = 0 := by omega
    subst e1; subst e2
    refine wp_iload_n_2 (pc' := 53) dX8_huts_52 rfl ?_
    refine wp_sipush (pc' := 56) (4096) dX8_huts_53 rfl (by decide) ?_
    refine wp_icmp_ge (pc' := 59) (tgt := 176) dX8_huts_56 rfl rfl (fun c56 => ?_) (fun c56 => by exfalso; exact c56 (by decide))
    exact K h' L e0 s hi _ _ _ _
  | succ d ih =>
    intro k c hkc hc h' L a3 a4 a5 e0 s hi
    have q := q0.of (h' := h') (by rw [e0 91 (by decide)]) (by rw [e0 91 (by decide)])
    have x16 : c / 16 < 16 := by omega
    have y16 : c % 16 < 16 := by omega
    have ex : (256 * k + c) / 16 % 16 = c / 16 := by omega
    have ey : (256 * k + c) % 16 = c % 16 := by omega
    have al := apt_lt C (c / 16) (c % 16) x16 y16
    have next : ∀ h2 L2 b3 b4 b5, (∀ a, a ≠ 103 → h2 a = H0 a) → SL h2 (R * C) g L2 → HI R C g k (c + 1) L2 → WP l D cy B cX8_huts 7 RX8 wsX8_huts rmX8_huts (some .int) (QE0 D cy B n 0 0 (post)) EX0 n (rf0 π) h2 lg 0 0 52 [some (.ref (B + 89)), some (.int t), some (.int (nI (256 * k + c + 1))), b3, b4, b5, none] [] := by
      intro h2 L2 b3 b4 b5 f0 f1 f2
      by_cases e : c = 255
      · subst e
        have z := ih (k + 1) 0 (by omega) (by omega) h2 L2 b3 b4 b5 f0 f1 (f2.round hl)
        rw [show 256 * (k + 1) + 0 = 256 * k + 255 + 1 by omega] at z
        exact z
      · exact ih k (c + 1) (by omega) (by omega) h2 L2 b3 b4 b5 f0 f1 f2
    have same : ¬ (c / 16 < R * C ∧ c % 16 < R * C ∧ g (c / 16) = true ∧ g (c % 16) = true ∧ go 0 C (c / 16) (c % 16) = true) → ∀ b3 b4 b5, WP l D cy B cX8_huts 7 RX8 wsX8_huts rmX8_huts (some .int) (QE0 D cy B n 0 0 (post)) EX0 n (rf0 π) (hup h' 103 (c / 16) (h' 103 (c / 16))) lg 0 0 52 [some (.ref (B + 89)), some (.int t), some (.int (nI (256 * k + c + 1))), b3, b4, b5, none] [] := by
      intro no b3 b4 b5
      rw [hup_same]
      exact next h' L b3 b4 b5 e0 s (hi.no no hl)
    refine wp_iload_n_2 (pc' := 53) dX8_huts_52 rfl ?_
    refine wp_sipush (pc' := 56) (4096) dX8_huts_53 rfl (by decide) ?_
    refine wp_icmp_ge (pc' := 59) (tgt := 176) dX8_huts_56 rfl rfl (fun c56 => by exfalso; exact nI_ge (a := 256 * k + c) (b := 4096) (by omega) (by omega) c56) (fun c56 => ?_)
    refine wp_iload_n_2 (pc' := 60) dX8_huts_59 rfl ?_
    refine wp_bipush (pc' := 62) (16) dX8_huts_60 rfl (by decide) ?_
    refine wp_idiv (pc' := 63) dX8_huts_62 rfl (by decide) ?_
    rw [show (16 : Int32) = nI 16 from rfl, pk_div (by omega) (by omega) (by omega)]
    refine wp_bipush (pc' := 65) (16) dX8_huts_63 rfl (by decide) ?_
    refine wp_irem (pc' := 66) dX8_huts_65 rfl (by decide) ?_
    rw [show (16 : Int32) = nI 16 from rfl, pk_rem (by omega) (by omega) (by omega), ex]
    refine wp_istore_n_3 (pc' := 67) dX8_huts_66 (by decide) rfl rfl ?_
    refine wp_iload_n_2 (pc' := 68) dX8_huts_67 rfl ?_
    refine wp_bipush (pc' := 70) (16) dX8_huts_68 rfl (by decide) ?_
    refine wp_irem (pc' := 71) dX8_huts_70 rfl (by decide) ?_
    rw [show (16 : Int32) = nI 16 from rfl, pk_rem (by omega) (by omega) (by omega), ey]
    refine wp_istore_4 (pc' := 73) dX8_huts_71 (by decide) rfl rfl ?_
    refine wp_iload_n_3 (pc' := 74) dX8_huts_73 rfl ?_
    refine wp_aload_n_0 (pc' := 75) dX8_huts_74 rfl ?_
    refine wp_callVu (pc' := 78) (c_X8_places hn q) gX8_huts_X8_places rfl rfl hy_X8_places ⟨Nat.le_of_ble_eq_true rfl, Nat.le_of_ble_eq_true rfl⟩ ⟨rfl, rfl⟩ (Nat.le_of_ble_eq_true rfl) ⟨Nat.le_of_ble_eq_true rfl, Nat.le_of_ble_eq_true rfl⟩ (by omega) (ce8 rfl) rfl rfl dX8_huts_75 rfl ?_
    refine wp_icmp_ge (pc' := 81) (tgt := 124) dX8_huts_78 rfl rfl (fun c78 => ?_) (fun c78 => ?_)
    · skip -- 78 taken
      have e78 : ¬ c / 16 < R * C := fun w => nI_ge w (by omega) c78
      refine wp_iconst (pc' := 125) (0) dX8_huts_124 rfl (by decide) ?_
      refine wp_istore_5 (pc' := 127) dX8_huts_125 (by decide) rfl rfl ?_
      refine wp_aload_n_0 (pc' := 128) dX8_huts_127 rfl ?_
      refine wp_get_8_20 (pc' := 131) (by omega) rfl rfl me_X8_huts_0 ic_X8_huts_8 dX8_huts_128 rfl ?_
      refine wp_iload_n_3 (pc' := 132) dX8_huts_131 rfl ?_
      refine wp_iload_5 (pc' := 134) dX8_huts_132 rfl ?_
      refine wp_if_eq (pc' := 137) (tgt := 163) dX8_huts_134 rfl rfl (fun c134 => ?_) (fun c134 => by exfalso; exact c134 rfl)
      refine wp_aload_n_0 (pc' := 164) dX8_huts_163 rfl ?_
      refine wp_get_8_20 (pc' := 167) (by omega) rfl rfl me_X8_huts_0 ic_X8_huts_8 dX8_huts_164 rfl ?_
      refine wp_iload_n_3 (pc' := 168) dX8_huts_167 rfl ?_
      refine wp_iald (pc' := 169) (N := 16) (by omega) rfl rfl (by first | exact vp_in_nI (by omega) (by omega) | assumption | (unfold vp_in; decide)) dX8_huts_168 rfl ?_
      rw [nI_clamp (by omega)]
      refine wp_iast (pc' := 170) (N := 16) (by omega) rfl rfl (by first | exact vp_in_nI (by omega) (by omega) | assumption | (unfold vp_in; decide)) dX8_huts_169 rfl ?_
      refine wp_iinc_2 (pc' := 173) (v := nI (256 * k + c + 1)) dX8_huts_170 (by first | rfl | exact nI_1 _) (by decide) rfl rfl ?_
      refine wp_goto (tgt := 52) dX8_huts_173 rfl ?_
      rw [nI_clamp (by omega)]
      exact same (fun w => e78 w.1) _ _ _
    · skip -- 78 not taken
      have hx : c / 16 < R * C := by
        apply Classical.byContradiction
        intro w
        exact c78 (nI_le (by omega) (by omega))
      obtain ⟨sx1, sx2⟩ := s (c / 16) hx
      refine wp_iload_4 (pc' := 83) dX8_huts_81 rfl ?_
      refine wp_aload_n_0 (pc' := 84) dX8_huts_83 rfl ?_
      refine wp_callVu (pc' := 87) (c_X8_places hn q) gX8_huts_X8_places rfl rfl hy_X8_places ⟨Nat.le_of_ble_eq_true rfl, Nat.le_of_ble_eq_true rfl⟩ ⟨rfl, rfl⟩ (Nat.le_of_ble_eq_true rfl) ⟨Nat.le_of_ble_eq_true rfl, Nat.le_of_ble_eq_true rfl⟩ (by omega) (ce8 rfl) rfl rfl dX8_huts_84 rfl ?_
      refine wp_icmp_ge (pc' := 90) (tgt := 124) dX8_huts_87 rfl rfl (fun c87 => ?_) (fun c87 => ?_)
      · skip -- 87 taken
        have e87 : ¬ c % 16 < R * C := fun w => nI_ge w (by omega) c87
        refine wp_iconst (pc' := 125) (0) dX8_huts_124 rfl (by decide) ?_
        refine wp_istore_5 (pc' := 127) dX8_huts_125 (by decide) rfl rfl ?_
        refine wp_aload_n_0 (pc' := 128) dX8_huts_127 rfl ?_
        refine wp_get_8_20 (pc' := 131) (by omega) rfl rfl me_X8_huts_0 ic_X8_huts_8 dX8_huts_128 rfl ?_
        refine wp_iload_n_3 (pc' := 132) dX8_huts_131 rfl ?_
        refine wp_iload_5 (pc' := 134) dX8_huts_132 rfl ?_
        refine wp_if_eq (pc' := 137) (tgt := 163) dX8_huts_134 rfl rfl (fun c134 => ?_) (fun c134 => by exfalso; exact c134 rfl)
        refine wp_aload_n_0 (pc' := 164) dX8_huts_163 rfl ?_
        refine wp_get_8_20 (pc' := 167) (by omega) rfl rfl me_X8_huts_0 ic_X8_huts_8 dX8_huts_164 rfl ?_
        refine wp_iload_n_3 (pc' := 168) dX8_huts_167 rfl ?_
        refine wp_iald (pc' := 169) (N := 16) (by omega) rfl rfl (by first | exact vp_in_nI (by omega) (by omega) | assumption | (unfold vp_in; decide)) dX8_huts_168 rfl ?_
        rw [nI_clamp (by omega)]
        refine wp_iast (pc' := 170) (N := 16) (by omega) rfl rfl (by first | exact vp_in_nI (by omega) (by omega) | assumption | (unfold vp_in; decide)) dX8_huts_169 rfl ?_
        refine wp_iinc_2 (pc' := 173) (v := nI (256 * k + c + 1)) dX8_huts_170 (by first | rfl | exact nI_1 _) (by decide) rfl rfl ?_
        refine wp_goto (tgt := 52) dX8_huts_173 rfl ?_
        rw [nI_clamp (by omega)]
        exact same (fun w => e87 w.2.1) _ _ _
      · skip -- 87 not taken
        have hy : c % 16 < R * C := by
          apply Classical.byContradiction
          intro w
          exact c87 (nI_le (by omega) (by omega))
        obtain ⟨sy1, sy2⟩ := s (c % 16) hy
        refine wp_aload_n_0 (pc' := 91) dX8_huts_90 rfl ?_
        refine wp_get_8_20 (pc' := 94) (by omega) rfl rfl me_X8_huts_0 ic_X8_huts_8 dX8_huts_91 rfl ?_
        refine wp_iload_n_3 (pc' := 95) dX8_huts_94 rfl ?_
        refine wp_iald (pc' := 96) (N := 16) (by omega) rfl rfl (by first | exact vp_in_nI (by omega) (by omega) | assumption | (unfold vp_in; decide)) dX8_huts_95 rfl ?_
        rw [nI_clamp (by omega)]
        refine wp_if_lt (pc' := 99) (tgt := 124) dX8_huts_96 rfl rfl (fun c96 => ?_) (fun c96 => ?_)
        · skip -- 96 taken
          refine wp_iconst (pc' := 125) (0) dX8_huts_124 rfl (by decide) ?_
          refine wp_istore_5 (pc' := 127) dX8_huts_125 (by decide) rfl rfl ?_
          refine wp_aload_n_0 (pc' := 128) dX8_huts_127 rfl ?_
          refine wp_get_8_20 (pc' := 131) (by omega) rfl rfl me_X8_huts_0 ic_X8_huts_8 dX8_huts_128 rfl ?_
          refine wp_iload_n_3 (pc' := 132) dX8_huts_131 rfl ?_
          refine wp_iload_5 (pc' := 134) dX8_huts_132 rfl ?_
          refine wp_if_eq (pc' := 137) (tgt := 163) dX8_huts_134 rfl rfl (fun c134 => ?_) (fun c134 => by exfalso; exact c134 rfl)
          refine wp_aload_n_0 (pc' := 164) dX8_huts_163 rfl ?_
          refine wp_get_8_20 (pc' := 167) (by omega) rfl rfl me_X8_huts_0 ic_X8_huts_8 dX8_huts_164 rfl ?_
          refine wp_iload_n_3 (pc' := 168) dX8_huts_167 rfl ?_
          refine wp_iald (pc' := 169) (N := 16) (by omega) rfl rfl (by first | exact vp_in_nI (by omega) (by omega) | assumption | (unfold vp_in; decide)) dX8_huts_168 rfl ?_
          rw [nI_clamp (by omega)]
          refine wp_iast (pc' := 170) (N := 16) (by omega) rfl rfl (by first | exact vp_in_nI (by omega) (by omega) | assumption | (unfold vp_in; decide)) dX8_huts_169 rfl ?_
          refine wp_iinc_2 (pc' := 173) (v := nI (256 * k + c + 1)) dX8_huts_170 (by first | rfl | exact nI_1 _) (by decide) rfl rfl ?_
          refine wp_goto (tgt := 52) dX8_huts_173 rfl ?_
          rw [nI_clamp (by omega)]
          refine same (fun w => ?_) _ _ _
          rw [sx1, if_pos w.2.2.1] at c96
          exact nI_pos (by have := sx2 w.2.2.1; omega) c96
        · skip -- 96 not taken
          have gx : g (c / 16) = true := by
            cases e : g (c / 16)
            · rw [sx1, e, if_neg (by decide)] at c96; exact absurd (by decide) c96
            · rfl
          rw [if_pos gx] at sx1
          have sx3 := sx2 gx
          refine wp_aload_n_0 (pc' := 100) dX8_huts_99 rfl ?_
          refine wp_get_8_20 (pc' := 103) (by omega) rfl rfl me_X8_huts_0 ic_X8_huts_8 dX8_huts_100 rfl ?_
          refine wp_iload_4 (pc' := 105) dX8_huts_103 rfl ?_
          refine wp_iald (pc' := 106) (N := 16) (by omega) rfl rfl (by first | exact vp_in_nI (by omega) (by omega) | assumption | (unfold vp_in; decide)) dX8_huts_105 rfl ?_
          rw [nI_clamp (by omega)]
          refine wp_if_lt (pc' := 109) (tgt := 124) dX8_huts_106 rfl rfl (fun c106 => ?_) (fun c106 => ?_)
          · skip -- 106 taken
            refine wp_iconst (pc' := 125) (0) dX8_huts_124 rfl (by decide) ?_
            refine wp_istore_5 (pc' := 127) dX8_huts_125 (by decide) rfl rfl ?_
            refine wp_aload_n_0 (pc' := 128) dX8_huts_127 rfl ?_
            refine wp_get_8_20 (pc' := 131) (by omega) rfl rfl me_X8_huts_0 ic_X8_huts_8 dX8_huts_128 rfl ?_
            refine wp_iload_n_3 (pc' := 132) dX8_huts_131 rfl ?_
            refine wp_iload_5 (pc' := 134) dX8_huts_132 rfl ?_
            refine wp_if_eq (pc' := 137) (tgt := 163) dX8_huts_134 rfl rfl (fun c134 => ?_) (fun c134 => by exfalso; exact c134 rfl)
            refine wp_aload_n_0 (pc' := 164) dX8_huts_163 rfl ?_
            refine wp_get_8_20 (pc' := 167) (by omega) rfl rfl me_X8_huts_0 ic_X8_huts_8 dX8_huts_164 rfl ?_
            refine wp_iload_n_3 (pc' := 168) dX8_huts_167 rfl ?_
            refine wp_iald (pc' := 169) (N := 16) (by omega) rfl rfl (by first | exact vp_in_nI (by omega) (by omega) | assumption | (unfold vp_in; decide)) dX8_huts_168 rfl ?_
            rw [nI_clamp (by omega)]
            refine wp_iast (pc' := 170) (N := 16) (by omega) rfl rfl (by first | exact vp_in_nI (by omega) (by omega) | assumption | (unfold vp_in; decide)) dX8_huts_169 rfl ?_
            refine wp_iinc_2 (pc' := 173) (v := nI (256 * k + c + 1)) dX8_huts_170 (by first | rfl | exact nI_1 _) (by decide) rfl rfl ?_
            refine wp_goto (tgt := 52) dX8_huts_173 rfl ?_
            rw [nI_clamp (by omega)]
            refine same (fun w => ?_) _ _ _
            rw [sy1, if_pos w.2.2.2.1] at c106
            exact nI_pos (by have := sy2 w.2.2.2.1; omega) c106
          · skip -- 106 not taken
            have gy : g (c % 16) = true := by
              cases e : g (c % 16)
              · rw [sy1, e, if_neg (by decide)] at c106; exact absurd (by decide) c106
              · rfl
            rw [if_pos gy] at sy1
            have sy3 := sy2 gy
            refine wp_aload_n_0 (pc' := 110) dX8_huts_109 rfl ?_
            refine wp_iload_n_3 (pc' := 111) dX8_huts_110 rfl ?_
            refine wp_iload_4 (pc' := 113) dX8_huts_111 rfl ?_
            refine wp_callVu (pc' := 116) (c_X8_apart hn q (by omega) (by omega)) gX8_huts_X8_apart rfl rfl hy_X8_apart ⟨Nat.le_of_ble_eq_true rfl, Nat.le_of_ble_eq_true rfl⟩ ⟨rfl, rfl⟩ (Nat.le_of_ble_eq_true rfl) ⟨Nat.le_of_ble_eq_true rfl, Nat.le_of_ble_eq_true rfl⟩ (by omega) (ce8 rfl) rfl rfl dX8_huts_113 rfl ?_
            refine wp_iconst (pc' := 117) (1) dX8_huts_116 rfl (by decide) ?_
            refine wp_icmp_ne (pc' := 120) (tgt := 124) dX8_huts_117 rfl rfl (fun c117 => ?_) (fun c117 => ?_)
            · skip -- 117 taken
              refine wp_iconst (pc' := 125) (0) dX8_huts_124 rfl (by decide) ?_
              refine wp_istore_5 (pc' := 127) dX8_huts_125 (by decide) rfl rfl ?_
              refine wp_aload_n_0 (pc' := 128) dX8_huts_127 rfl ?_
              refine wp_get_8_20 (pc' := 131) (by omega) rfl rfl me_X8_huts_0 ic_X8_huts_8 dX8_huts_128 rfl ?_
              refine wp_iload_n_3 (pc' := 132) dX8_huts_131 rfl ?_
              refine wp_iload_5 (pc' := 134) dX8_huts_132 rfl ?_
              refine wp_if_eq (pc' := 137) (tgt := 163) dX8_huts_134 rfl rfl (fun c134 => ?_) (fun c134 => by exfalso; exact c134 rfl)
              refine wp_aload_n_0 (pc' := 164) dX8_huts_163 rfl ?_
              refine wp_get_8_20 (pc' := 167) (by omega) rfl rfl me_X8_huts_0 ic_X8_huts_8 dX8_huts_164 rfl ?_
              refine wp_iload_n_3 (pc' := 168) dX8_huts_167 rfl ?_
              refine wp_iald (pc' := 169) (N := 16) (by omega) rfl rfl (by first | exact vp_in_nI (by omega) (by omega) | assumption | (unfold vp_in; decide)) dX8_huts_168 rfl ?_
              rw [nI_clamp (by omega)]
              refine wp_iast (pc' := 170) (N := 16) (by omega) rfl rfl (by first | exact vp_in_nI (by omega) (by omega) | assumption | (unfold vp_in; decide)) dX8_huts_169 rfl ?_
              refine wp_iinc_2 (pc' := 173) (v := nI (256 * k + c + 1)) dX8_huts_170 (by first | rfl | exact nI_1 _) (by decide) rfl rfl ?_
              refine wp_goto (tgt := 52) dX8_huts_173 rfl ?_
              rw [nI_clamp (by omega)]
              refine same (fun w => ?_) _ _ _
              exact c117 (by rw [apt1.mpr w.2.2.2.2]; rfl)
            · skip -- 117 not taken
              have hgo : go 0 C (c / 16) (c % 16) = true := apt1.mp ((nI_eq (by omega) (by omega)).mp (show nI (apt C (c / 16) (c % 16)) = nI 1 from c117))
              have hi2 := hi.yes hl (show c = 16 * (c / 16) + c % 16 by omega) hx hy gx gy hgo
              refine wp_iconst (pc' := 121) (1) dX8_huts_120 rfl (by decide) ?_
              refine wp_goto (tgt := 125) dX8_huts_121 rfl ?_
              refine wp_istore_5 (pc' := 127) dX8_huts_125 (by decide) rfl rfl ?_
              refine wp_aload_n_0 (pc' := 128) dX8_huts_127 rfl ?_
              refine wp_get_8_20 (pc' := 131) (by omega) rfl rfl me_X8_huts_0 ic_X8_huts_8 dX8_huts_128 rfl ?_
              refine wp_iload_n_3 (pc' := 132) dX8_huts_131 rfl ?_
              refine wp_iload_5 (pc' := 134) dX8_huts_132 rfl ?_
              refine wp_if_eq (pc' := 137) (tgt := 163) dX8_huts_134 rfl rfl (fun c134 => by exfalso; exact absurd c134 (by decide)) (fun c134 => ?_)
              refine wp_aload_n_0 (pc' := 138) dX8_huts_137 rfl ?_
              refine wp_get_8_20 (pc' := 141) (by omega) rfl rfl me_X8_huts_0 ic_X8_huts_8 dX8_huts_138 rfl ?_
              refine wp_iload_4 (pc' := 143) dX8_huts_141 rfl ?_
              refine wp_iald (pc' := 144) (N := 16) (by omega) rfl rfl (by first | exact vp_in_nI (by omega) (by omega) | assumption | (unfold vp_in; decide)) dX8_huts_143 rfl ?_
              rw [nI_clamp (by omega)]
              refine wp_aload_n_0 (pc' := 145) dX8_huts_144 rfl ?_
              refine wp_get_8_20 (pc' := 148) (by omega) rfl rfl me_X8_huts_0 ic_X8_huts_8 dX8_huts_145 rfl ?_
              refine wp_iload_n_3 (pc' := 149) dX8_huts_148 rfl ?_
              refine wp_iald (pc' := 150) (N := 16) (by omega) rfl rfl (by first | exact vp_in_nI (by omega) (by omega) | assumption | (unfold vp_in; decide)) dX8_huts_149 rfl ?_
              rw [nI_clamp (by omega)]
              refine wp_icmp_ge (pc' := 153) (tgt := 163) dX8_huts_150 rfl rfl (fun c150 => ?_) (fun c150 => ?_)
              · skip -- 150 taken
                have le : L (c / 16) ≤ L (c % 16) := by
                  rw [sx1, sy1] at c150
                  (simp (disch := omega) only [Int32.lt_iff_toInt_lt, Int32.le_iff_toInt_le, ← Int32.toInt_inj, nI_toInt, il_0, il_1, il_2, il_3, il_4, il_5, il_6, il_8, il_9, il_10, il_16, il_26, il_32, il_40, il_n4, il_n1, il_n2, il_11, il_48, il_57, il_59, il_44, il_126, il_200, il_9999, il_66666, il_10000, il_1000000, il_15, il_12, il_256, il_4096, il_53, il_52] at c150; omega)
                refine wp_aload_n_0 (pc' := 164) dX8_huts_163 rfl ?_
                refine wp_get_8_20 (pc' := 167) (by omega) rfl rfl me_X8_huts_0 ic_X8_huts_8 dX8_huts_164 rfl ?_
                refine wp_iload_n_3 (pc' := 168) dX8_huts_167 rfl ?_
                refine wp_iald (pc' := 169) (N := 16) (by omega) rfl rfl (by first | exact vp_in_nI (by omega) (by omega) | assumption | (unfold vp_in; decide)) dX8_huts_168 rfl ?_
                rw [nI_clamp (by omega)]
                refine wp_iast (pc' := 170) (N := 16) (by omega) rfl rfl (by first | exact vp_in_nI (by omega) (by omega) | assumption | (unfold vp_in; decide)) dX8_huts_169 rfl ?_
                refine wp_iinc_2 (pc' := 173) (v := nI (256 * k + c + 1)) dX8_huts_170 (by first | rfl | exact nI_1 _) (by decide) rfl rfl ?_
                refine wp_goto (tgt := 52) dX8_huts_173 rfl ?_
                rw [nI_clamp (by omega), hup_same]
                rw [show min (L (c % 16)) (L (c / 16)) = L (c / 16) by omega, setF_self] at hi2
                exact next h' L _ _ _ e0 s hi2
              · skip -- 150 not taken
                have lt : ¬ L (c / 16) ≤ L (c % 16) := by
                  rw [sx1, sy1] at c150
                  (simp (disch := omega) only [Int32.lt_iff_toInt_lt, Int32.le_iff_toInt_le, ← Int32.toInt_inj, nI_toInt, il_0, il_1, il_2, il_3, il_4, il_5, il_6, il_8, il_9, il_10, il_16, il_26, il_32, il_40, il_n4, il_n1, il_n2, il_11, il_48, il_57, il_59, il_44, il_126, il_200, il_9999, il_66666, il_10000, il_1000000, il_15, il_12, il_256, il_4096, il_53, il_52] at c150; omega)
                refine wp_aload_n_0 (pc' := 154) dX8_huts_153 rfl ?_
                refine wp_get_8_20 (pc' := 157) (by omega) rfl rfl me_X8_huts_0 ic_X8_huts_8 dX8_huts_154 rfl ?_
                refine wp_iload_4 (pc' := 159) dX8_huts_157 rfl ?_
                refine wp_iald (pc' := 160) (N := 16) (by omega) rfl rfl (by first | exact vp_in_nI (by omega) (by omega) | assumption | (unfold vp_in; decide)) dX8_huts_159 rfl ?_
                rw [nI_clamp (by omega)]
                refine wp_goto (tgt := 169) dX8_huts_160 rfl ?_
                refine wp_iast (pc' := 170) (N := 16) (by omega) rfl rfl (by first | exact vp_in_nI (by omega) (by omega) | assumption | (unfold vp_in; decide)) dX8_huts_169 rfl ?_
                refine wp_iinc_2 (pc' := 173) (v := nI (256 * k + c + 1)) dX8_huts_170 (by first | rfl | exact nI_1 _) (by decide) rfl rfl ?_
                refine wp_goto (tgt := 52) dX8_huts_173 rfl ?_
                rw [nI_clamp (by omega), sy1]
                rw [show min (L (c % 16)) (L (c / 16)) = L (c % 16) by omega] at hi2
                exact next _ _ _ _ _ (fun a ha => by rw [hup_cell ha]; exact e0 a ha) (s.set gx sy3) hi2
theorem lp2_X8_huts {R C x : Nat} {t a2 a3 : Int32} {g : Nat → Bool} {L : Nat → Nat} {post : PO} (hn : 105 ≤ n) (q : ShM h R C) (s : SL h (R * C) g L) (hx : x < R * C)
    (K : ∀ a6, WP l D cy B cX8_huts 7 RX8 wsX8_huts rmX8_huts (some .int) (QE0 D cy B n 0 0 (post)) EX0 n (rf0 π) h lg 0 0 235 [some (.ref (B + 89)), some (.int t), some (.int a2), some (.int a3), some (.int (nI x)), some (.int (nI (cnB (szB g L x) (R * C)))), a6] []) :
    ∀ d y : Nat, y + d = R * C → WP l D cy B cX8_huts 7 RX8 wsX8_huts rmX8_huts (some .int) (QE0 D cy B n 0 0 (post)) EX0 n (rf0 π) h lg 0 0 198 [some (.ref (B + 89)), some (.int t), some (.int a2), some (.int a3), some (.int (nI x)), some (.int (nI (cnB (szB g L x) y))), some (.int (nI y))] [] := by
  have hl := q.1.le
  intro d
  induction d with
  | zero =>
    intro y hy
    have : y = R * C := by omega
    subst this
    refine wp_iload_6 (pc' := 200) dX8_huts_198 rfl ?_
    refine wp_aload_n_0 (pc' := 201) dX8_huts_200 rfl ?_
    refine wp_callVu (pc' := 204) (c_X8_places hn q) gX8_huts_X8_places rfl rfl hy_X8_places ⟨Nat.le_of_ble_eq_true rfl, Nat.le_of_ble_eq_true rfl⟩ ⟨rfl, rfl⟩ (Nat.le_of_ble_eq_true rfl) ⟨Nat.le_of_ble_eq_true rfl, Nat.le_of_ble_eq_true rfl⟩ (by omega) (ce8 rfl) rfl rfl dX8_huts_201 rfl ?_
    refine wp_icmp_ge (pc' := 207) (tgt := 235) dX8_huts_204 rfl rfl (fun c204 => ?_) (fun c204 => by exfalso; exact c204 (nI_le (Nat.le_refl _) (by omega)))
    exact K _
  | succ d ih =>
    intro y hy
    obtain ⟨s1, s2⟩ := s y (by omega)
    refine wp_iload_6 (pc' := 200) dX8_huts_198 rfl ?_
    refine wp_aload_n_0 (pc' := 201) dX8_huts_200 rfl ?_
    refine wp_callVu (pc' := 204) (c_X8_places hn q) gX8_huts_X8_places rfl rfl hy_X8_places ⟨Nat.le_of_ble_eq_true rfl, Nat.le_of_ble_eq_true rfl⟩ ⟨rfl, rfl⟩ (Nat.le_of_ble_eq_true rfl) ⟨Nat.le_of_ble_eq_true rfl, Nat.le_of_ble_eq_true rfl⟩ (by omega) (ce8 rfl) rfl rfl dX8_huts_201 rfl ?_
    refine wp_icmp_ge (pc' := 207) (tgt := 235) dX8_huts_204 rfl rfl (fun c204 => by exfalso; exact nI_ge (by omega) (by omega) c204) (fun c204 => ?_)
    refine wp_iload_5 (pc' := 209) dX8_huts_207 rfl ?_
    refine wp_aload_n_0 (pc' := 210) dX8_huts_209 rfl ?_
    refine wp_get_8_20 (pc' := 213) (by omega) rfl rfl me_X8_huts_0 ic_X8_huts_8 dX8_huts_210 rfl ?_
    refine wp_iload_6 (pc' := 215) dX8_huts_213 rfl ?_
    refine wp_iald (pc' := 216) (N := 16) (by omega) rfl rfl (by first | exact vp_in_nI (by omega) (by omega) | assumption | (unfold vp_in; decide)) dX8_huts_215 rfl ?_
    rw [nI_clamp (by omega), s1]
    refine wp_iload_4 (pc' := 218) dX8_huts_216 rfl ?_
    refine wp_icmp_ne (pc' := 221) (tgt := 225) dX8_huts_218 rfl rfl (fun c218 => ?_) (fun c218 => ?_)
    · skip -- 218 taken
      refine wp_iconst (pc' := 226) (0) dX8_huts_225 rfl (by decide) ?_
      refine wp_iadd (pc' := 227) dX8_huts_226 rfl ?_
      first | rw [nI_1] | rw [show (0 : Int32) = nI 0 from rfl, nI_add]
      refine wp_istore_5 (pc' := 229) dX8_huts_227 (by decide) rfl rfl ?_
      refine wp_iinc_6 (pc' := 232) (v := nI (y + 1)) dX8_huts_229 (by first | rfl | exact nI_1 _) (by decide) rfl rfl ?_
      refine wp_goto (tgt := 198) dX8_huts_232 rfl ?_
      have e : szB g L x y = false := by
        unfold szB
        cases gy : g y
        · rfl
        · rw [gy, if_pos rfl] at c218
          rw [decide_eq_false (fun z => c218 (by rw [z]))]; rfl
      have z := ih (y + 1) (by omega)
      rw [cnB_s, e] at z
      exact z
    · skip -- 218 not taken
      refine wp_iconst (pc' := 222) (1) dX8_huts_221 rfl (by decide) ?_
      refine wp_goto (tgt := 226) dX8_huts_222 rfl ?_
      refine wp_iadd (pc' := 227) dX8_huts_226 rfl ?_
      first | rw [nI_1] | rw [show (0 : Int32) = nI 0 from rfl, nI_add]
      refine wp_istore_5 (pc' := 229) dX8_huts_227 (by decide) rfl rfl ?_
      refine wp_iinc_6 (pc' := 232) (v := nI (y + 1)) dX8_huts_229 (by first | rfl | exact nI_1 _) (by decide) rfl rfl ?_
      refine wp_goto (tgt := 198) dX8_huts_232 rfl ?_
      have e : szB g L x y = true := by
        unfold szB
        cases gy : g y
        · rw [gy] at c218
          exfalso
          have c2 : (-4 : Int32) = nI x := c218
          (simp (disch := omega) only [Int32.lt_iff_toInt_lt, Int32.le_iff_toInt_le, ← Int32.toInt_inj, nI_toInt, il_0, il_1, il_2, il_3, il_4, il_5, il_6, il_8, il_9, il_10, il_16, il_26, il_32, il_40, il_n4, il_n1, il_n2, il_11, il_48, il_57, il_59, il_44, il_126, il_200, il_9999, il_66666, il_10000, il_1000000, il_15, il_12, il_256, il_4096, il_53, il_52] at c2; omega)
        · rw [gy, if_pos rfl] at c218
          rw [decide_eq_true ((nI_eq (by have := s2 gy; omega) (by omega)).mp c218)]; rfl
      have z := ih (y + 1) (by omega)
      rw [cnB_s, e] at z
      exact z
theorem lp3_X8_huts {R C : Nat} {t : Int32} {g : Nat → Bool} {L : Nat → Nat} {post : PO} (hn : 105 ≤ n) (q : ShM h R C) (s : SL h (R * C) g L) (hi : HI R C g 16 0 L) (ht : t = 0 ∨ t = 1)
    (K0 : t = 0 → post (some (.int (nI (cnB (hdB R C g) (R * C))))) (rf0 π) h lg)
    (K1 : t = 1 → post (some (.int (nI (mxN (hsN R C g) (R * C))))) (rf0 π) h lg) :
    ∀ d x : Nat, x + d = R * C → ∀ a5 a6, WP l D cy B cX8_huts 7 RX8 wsX8_huts rmX8_huts (some .int) (QE0 D cy B n 0 0 (post)) EX0 n (rf0 π) h lg 0 0 183 [some (.ref (B + 89)), some (.int t), some (.int (nI (cnB (hdB R C g) x))), some (.int (nI (mxN (hsN R C g) x))), some (.int (nI x)), a5, a6] [] := by
  have hl := q.1.le
  intro d
  induction d with
  | zero =>
    intro x hx a5 a6
    have : x = R * C := by omega
    subst this
    refine wp_iload_4 (pc' := 185) dX8_huts_183 rfl ?_
    refine wp_aload_n_0 (pc' := 186) dX8_huts_185 rfl ?_
    refine wp_callVu (pc' := 189) (c_X8_places hn q) gX8_huts_X8_places rfl rfl hy_X8_places ⟨Nat.le_of_ble_eq_true rfl, Nat.le_of_ble_eq_true rfl⟩ ⟨rfl, rfl⟩ (Nat.le_of_ble_eq_true rfl) ⟨Nat.le_of_ble_eq_true rfl, Nat.le_of_ble_eq_true rfl⟩ (by omega) (ce8 rfl) rfl rfl dX8_huts_186 rfl ?_
    refine wp_icmp_ge (pc' := 192) (tgt := 267) dX8_huts_189 rfl rfl (fun c189 => ?_) (fun c189 => by exfalso; exact c189 (nI_le (Nat.le_refl _) (by omega)))
    refine wp_iload_n_1 (pc' := 268) dX8_huts_267 rfl ?_
    refine wp_if_ne (pc' := 271) (tgt := 275) dX8_huts_268 rfl rfl (fun c268 => ?_) (fun c268 => ?_)
    · skip -- 268 taken
      refine wp_iload_n_3 (pc' := 276) dX8_huts_275 rfl ?_
      refine wp_ireturn dX8_huts_276 rfl rfl (Nat.le_refl _) (Nat.le_refl _) ?_
      exact K1 (by rcases ht with v | v; exact absurd v c268; exact v)
    · skip -- 268 not taken
      refine wp_iload_n_2 (pc' := 272) dX8_huts_271 rfl ?_
      refine wp_goto (tgt := 276) dX8_huts_272 rfl ?_
      refine wp_ireturn dX8_huts_276 rfl rfl (Nat.le_refl _) (Nat.le_refl _) ?_
      exact K0 c268
  | succ d ih =>
    intro x hx a5 a6
    have hx2 : x < R * C := by omega
    have ml := mxN_le (hsN_le R C g) x
    have sl := hsN_le R C g x
    have hp := hsN_pos (g := g) hl hx2
    have tail : ∀ b6, WP l D cy B cX8_huts 7 RX8 wsX8_huts rmX8_huts (some .int) (QE0 D cy B n 0 0 (post)) EX0 n (rf0 π) h lg 0 0 235 [some (.ref (B + 89)), some (.int t), some (.int (nI (cnB (hdB R C g) x))), some (.int (nI (mxN (hsN R C g) x))), some (.int (nI x)), some (.int (nI (cnB (szB g L x) (R * C)))), b6] [] := by
      intro b6
      rw [sz_hd hl hi hx2]
      have z := ih (x + 1) (by omega) (some (.int (nI (hsN R C g x)))) b6
      rw [cnB_s, show mxN (hsN R C g) (x + 1) = max (mxN (hsN R C g) x) (hsN R C g x) from rfl] at z
      refine wp_iload_n_2 (pc' := 236) dX8_huts_235 rfl ?_
      refine wp_iload_5 (pc' := 238) dX8_huts_236 rfl ?_
      refine wp_if_le (pc' := 241) (tgt := 245) dX8_huts_238 rfl rfl (fun c238 => ?_) (fun c238 => ?_)
      · skip -- 238 taken
        have e : hdB R C g x = false := by
          rw [Bool.eq_false_iff]
          intro v
          exact nI_nle (hp.mpr v) (by omega) c238
        rw [e] at z
        refine wp_iconst (pc' := 246) (0) dX8_huts_245 rfl (by decide) ?_
        refine wp_iadd (pc' := 247) dX8_huts_246 rfl ?_
        first | rw [nI_1] | rw [show (0 : Int32) = nI 0 from rfl, nI_add]
        refine wp_istore_n_2 (pc' := 248) dX8_huts_247 (by decide) rfl rfl ?_
        refine wp_iload_5 (pc' := 250) dX8_huts_248 rfl ?_
        refine wp_iload_n_3 (pc' := 251) dX8_huts_250 rfl ?_
        refine wp_icmp_le (pc' := 254) (tgt := 259) dX8_huts_251 rfl rfl (fun c251 => ?_) (fun c251 => ?_)
        · skip -- 251 taken
          have m1 : hsN R C g x ≤ mxN (hsN R C g) x := by (simp (disch := omega) only [Int32.lt_iff_toInt_lt, Int32.le_iff_toInt_le, ← Int32.toInt_inj, nI_toInt, il_0, il_1, il_2, il_3, il_4, il_5, il_6, il_8, il_9, il_10, il_16, il_26, il_32, il_40, il_n4, il_n1, il_n2, il_11, il_48, il_57, il_59, il_44, il_126, il_200, il_9999, il_66666, il_10000, il_1000000, il_15, il_12, il_256, il_4096, il_53, il_52] at c251; omega)
          rw [show max (mxN (hsN R C g) x) (hsN R C g x) = mxN (hsN R C g) x by omega] at z
          refine wp_iload_n_3 (pc' := 260) dX8_huts_259 rfl ?_
          refine wp_istore_n_3 (pc' := 261) dX8_huts_260 (by decide) rfl rfl ?_
          refine wp_iinc_4 (pc' := 264) (v := nI (x + 1)) dX8_huts_261 (by first | rfl | exact nI_1 _) (by decide) rfl rfl ?_
          refine wp_goto (tgt := 183) dX8_huts_264 rfl ?_
          exact z
        · skip -- 251 not taken
          have m1 : ¬ hsN R C g x ≤ mxN (hsN R C g) x := by (simp (disch := omega) only [Int32.lt_iff_toInt_lt, Int32.le_iff_toInt_le, ← Int32.toInt_inj, nI_toInt, il_0, il_1, il_2, il_3, il_4, il_5, il_6, il_8, il_9, il_10, il_16, il_26, il_32, il_40, il_n4, il_n1, il_n2, il_11, il_48, il_57, il_59, il_44, il_126, il_200, il_9999, il_66666, il_10000, il_1000000, il_15, il_12, il_256, il_4096, il_53, il_52] at c251; omega)
          rw [show max (mxN (hsN R C g) x) (hsN R C g x) = hsN R C g x by omega] at z
          refine wp_iload_5 (pc' := 256) dX8_huts_254 rfl ?_
          refine wp_goto (tgt := 260) dX8_huts_256 rfl ?_
          refine wp_istore_n_3 (pc' := 261) dX8_huts_260 (by decide) rfl rfl ?_
          refine wp_iinc_4 (pc' := 264) (v := nI (x + 1)) dX8_huts_261 (by first | rfl | exact nI_1 _) (by decide) rfl rfl ?_
          refine wp_goto (tgt := 183) dX8_huts_264 rfl ?_
          exact z
      · skip -- 238 not taken
        have e : hdB R C g x = true := hp.mp (by
          rcases Nat.eq_zero_or_pos (hsN R C g x) with v | v
          · exfalso; rw [v] at c238; exact c238 (by decide)
          · exact v)
        rw [e] at z
        refine wp_iconst (pc' := 242) (1) dX8_huts_241 rfl (by decide) ?_
        refine wp_goto (tgt := 246) dX8_huts_242 rfl ?_
        refine wp_iadd (pc' := 247) dX8_huts_246 rfl ?_
        first | rw [nI_1] | rw [show (0 : Int32) = nI 0 from rfl, nI_add]
        refine wp_istore_n_2 (pc' := 248) dX8_huts_247 (by decide) rfl rfl ?_
        refine wp_iload_5 (pc' := 250) dX8_huts_248 rfl ?_
        refine wp_iload_n_3 (pc' := 251) dX8_huts_250 rfl ?_
        refine wp_icmp_le (pc' := 254) (tgt := 259) dX8_huts_251 rfl rfl (fun c251 => ?_) (fun c251 => ?_)
        · skip -- 251 taken
          have m1 : hsN R C g x ≤ mxN (hsN R C g) x := by (simp (disch := omega) only [Int32.lt_iff_toInt_lt, Int32.le_iff_toInt_le, ← Int32.toInt_inj, nI_toInt, il_0, il_1, il_2, il_3, il_4, il_5, il_6, il_8, il_9, il_10, il_16, il_26, il_32, il_40, il_n4, il_n1, il_n2, il_11, il_48, il_57, il_59, il_44, il_126, il_200, il_9999, il_66666, il_10000, il_1000000, il_15, il_12, il_256, il_4096, il_53, il_52] at c251; omega)
          rw [show max (mxN (hsN R C g) x) (hsN R C g x) = mxN (hsN R C g) x by omega] at z
          refine wp_iload_n_3 (pc' := 260) dX8_huts_259 rfl ?_
          refine wp_istore_n_3 (pc' := 261) dX8_huts_260 (by decide) rfl rfl ?_
          refine wp_iinc_4 (pc' := 264) (v := nI (x + 1)) dX8_huts_261 (by first | rfl | exact nI_1 _) (by decide) rfl rfl ?_
          refine wp_goto (tgt := 183) dX8_huts_264 rfl ?_
          exact z
        · skip -- 251 not taken
          have m1 : ¬ hsN R C g x ≤ mxN (hsN R C g) x := by (simp (disch := omega) only [Int32.lt_iff_toInt_lt, Int32.le_iff_toInt_le, ← Int32.toInt_inj, nI_toInt, il_0, il_1, il_2, il_3, il_4, il_5, il_6, il_8, il_9, il_10, il_16, il_26, il_32, il_40, il_n4, il_n1, il_n2, il_11, il_48, il_57, il_59, il_44, il_126, il_200, il_9999, il_66666, il_10000, il_1000000, il_15, il_12, il_256, il_4096, il_53, il_52] at c251; omega)
          rw [show max (mxN (hsN R C g) x) (hsN R C g x) = hsN R C g x by omega] at z
          refine wp_iload_5 (pc' := 256) dX8_huts_254 rfl ?_
          refine wp_goto (tgt := 260) dX8_huts_256 rfl ?_
          refine wp_istore_n_3 (pc' := 261) dX8_huts_260 (by decide) rfl rfl ?_
          refine wp_iinc_4 (pc' := 264) (v := nI (x + 1)) dX8_huts_261 (by first | rfl | exact nI_1 _) (by decide) rfl rfl ?_
          refine wp_goto (tgt := 183) dX8_huts_264 rfl ?_
          exact z
    refine wp_iload_4 (pc' := 185) dX8_huts_183 rfl ?_
    refine wp_aload_n_0 (pc' := 186) dX8_huts_185 rfl ?_
    refine wp_callVu (pc' := 189) (c_X8_places hn q) gX8_huts_X8_places rfl rfl hy_X8_places ⟨Nat.le_of_ble_eq_true rfl, Nat.le_of_ble_eq_true rfl⟩ ⟨rfl, rfl⟩ (Nat.le_of_ble_eq_true rfl) ⟨Nat.le_of_ble_eq_true rfl, Nat.le_of_ble_eq_true rfl⟩ (by omega) (ce8 rfl) rfl rfl dX8_huts_186 rfl ?_
    refine wp_icmp_ge (pc' := 192) (tgt := 267) dX8_huts_189 rfl rfl (fun c189 => by exfalso; exact nI_ge (by omega) (by omega) c189) (fun c189 => ?_)
    refine wp_iconst (pc' := 193) (0) dX8_huts_192 rfl (by decide) ?_
    refine wp_istore_5 (pc' := 195) dX8_huts_193 (by decide) rfl rfl ?_
    refine wp_iconst (pc' := 196) (0) dX8_huts_195 rfl (by decide) ?_
    refine wp_istore_6 (pc' := 198) dX8_huts_196 (by decide) rfl rfl ?_
    exact lp2_X8_huts (g := g) (L := L) hn q s hx2 tail (R * C) 0 (by omega)
theorem c_X8_huts (hn : 105 ≤ n) (X : MI h σ) (t : Int32) : Ctr l D cy B yX8_huts wsX8_huts rmX8_huts 0 0 n (rf0 π) h lg [.ref (B + 89), .int t] (ZQ π h (aHuts σ t) σ) := by
  obtain ⟨T, q, hm, ok, nr, xp, xk⟩ := id X
  cases e : ix t 2 with
  | none =>
    rw [show aHuts σ t = -1 by simp only [aHuts, e]]
    refine Ctr.of (cc := cX8_huts) (nL := 7) (own := RX8) (rt := (some .int)) (ls := [some (.ref (B + 89)), some (.int t), none, none, none, none, none]) (by decide) rfl rfl (Nat.le_of_ble_eq_true rfl) rfl ?_
    refine wp_iload_n_1 (pc' := 1) dX8_huts_0 rfl ?_
    refine wp_i2l (pc' := 2) dX8_huts_1 rfl ?_
    refine wp_lconst (pc' := 3) (0) dX8_huts_2 rfl (by decide) ?_
    refine wp_lconst (pc' := 4) (1) dX8_huts_3 rfl (by decide) ?_
    refine wp_callSu (pc' := 7) (c_in_rg t (lo := 0) (hi := 1) (by omega) (by omega)) gX8_huts_X8_in rfl rfl hz_X8_in ⟨Nat.le_of_ble_eq_true rfl, Nat.le_of_ble_eq_true rfl⟩ ⟨rfl, rfl⟩ (Nat.le_of_ble_eq_true rfl) ⟨Nat.le_of_ble_eq_true rfl, Nat.le_of_ble_eq_true rfl⟩ rfl dX8_huts_4 rfl ?_
    rw [rg_ix, e]
    refine wp_if_ne (pc' := 10) (tgt := 12) dX8_huts_7 rfl rfl (fun c7 => by exfalso; exact c7 rfl) (fun c7 => ?_)
    refine wp_iconst (pc' := 11) (-1) dX8_huts_10 rfl (by decide) ?_
    refine wp_ireturn dX8_huts_11 rfl rfl (Nat.le_refl _) (Nat.le_refl _) ?_
    exact ZQ.id rfl X
  | some b =>
    have ht : t = 0 ∨ t = 1 := by rcases ix2 e with z | z; exact Or.inl z.1; exact Or.inr z.1
    have b0 : t = 0 → aHuts σ t = nI (cnB (hdB σ.R σ.C (atB σ.R σ.C σ.ρ 2)) (σ.R * σ.C)) := by
      rintro rfl
      rcases ix2 e with ⟨_, rfl⟩ | ⟨z, _⟩
      · simp only [aHuts, e]
      · exact absurd z (by decide)
    have b1 : t = 1 → aHuts σ t = nI (mxN (hsN σ.R σ.C (atB σ.R σ.C σ.ρ 2)) (σ.R * σ.C)) := by
      rintro rfl
      rcases ix2 e with ⟨z, _⟩ | ⟨_, rfl⟩
      · exact absurd z (by decide)
      · simp only [aHuts, e]
    refine Ctr.of (cc := cX8_huts) (nL := 7) (own := RX8) (rt := (some .int)) (ls := [some (.ref (B + 89)), some (.int t), none, none, none, none, none]) (by decide) rfl rfl (Nat.le_of_ble_eq_true rfl) rfl ?_
    refine wp_iload_n_1 (pc' := 1) dX8_huts_0 rfl ?_
    refine wp_i2l (pc' := 2) dX8_huts_1 rfl ?_
    refine wp_lconst (pc' := 3) (0) dX8_huts_2 rfl (by decide) ?_
    refine wp_lconst (pc' := 4) (1) dX8_huts_3 rfl (by decide) ?_
    refine wp_callSu (pc' := 7) (c_in_rg t (lo := 0) (hi := 1) (by omega) (by omega)) gX8_huts_X8_in rfl rfl hz_X8_in ⟨Nat.le_of_ble_eq_true rfl, Nat.le_of_ble_eq_true rfl⟩ ⟨rfl, rfl⟩ (Nat.le_of_ble_eq_true rfl) ⟨Nat.le_of_ble_eq_true rfl, Nat.le_of_ble_eq_true rfl⟩ rfl dX8_huts_4 rfl ?_
    rw [rg_ix, e]
    refine wp_if_ne (pc' := 10) (tgt := 12) dX8_huts_7 rfl rfl (fun c7 => ?_) (fun c7 => by exfalso; exact absurd c7 bS)
    refine wp_iconst (pc' := 13) (0) dX8_huts_12 rfl (by decide) ?_
    refine wp_istore_n_2 (pc' := 14) dX8_huts_13 (by decide) rfl rfl ?_
    refine lp0_X8_huts hn h q nr ok.1 (fun h1 e0 s a2 => ?_) (σ.R * σ.C) 0 (by omega) h (fun _ _ => rfl) (fun y hy => by omega)
    refine wp_iconst (pc' := 51) (0) dX8_huts_50 rfl (by decide) ?_
    refine wp_istore_n_2 (pc' := 52) dX8_huts_51 (by decide) rfl rfl ?_
    refine lp1_X8_huts (g := atB σ.R σ.C σ.ρ 2) hn h q (fun h2 L f0 f1 f2 b2 b3 b4 b5 => ?_) 4096 0 0 (by omega) (by omega) h1 _ _ _ _ e0 s HI.start
    have f3 : MF h2 h := MF.hi (fun a ha => f0 a (by omega))
    refine wp_iconst (pc' := 177) (0) dX8_huts_176 rfl (by decide) ?_
    refine wp_istore_n_2 (pc' := 178) dX8_huts_177 (by decide) rfl rfl ?_
    refine wp_iconst (pc' := 179) (0) dX8_huts_178 rfl (by decide) ?_
    refine wp_istore_n_3 (pc' := 180) dX8_huts_179 (by decide) rfl rfl ?_
    refine wp_iconst (pc' := 181) (0) dX8_huts_180 rfl (by decide) ?_
    refine wp_istore_4 (pc' := 183) dX8_huts_181 (by decide) rfl rfl ?_
    exact lp3_X8_huts hn (f3.sh q) f1 f2 ht (fun w => ZQ.mf (b0 w).symm X f3) (fun w => ZQ.mf (b1 w).symm X f3) (σ.R * σ.C) 0 (by omega) _ _
end VMB

