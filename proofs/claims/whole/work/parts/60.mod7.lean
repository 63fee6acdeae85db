abbrev rmX8_countHunger : Room := { frames := 1, cells := 0, slots := 0, locals := 24 }
theorem hy_X8_countHunger : yX8_countHunger.cls = RX8 ∧ yX8_countHunger.cls ≠ "java/lang/invoke/MethodHandle" ∧ yX8_countHunger.cls ≠ "java/lang/invoke/VarHandle" ∧ (parseMethodDescriptor yX8_countHunger.desc).map (fun d => d.parameters.length) = some 1 := by decide +kernel
theorem hz_X8_countHunger : yX8_countHunger.cls ≠ "java/lang/invoke/MethodHandle" ∧ yX8_countHunger.cls ≠ "java/lang/invoke/VarHandle" ∧ (parseMethodDescriptor yX8_countHunger.desc).map (fun d => d.parameters.length) = some 1 := by decide +kernel
abbrev rmX8_road : Room := { frames := 2, cells := 0, slots := 0, locals := 51 }
theorem hy_X8_road : yX8_road.cls = RX8 ∧ yX8_road.cls ≠ "java/lang/invoke/MethodHandle" ∧ yX8_road.cls ≠ "java/lang/invoke/VarHandle" ∧ (parseMethodDescriptor yX8_road.desc).map (fun d => d.parameters.length) = some 3 := by decide +kernel
theorem hz_X8_road : yX8_road.cls ≠ "java/lang/invoke/MethodHandle" ∧ yX8_road.cls ≠ "java/lang/invoke/VarHandle" ∧ (parseMethodDescriptor yX8_road.desc).map (fun d => d.parameters.length) = some 3 := by decide +kernel
theorem me_X8_countHunger_0 : Cond.fieldLink RX8 43 "DrawnByLostModel" "least" "[I" ∈ wsX8_countHunger := by decide +kernel
theorem me_X8_countHunger_1 : Cond.fieldLink RX8 16 "DrawnByLostModel" "hunger" "[I" ∈ wsX8_countHunger := by decide +kernel
theorem me_X8_countHunger_2 : Cond.fieldLink RX8 19 "DrawnByLostModel" "now" "[I" ∈ wsX8_countHunger := by decide +kernel
theorem me_X8_road_0 : Cond.fieldLink RX8 16 "DrawnByLostModel" "hunger" "[I" ∈ wsX8_road := by decide +kernel
theorem me_X8_road_1 : Cond.fieldLink RX8 19 "DrawnByLostModel" "now" "[I" ∈ wsX8_road := by decide +kernel
theorem me_X8_road_2 : Cond.fieldLink RX8 43 "DrawnByLostModel" "least" "[I" ∈ wsX8_road := by decide +kernel
theorem ic_X8_countHunger_8 : ∀ w ∈ wsX80, w ∈ wsX8_countHunger := by decide +kernel
theorem ic_X8_road_8 : ∀ w ∈ wsX80, w ∈ wsX8_road := by decide +kernel
-- the reference's calls: road
section VM7
variable {l : Launch} {D : va_G} {cy : CY} {B n : Nat} {h : Hp} {lg : Lg} {π : Nat → Nat} {σ : Sg}
def mnv (R C : Nat) (hm L : Nat → Nat) (x : Nat) : Nat → Nat
  | 0 => L x
  | z + 1 => if x < R * C ∧ nbr R C x z = true then min (hm z + L z) (mnv R C hm L x z) else mnv R C hm L x z
theorem mnv_lv {R C : Nat} {hm L : Nat → Nat} {x : Nat} (hxP : x < R * C) (hx : L x ≤ 1000000) : ∀ z, mnv R C hm L x z = min (lv R C hm L x z) (L x) := by
  intro z
  induction z with
  | zero => simp only [mnv, lv]; omega
  | succ z ih =>
    simp only [mnv, lv, hxP, true_and]
    split
    · rw [ih]; omega
    · exact ih
theorem mnv_le (R C : Nat) (hm L : Nat → Nat) (x : Nat) : ∀ z, mnv R C hm L x z ≤ L x := by
  intro z
  induction z with
  | zero => exact Nat.le_refl _
  | succ z ih => simp only [mnv]; split <;> omega
theorem PP.skip {R C g k p : Nat} {D L : Nat → Nat} (q : PP R C g D k p L) (hp : R * C ≤ p) : PP R C g D k (p + 1) L := ⟨q.1, q.2.1, q.2.2.1, fun x h1 h2 => q.2.2.2 x (by omega) h2⟩
theorem PP.row {R C g k x : Nat} {hm D L : Nat → Nat} (h1 : ∀ y, y < R * C → 1 ≤ hm y) (d : IsD R C hm g D) (h54 : ∀ x, x < R * C → D x ≤ 54) (q : PP R C g D k x L) (hx : x < R * C) (hl : R * C ≤ 16) (h9 : L x ≤ 9999) : PP R C g D k (x + 1) (setF L x (mnv R C hm L x 16)) := by
  rw [mnv_lv hx (by omega)]
  refine q.step h1 d hx (fun y hy hgo => lv_nb 16 y (by omega) (nbr_iff.mpr ⟨hy, hgo⟩)) ?_
  rcases lv_ex (R := R) (C := C) (hm := hm) (L := L) (x := x) 16 with e | ⟨y, _, y2, y3⟩
  · rw [e]; have := h54 x hx; omega
  · rw [y3]
    obtain ⟨y4, y5⟩ := nbr_iff.mp y2
    have a1 : D x ≤ hm y + D y := d.2 x y hx y4 y5
    have a2 := q.2.1 y y4
    omega
theorem apt1 {C x y : Nat} : apt C x y = 1 ↔ go 0 C x y = true := by
  rw [go_iff, if_neg (by decide)]
  constructor
  · intro z; exact ⟨by omega, Or.inr (by omega)⟩
  · rintro ⟨z1, z2 | z2⟩
    · exact absurd z2 (by decide)
    · omega
def LFm (h : Hp) (L : Nat → Nat) : Prop := ∀ i, i < 16 → h 101 i = nI (L i) ∧ L i ≤ 9999
theorem LFm.set {L : Nat → Nat} {p v w : Nat} (lf : LFm h (setF L p w)) (hp : p < 16) (hv : v ≤ 9999) : LFm (hup h 101 p (nI v)) (setF L p v) := fun i hi => by
  by_cases e : i = p
  · subst e; rw [hup_at, setF_at]; exact ⟨rfl, hv⟩
  · have := lf i hi
    rw [setF_off e] at this
    rw [hup_off e, setF_off e]; exact this
theorem setF_setF (L : Nat → Nat) (p v w : Nat) : setF (setF L p v) p w = setF L p w := by
  funext z; unfold setF; by_cases e : z = p <;> simp [e]
theorem lpi_X8_hung {R C g k x : Nat} {ρ hu L : Nat → Nat} {post : PO} (hn : 105 ≤ n) (H0 : Hp) (q0 : ShM H0 R C) (nr0 : NR H0 93 ρ) (u0 : HM H0 hu) (h5 : ∀ i, i < 16 → ρ i ≤ 5) (hx : x < 16) (l9 : L x ≤ 9999)
    (K : ∀ h', (∀ a, a ≠ 101 → h' a = H0 a) → LFm h' (setF L x (mnv R C (fun y => hu (ρ y)) L x 16)) → ∀ a4 a5 a6 a7, WP l D cy B cX8_countHunger 8 RX8 wsX8_countHunger rmX8_countHunger none (QE0 D cy B n 0 0 (post)) EX0 n (rf0 π) h' lg 0 0 42 [some (.ref (B + 89)), some (.int (nI g)), some (.int (nI k)), some (.int (nI (16 * x + 16))), a4, a5, a6, a7] []) :
    ∀ d z : Nat, z + d = 16 → ∀ h' a4 a5 a6 a7, (∀ a, a ≠ 101 → h' a = H0 a) → LFm h' (setF L x (mnv R C (fun y => hu (ρ y)) L x z)) → WP l D cy B cX8_countHunger 8 RX8 wsX8_countHunger rmX8_countHunger none (QE0 D cy B n 0 0 (post)) EX0 n (rf0 π) h' lg 0 0 42 [some (.ref (B + 89)), some (.int (nI g)), some (.int (nI k)), some (.int (nI (16 * x + z))), a4, a5, a6, a7] [] := by
  have hl := q0.1.le
  intro d
  induction d with
  | zero =>
    intro z hz h' a4 a5 a6 a7 e0 lf
    have : z = 16 := by omega
    subst this
    exact K h' e0 lf _ _ _ _
  | succ d ih =>
    intro z hz h' a4 a5 a6 a7 e0 lf
    have q := q0.of (h' := h') (by rw [e0 91 (by decide)]) (by rw [e0 91 (by decide)])
    have z5 := h5 z (by omega)
    obtain ⟨u1, u2, u3⟩ := u0 (ρ z) (by omega)
    obtain ⟨lx1, lx2⟩ := lf x hx
    rw [setF_at] at lx1 lx2
    obtain ⟨lz1, lz2⟩ := lf z (by omega)
    have al := apt_lt C x z hx (by omega)
    have cx : (16 * x + z) / 16 = x := by omega
    have cz : (16 * x + z) % 16 = z := by omega
    have fin : ∀ v w, v = nI w → w = mnv R C (fun y => hu (ρ y)) L x (z + 1) → ∀ b6 b7, WP l D cy B cX8_countHunger 8 RX8 wsX8_countHunger rmX8_countHunger none (QE0 D cy B n 0 0 (post)) EX0 n (rf0 π) (hup h' 101 x v) lg 0 0 42 [some (.ref (B + 89)), some (.int (nI g)), some (.int (nI k)), some (.int (nI (16 * x + z + 1))), some (.int (nI x)), some (.int (nI z)), some (.int b6), some (.int b7)] [] := by
      intro v w hv hw b6 b7
      subst hv
      subst hw
      have ml := mnv_le R C (fun y => hu (ρ y)) L x (z + 1)
      exact ih (z + 1) (by omega) _ _ _ _ _ (fun a ha => by rw [hup_cell ha]; exact e0 a ha) (lf.set (v := mnv R C (fun y => hu (ρ y)) L x (z + 1)) hx (by omega))
    have nb0 : ¬ (x < R * C ∧ nbr R C x z = true) → mnv R C (fun y => hu (ρ y)) L x z = mnv R C (fun y => hu (ρ y)) L x (z + 1) := by
      intro e
      simp only [mnv]
      rw [if_neg e]
    refine wp_iload_n_3 (pc' := 43) dX8_countHunger_42 rfl ?_
    refine wp_sipush (pc' := 46) (256) dX8_countHunger_43 rfl (by decide) ?_
    refine wp_icmp_ge (pc' := 49) (tgt := 168) dX8_countHunger_46 rfl rfl (fun c46 => by exfalso; exact nI_ge (a := 16 * x + z) (b := 256) (by omega) (by omega) c46) (fun c46 => ?_)
    refine wp_iload_n_3 (pc' := 50) dX8_countHunger_49 rfl ?_
    refine wp_bipush (pc' := 52) (16) dX8_countHunger_50 rfl (by decide) ?_
    refine wp_idiv (pc' := 53) dX8_countHunger_52 rfl (by decide) ?_
    rw [show (16 : Int32) = nI 16 from rfl, pk_div (by omega) (by omega) (by omega), cx]
    refine wp_istore_4 (pc' := 55) dX8_countHunger_53 (by decide) rfl rfl ?_
    refine wp_iload_n_3 (pc' := 56) dX8_countHunger_55 rfl ?_
    refine wp_bipush (pc' := 58) (16) dX8_countHunger_56 rfl (by decide) ?_
    refine wp_irem (pc' := 59) dX8_countHunger_58 rfl (by decide) ?_
    rw [show (16 : Int32) = nI 16 from rfl, pk_rem (by omega) (by omega) (by omega), cz]
    refine wp_istore_5 (pc' := 61) dX8_countHunger_59 (by decide) rfl rfl ?_
    refine wp_iload_4 (pc' := 63) dX8_countHunger_61 rfl ?_
    refine wp_aload_n_0 (pc' := 64) dX8_countHunger_63 rfl ?_
    refine wp_callVu (pc' := 67) (c_X8_places hn q) gX8_countHunger_X8_places rfl rfl hy_X8_places ⟨Nat.le_of_ble_eq_true rfl, Nat.le_of_ble_eq_true rfl⟩ ⟨rfl, rfl⟩ (Nat.le_of_ble_eq_true rfl) ⟨Nat.le_of_ble_eq_true rfl, Nat.le_of_ble_eq_true rfl⟩ (by omega) (ce8 rfl) rfl rfl dX8_countHunger_64 rfl ?_
    refine wp_icmp_ge (pc' := 70) (tgt := 95) dX8_countHunger_67 rfl rfl (fun c67 => ?_) (fun c67 => ?_)
    · skip -- 67 taken
      have e67 : ¬ x < R * C := fun w => nI_ge w (by omega) c67
      refine wp_iconst (pc' := 96) (0) dX8_countHunger_95 rfl (by decide) ?_
      refine wp_istore_6 (pc' := 98) dX8_countHunger_96 (by decide) rfl rfl ?_
      refine wp_iload_6 (pc' := 100) dX8_countHunger_98 rfl ?_
      refine wp_if_eq (pc' := 103) (tgt := 126) dX8_countHunger_100 rfl rfl (fun c100 => ?_) (fun c100 => by exfalso; exact c100 rfl)
      refine wp_sipush (pc' := 129) (9999) dX8_countHunger_126 rfl (by decide) ?_
      refine wp_istore_7 (pc' := 131) dX8_countHunger_129 (by decide) rfl rfl ?_
      refine wp_aload_n_0 (pc' := 132) dX8_countHunger_131 rfl ?_
      refine wp_get_8_18 (pc' := 135) (by omega) rfl rfl me_X8_countHunger_0 ic_X8_countHunger_8 dX8_countHunger_132 rfl ?_
      refine wp_iload_4 (pc' := 137) dX8_countHunger_135 rfl ?_
      refine wp_iload_7 (pc' := 139) dX8_countHunger_137 rfl ?_
      refine wp_aload_n_0 (pc' := 140) dX8_countHunger_139 rfl ?_
      refine wp_get_8_18 (pc' := 143) (by omega) rfl rfl me_X8_countHunger_0 ic_X8_countHunger_8 dX8_countHunger_140 rfl ?_
      refine wp_iload_4 (pc' := 145) dX8_countHunger_143 rfl ?_
      refine wp_iald (pc' := 146) (N := 16) (by omega) rfl rfl (by first | exact vp_in_nI (by omega) (by omega) | assumption | (unfold vp_in; decide)) dX8_countHunger_145 rfl ?_
      rw [nI_clamp (by omega), lx1]
      refine wp_icmp_ge (pc' := 149) (tgt := 154) dX8_countHunger_146 rfl rfl (fun c146 => ?_) (fun c146 => by exfalso; (simp (disch := omega) only [Int32.lt_iff_toInt_lt, Int32.le_iff_toInt_le, ← Int32.toInt_inj, nI_toInt, il_0, il_1, il_2, il_3, il_4, il_5, il_6, il_8, il_9, il_10, il_16, il_26, il_32, il_40, il_n4, il_n1, il_n2, il_11, il_48, il_57, il_59, il_44, il_126, il_200, il_9999, il_66666, il_10000, il_1000000, il_15, il_12, il_256, il_4096, il_53, il_52] at c146; omega))
      refine wp_aload_n_0 (pc' := 155) dX8_countHunger_154 rfl ?_
      refine wp_get_8_18 (pc' := 158) (by omega) rfl rfl me_X8_countHunger_0 ic_X8_countHunger_8 dX8_countHunger_155 rfl ?_
      refine wp_iload_4 (pc' := 160) dX8_countHunger_158 rfl ?_
      refine wp_iald (pc' := 161) (N := 16) (by omega) rfl rfl (by first | exact vp_in_nI (by omega) (by omega) | assumption | (unfold vp_in; decide)) dX8_countHunger_160 rfl ?_
      rw [nI_clamp (by omega), lx1]
      refine wp_iast (pc' := 162) (N := 16) (by omega) rfl rfl (by first | exact vp_in_nI (by omega) (by omega) | assumption | (unfold vp_in; decide)) dX8_countHunger_161 rfl ?_
      refine wp_iinc_3 (pc' := 165) (v := nI (16 * x + z + 1)) dX8_countHunger_162 (by first | rfl | exact nI_1 _) (by decide) rfl rfl ?_
      refine wp_goto (tgt := 42) dX8_countHunger_165 rfl ?_
      rw [nI_clamp (by omega)]
      refine fin _ _ rfl (nb0 ?_) _ _
      exact fun w => e67 w.1
    · skip -- 67 not taken
      refine wp_iload_5 (pc' := 72) dX8_countHunger_70 rfl ?_
      refine wp_aload_n_0 (pc' := 73) dX8_countHunger_72 rfl ?_
      refine wp_callVu (pc' := 76) (c_X8_places hn q) gX8_countHunger_X8_places rfl rfl hy_X8_places ⟨Nat.le_of_ble_eq_true rfl, Nat.le_of_ble_eq_true rfl⟩ ⟨rfl, rfl⟩ (Nat.le_of_ble_eq_true rfl) ⟨Nat.le_of_ble_eq_true rfl, Nat.le_of_ble_eq_true rfl⟩ (by omega) (ce8 rfl) rfl rfl dX8_countHunger_73 rfl ?_
      refine wp_icmp_ge (pc' := 79) (tgt := 95) dX8_countHunger_76 rfl rfl (fun c76 => ?_) (fun c76 => ?_)
      · skip -- 76 taken
        have e76 : ¬ z < R * C := fun w => nI_ge w (by omega) c76
        refine wp_iconst (pc' := 96) (0) dX8_countHunger_95 rfl (by decide) ?_
        refine wp_istore_6 (pc' := 98) dX8_countHunger_96 (by decide) rfl rfl ?_
        refine wp_iload_6 (pc' := 100) dX8_countHunger_98 rfl ?_
        refine wp_if_eq (pc' := 103) (tgt := 126) dX8_countHunger_100 rfl rfl (fun c100 => ?_) (fun c100 => by exfalso; exact c100 rfl)
        refine wp_sipush (pc' := 129) (9999) dX8_countHunger_126 rfl (by decide) ?_
        refine wp_istore_7 (pc' := 131) dX8_countHunger_129 (by decide) rfl rfl ?_
        refine wp_aload_n_0 (pc' := 132) dX8_countHunger_131 rfl ?_
        refine wp_get_8_18 (pc' := 135) (by omega) rfl rfl me_X8_countHunger_0 ic_X8_countHunger_8 dX8_countHunger_132 rfl ?_
        refine wp_iload_4 (pc' := 137) dX8_countHunger_135 rfl ?_
        refine wp_iload_7 (pc' := 139) dX8_countHunger_137 rfl ?_
        refine wp_aload_n_0 (pc' := 140) dX8_countHunger_139 rfl ?_
        refine wp_get_8_18 (pc' := 143) (by omega) rfl rfl me_X8_countHunger_0 ic_X8_countHunger_8 dX8_countHunger_140 rfl ?_
        refine wp_iload_4 (pc' := 145) dX8_countHunger_143 rfl ?_
        refine wp_iald (pc' := 146) (N := 16) (by omega) rfl rfl (by first | exact vp_in_nI (by omega) (by omega) | assumption | (unfold vp_in; decide)) dX8_countHunger_145 rfl ?_
        rw [nI_clamp (by omega), lx1]
        refine wp_icmp_ge (pc' := 149) (tgt := 154) dX8_countHunger_146 rfl rfl (fun c146 => ?_) (fun c146 => by exfalso; (simp (disch := omega) only [Int32.lt_iff_toInt_lt, Int32.le_iff_toInt_le, ← Int32.toInt_inj, nI_toInt, il_0, il_1, il_2, il_3, il_4, il_5, il_6, il_8, il_9, il_10, il_16, il_26, il_32, il_40, il_n4, il_n1, il_n2, il_11, il_48, il_57, il_59, il_44, il_126, il_200, il_9999, il_66666, il_10000, il_1000000, il_15, il_12, il_256, il_4096, il_53, il_52] at c146; omega))
        refine wp_aload_n_0 (pc' := 155) dX8_countHunger_154 rfl ?_
        refine wp_get_8_18 (pc' := 158) (by omega) rfl rfl me_X8_countHunger_0 ic_X8_countHunger_8 dX8_countHunger_155 rfl ?_
        refine wp_iload_4 (pc' := 160) dX8_countHunger_158 rfl ?_
        refine wp_iald (pc' := 161) (N := 16) (by omega) rfl rfl (by first | exact vp_in_nI (by omega) (by omega) | assumption | (unfold vp_in; decide)) dX8_countHunger_160 rfl ?_
        rw [nI_clamp (by omega), lx1]
        refine wp_iast (pc' := 162) (N := 16) (by omega) rfl rfl (by first | exact vp_in_nI (by omega) (by omega) | assumption | (unfold vp_in; decide)) dX8_countHunger_161 rfl ?_
        refine wp_iinc_3 (pc' := 165) (v := nI (16 * x + z + 1)) dX8_countHunger_162 (by first | rfl | exact nI_1 _) (by decide) rfl rfl ?_
        refine wp_goto (tgt := 42) dX8_countHunger_165 rfl ?_
        rw [nI_clamp (by omega)]
        refine fin _ _ rfl (nb0 ?_) _ _
        exact fun w => e76 (nbr_iff.mp w.2).1
      · skip -- 76 not taken
        refine wp_aload_n_0 (pc' := 80) dX8_countHunger_79 rfl ?_
        refine wp_iload_4 (pc' := 82) dX8_countHunger_80 rfl ?_
        refine wp_iload_5 (pc' := 84) dX8_countHunger_82 rfl ?_
        refine wp_callVu (pc' := 87) (c_X8_apart hn q (by omega) (by omega)) gX8_countHunger_X8_apart rfl rfl hy_X8_apart ⟨Nat.le_of_ble_eq_true rfl, Nat.le_of_ble_eq_true rfl⟩ ⟨rfl, rfl⟩ (Nat.le_of_ble_eq_true rfl) ⟨Nat.le_of_ble_eq_true rfl, Nat.le_of_ble_eq_true rfl⟩ (by omega) (ce8 rfl) rfl rfl dX8_countHunger_84 rfl ?_
        refine wp_iconst (pc' := 88) (1) dX8_countHunger_87 rfl (by decide) ?_
        refine wp_icmp_ne (pc' := 91) (tgt := 95) dX8_countHunger_88 rfl rfl (fun c88 => ?_) (fun c88 => ?_)
        · skip -- 88 taken
          have e88 : ¬ apt C x z = 1 := fun w => c88 (by rw [w]; rfl)
          refine wp_iconst (pc' := 96) (0) dX8_countHunger_95 rfl (by decide) ?_
          refine wp_istore_6 (pc' := 98) dX8_countHunger_96 (by decide) rfl rfl ?_
          refine wp_iload_6 (pc' := 100) dX8_countHunger_98 rfl ?_
          refine wp_if_eq (pc' := 103) (tgt := 126) dX8_countHunger_100 rfl rfl (fun c100 => ?_) (fun c100 => by exfalso; exact c100 rfl)
          refine wp_sipush (pc' := 129) (9999) dX8_countHunger_126 rfl (by decide) ?_
          refine wp_istore_7 (pc' := 131) dX8_countHunger_129 (by decide) rfl rfl ?_
          refine wp_aload_n_0 (pc' := 132) dX8_countHunger_131 rfl ?_
          refine wp_get_8_18 (pc' := 135) (by omega) rfl rfl me_X8_countHunger_0 ic_X8_countHunger_8 dX8_countHunger_132 rfl ?_
          refine wp_iload_4 (pc' := 137) dX8_countHunger_135 rfl ?_
          refine wp_iload_7 (pc' := 139) dX8_countHunger_137 rfl ?_
          refine wp_aload_n_0 (pc' := 140) dX8_countHunger_139 rfl ?_
          refine wp_get_8_18 (pc' := 143) (by omega) rfl rfl me_X8_countHunger_0 ic_X8_countHunger_8 dX8_countHunger_140 rfl ?_
          refine wp_iload_4 (pc' := 145) dX8_countHunger_143 rfl ?_
          refine wp_iald (pc' := 146) (N := 16) (by omega) rfl rfl (by first | exact vp_in_nI (by omega) (by omega) | assumption | (unfold vp_in; decide)) dX8_countHunger_145 rfl ?_
          rw [nI_clamp (by omega), lx1]
          refine wp_icmp_ge (pc' := 149) (tgt := 154) dX8_countHunger_146 rfl rfl (fun c146 => ?_) (fun c146 => by exfalso; (simp (disch := omega) only [Int32.lt_iff_toInt_lt, Int32.le_iff_toInt_le, ← Int32.toInt_inj, nI_toInt, il_0, il_1, il_2, il_3, il_4, il_5, il_6, il_8, il_9, il_10, il_16, il_26, il_32, il_40, il_n4, il_n1, il_n2, il_11, il_48, il_57, il_59, il_44, il_126, il_200, il_9999, il_66666, il_10000, il_1000000, il_15, il_12, il_256, il_4096, il_53, il_52] at c146; omega))
          refine wp_aload_n_0 (pc' := 155) dX8_countHunger_154 rfl ?_
          refine wp_get_8_18 (pc' := 158) (by omega) rfl rfl me_X8_countHunger_0 ic_X8_countHunger_8 dX8_countHunger_155 rfl ?_
          refine wp_iload_4 (pc' := 160) dX8_countHunger_158 rfl ?_
          refine wp_iald (pc' := 161) (N := 16) (by omega) rfl rfl (by first | exact vp_in_nI (by omega) (by omega) | assumption | (unfold vp_in; decide)) dX8_countHunger_160 rfl ?_
          rw [nI_clamp (by omega), lx1]
          refine wp_iast (pc' := 162) (N := 16) (by omega) rfl rfl (by first | exact vp_in_nI (by omega) (by omega) | assumption | (unfold vp_in; decide)) dX8_countHunger_161 rfl ?_
          refine wp_iinc_3 (pc' := 165) (v := nI (16 * x + z + 1)) dX8_countHunger_162 (by first | rfl | exact nI_1 _) (by decide) rfl rfl ?_
          refine wp_goto (tgt := 42) dX8_countHunger_165 rfl ?_
          rw [nI_clamp (by omega)]
          refine fin _ _ rfl (nb0 ?_) _ _
          exact fun w => e88 (apt1.mpr (nbr_iff.mp w.2).2)
        · skip -- 88 not taken
          have e88 : apt C x z = 1 := (nI_eq (by omega) (by omega)).mp (show nI (apt C x z) = nI 1 from c88)
          have hzP : z < R * C := by
            apply Classical.byContradiction
            intro w
            exact c76 (nI_le (by omega) (by omega))
          have hxP : x < R * C := by
            apply Classical.byContradiction
            intro w
            exact c67 (nI_le (by omega) (by omega))
          have nb1 : x < R * C ∧ nbr R C x z = true := ⟨hxP, nbr_iff.mpr ⟨hzP, apt1.mp e88⟩⟩
          have hne := go_ne (apt1.mp e88)
          rw [setF_off (Ne.symm hne)] at lz1 lz2
          have em : mnv R C (fun y => hu (ρ y)) L x (z + 1) = min (hu (ρ z) + L z) (mnv R C (fun y => hu (ρ y)) L x z) := by
            simp only [mnv]
            rw [if_pos nb1]
          refine wp_iconst (pc' := 92) (1) dX8_countHunger_91 rfl (by decide) ?_
          refine wp_goto (tgt := 96) dX8_countHunger_92 rfl ?_
          refine wp_istore_6 (pc' := 98) dX8_countHunger_96 (by decide) rfl rfl ?_
          refine wp_iload_6 (pc' := 100) dX8_countHunger_98 rfl ?_
          refine wp_if_eq (pc' := 103) (tgt := 126) dX8_countHunger_100 rfl rfl (fun c100 => by exfalso; exact absurd c100 (by decide)) (fun c100 => ?_)
          refine wp_aload_n_0 (pc' := 104) dX8_countHunger_103 rfl ?_
          refine wp_get_8_3 (pc' := 107) (by omega) rfl rfl me_X8_countHunger_1 ic_X8_countHunger_8 dX8_countHunger_104 rfl ?_
          refine wp_aload_n_0 (pc' := 108) dX8_countHunger_107 rfl ?_
          refine wp_get_8_4 (pc' := 111) (by omega) rfl rfl me_X8_countHunger_2 ic_X8_countHunger_8 dX8_countHunger_108 rfl ?_
          refine wp_iload_5 (pc' := 113) dX8_countHunger_111 rfl ?_
          refine wp_iald (pc' := 114) (N := 52) (by omega) rfl rfl (by first | exact vp_in_nI (by omega) (by omega) | assumption | (unfold vp_in; decide)) dX8_countHunger_113 rfl ?_
          rw [nI_clamp (by omega), e0 93 (by decide), nr0 z (by omega)]
          refine wp_iald (pc' := 115) (N := 12) (by omega) rfl rfl (by first | exact vp_in_nI (by omega) (by omega) | assumption | (unfold vp_in; decide)) dX8_countHunger_114 rfl ?_
          rw [nI_clamp (by omega), e0 92 (by decide), u1]
          refine wp_aload_n_0 (pc' := 116) dX8_countHunger_115 rfl ?_
          refine wp_get_8_18 (pc' := 119) (by omega) rfl rfl me_X8_countHunger_0 ic_X8_countHunger_8 dX8_countHunger_116 rfl ?_
          refine wp_iload_5 (pc' := 121) dX8_countHunger_119 rfl ?_
          refine wp_iald (pc' := 122) (N := 16) (by omega) rfl rfl (by first | exact vp_in_nI (by omega) (by omega) | assumption | (unfold vp_in; decide)) dX8_countHunger_121 rfl ?_
          rw [nI_clamp (by omega), lz1]
          refine wp_iadd (pc' := 123) dX8_countHunger_122 rfl ?_
          rw [nI_add]
          refine wp_goto (tgt := 129) dX8_countHunger_123 rfl ?_
          refine wp_istore_7 (pc' := 131) dX8_countHunger_129 (by decide) rfl rfl ?_
          refine wp_aload_n_0 (pc' := 132) dX8_countHunger_131 rfl ?_
          refine wp_get_8_18 (pc' := 135) (by omega) rfl rfl me_X8_countHunger_0 ic_X8_countHunger_8 dX8_countHunger_132 rfl ?_
          refine wp_iload_4 (pc' := 137) dX8_countHunger_135 rfl ?_
          refine wp_iload_7 (pc' := 139) dX8_countHunger_137 rfl ?_
          refine wp_aload_n_0 (pc' := 140) dX8_countHunger_139 rfl ?_
          refine wp_get_8_18 (pc' := 143) (by omega) rfl rfl me_X8_countHunger_0 ic_X8_countHunger_8 dX8_countHunger_140 rfl ?_
          refine wp_iload_4 (pc' := 145) dX8_countHunger_143 rfl ?_
          refine wp_iald (pc' := 146) (N := 16) (by omega) rfl rfl (by first | exact vp_in_nI (by omega) (by omega) | assumption | (unfold vp_in; decide)) dX8_countHunger_145 rfl ?_
          rw [nI_clamp (by omega), lx1]
          refine wp_icmp_ge (pc' := 149) (tgt := 154) dX8_countHunger_146 rfl rfl (fun c146 => ?_) (fun c146 => ?_)
          · skip -- 146 taken
            have e146 : mnv R C (fun y => hu (ρ y)) L x z ≤ hu (ρ z) + L z := by (simp (disch := omega) only [Int32.lt_iff_toInt_lt, Int32.le_iff_toInt_le, ← Int32.toInt_inj, nI_toInt, il_0, il_1, il_2, il_3, il_4, il_5, il_6, il_8, il_9, il_10, il_16, il_26, il_32, il_40, il_n4, il_n1, il_n2, il_11, il_48, il_57, il_59, il_44, il_126, il_200, il_9999, il_66666, il_10000, il_1000000, il_15, il_12, il_256, il_4096, il_53, il_52] at c146; omega)
            refine wp_aload_n_0 (pc' := 155) dX8_countHunger_154 rfl ?_
            refine wp_get_8_18 (pc' := 158) (by omega) rfl rfl me_X8_countHunger_0 ic_X8_countHunger_8 dX8_countHunger_155 rfl ?_
            refine wp_iload_4 (pc' := 160) dX8_countHunger_158 rfl ?_
            refine wp_iald (pc' := 161) (N := 16) (by omega) rfl rfl (by first | exact vp_in_nI (by omega) (by omega) | assumption | (unfold vp_in; decide)) dX8_countHunger_160 rfl ?_
            rw [nI_clamp (by omega), lx1]
            refine wp_iast (pc' := 162) (N := 16) (by omega) rfl rfl (by first | exact vp_in_nI (by omega) (by omega) | assumption | (unfold vp_in; decide)) dX8_countHunger_161 rfl ?_
            refine wp_iinc_3 (pc' := 165) (v := nI (16 * x + z + 1)) dX8_countHunger_162 (by first | rfl | exact nI_1 _) (by decide) rfl rfl ?_
            refine wp_goto (tgt := 42) dX8_countHunger_165 rfl ?_
            rw [nI_clamp (by omega)]
            exact fin _ _ rfl (by rw [em]; omega) _ _
          · skip -- 146 not taken
            have e146 : ¬ mnv R C (fun y => hu (ρ y)) L x z ≤ hu (ρ z) + L z := by (simp (disch := omega) only [Int32.lt_iff_toInt_lt, Int32.le_iff_toInt_le, ← Int32.toInt_inj, nI_toInt, il_0, il_1, il_2, il_3, il_4, il_5, il_6, il_8, il_9, il_10, il_16, il_26, il_32, il_40, il_n4, il_n1, il_n2, il_11, il_48, il_57, il_59, il_44, il_126, il_200, il_9999, il_66666, il_10000, il_1000000, il_15, il_12, il_256, il_4096, il_53, il_52] at c146; omega)
            refine wp_iload_7 (pc' := 151) dX8_countHunger_149 rfl ?_
            refine wp_goto (tgt := 161) dX8_countHunger_151 rfl ?_
            refine wp_iast (pc' := 162) (N := 16) (by omega) rfl rfl (by first | exact vp_in_nI (by omega) (by omega) | assumption | (unfold vp_in; decide)) dX8_countHunger_161 rfl ?_
            refine wp_iinc_3 (pc' := 165) (v := nI (16 * x + z + 1)) dX8_countHunger_162 (by first | rfl | exact nI_1 _) (by decide) rfl rfl ?_
            refine wp_goto (tgt := 42) dX8_countHunger_165 rfl ?_
            rw [nI_clamp (by omega)]
            exact fin _ _ rfl (by rw [em]; omega) _ _
theorem lp2_X8_hung {R C g k : Nat} {ρ hu Dd : Nat → Nat} {post : PO} (hn : 105 ≤ n) (H0 : Hp) (q0 : ShM H0 R C) (nr0 : NR H0 93 ρ) (u0 : HM H0 hu) (h5 : ∀ i, i < 16 → ρ i ≤ 5) (hg : g < R * C) (dd : IsD R C (fun y => hu (ρ y)) g Dd) (h54 : ∀ x, x < R * C → Dd x ≤ 54)
    (K : ∀ h' L, (∀ a, a ≠ 101 → h' a = H0 a) → LFm h' L → PP R C g Dd k 16 L → ∀ a3 a4 a5 a6 a7, WP l D cy B cX8_countHunger 8 RX8 wsX8_countHunger rmX8_countHunger none (QE0 D cy B n 0 0 (post)) EX0 n (rf0 π) h' lg 0 0 168 [some (.ref (B + 89)), some (.int (nI g)), some (.int (nI k)), a3, a4, a5, a6, a7] []) :
    ∀ d x : Nat, x + d = 16 → ∀ h' L a4 a5 a6 a7, (∀ a, a ≠ 101 → h' a = H0 a) → LFm h' L → PP R C g Dd k x L → WP l D cy B cX8_countHunger 8 RX8 wsX8_countHunger rmX8_countHunger none (QE0 D cy B n 0 0 (post)) EX0 n (rf0 π) h' lg 0 0 42 [some (.ref (B + 89)), some (.int (nI g)), some (.int (nI k)), some (.int (nI (16 * x))), a4, a5, a6, a7] [] := by
  have hl := q0.1.le
  have h1 : ∀ y, y < R * C → 1 ≤ (fun y => hu (ρ y)) y := fun y hy => (u0 (ρ y) (by have := h5 y (by omega); omega)).2.1
  intro d
  induction d with
  | zero =>
    intro x hx h' L a4 a5 a6 a7 e0 lf pp
    have : x = 16 := by omega
    subst this
    refine wp_iload_n_3 (pc' := 43) dX8_countHunger_42 rfl ?_
    refine wp_sipush (pc' := 46) (256) dX8_countHunger_43 rfl (by decide) ?_
    refine wp_icmp_ge (pc' := 49) (tgt := 168) dX8_countHunger_46 rfl rfl (fun c46 => ?_) (fun c46 => by exfalso; exact c46 (by decide))
    exact K h' L e0 lf pp _ _ _ _ _
  | succ d ih =>
    intro x hx h' L a4 a5 a6 a7 e0 lf pp
    have l9 := (lf x (by omega)).2
    refine lpi_X8_hung (L := L) (x := x) hn H0 q0 nr0 u0 h5 (by omega) l9 (fun h2 f0 f1 b4 b5 b6 b7 => ?_) 16 0 (by omega) h' a4 a5 a6 a7 e0 (by rw [show mnv R C (fun y => hu (ρ y)) L x 0 = L x from rfl, setF_self]; exact lf)
    rw [show 16 * x + 16 = 16 * (x + 1) by omega]
    refine ih (x + 1) (by omega) h2 _ _ _ _ _ f0 f1 ?_
    by_cases z : x < R * C
    · exact pp.row h1 dd h54 z hl l9
    · exact ⟨by rw [setF_off (by omega)]; exact pp.1, fun y hy => by rw [setF_off (by omega)]; exact pp.2.1 y hy, fun y hy hr => by rw [setF_off (by omega)]; exact pp.2.2.1 y hy hr, fun y hy hy2 hr => by rw [setF_off (by omega)]; exact pp.2.2.2 y (by omega) hy2 hr⟩
theorem lp1_X8_hung {R C g : Nat} {ρ hu Dd : Nat → Nat} {post : PO} (hn : 105 ≤ n) (H0 : Hp) (q0 : ShM H0 R C) (nr0 : NR H0 93 ρ) (u0 : HM H0 hu) (h5 : ∀ i, i < 16 → ρ i ≤ 5) (hg : g < R * C) (dd : IsD R C (fun y => hu (ρ y)) g Dd) (h54 : ∀ x, x < R * C → Dd x ≤ 54)
    (K : ∀ h' L, (∀ a, a ≠ 101 → h' a = H0 a) → LFm h' L → (∀ x, x < R * C → L x = Dd x) → post none (rf0 π) h' lg) :
    ∀ d k : Nat, k + d = 16 → ∀ h' L a3 a4 a5 a6 a7, (∀ a, a ≠ 101 → h' a = H0 a) → LFm h' L → PP R C g Dd k 0 L → WP l D cy B cX8_countHunger 8 RX8 wsX8_countHunger rmX8_countHunger none (QE0 D cy B n 0 0 (post)) EX0 n (rf0 π) h' lg 0 0 34 [some (.ref (B + 89)), some (.int (nI g)), some (.int (nI k)), a3, a4, a5, a6, a7] [] := by
  have hl := q0.1.le
  intro d
  induction d with
  | zero =>
    intro k hk h' L a3 a4 a5 a6 a7 e0 lf pp
    have : k = 16 := by omega
    subst this
    refine wp_iload_n_2 (pc' := 35) dX8_countHunger_34 rfl ?_
    refine wp_bipush (pc' := 37) (16) dX8_countHunger_35 rfl (by decide) ?_
    refine wp_icmp_ge (pc' := 40) (tgt := 174) dX8_countHunger_37 rfl rfl (fun c37 => ?_) (fun c37 => by exfalso; exact c37 (by decide))
    refine wp_return dX8_countHunger_174 rfl rfl (Nat.le_refl _) (Nat.le_refl _) ?_
    exact K h' L e0 lf (fun x hx => pp.done q0.1 (by omega) hx)
  | succ d ih =>
    intro k hk h' L a3 a4 a5 a6 a7 e0 lf pp
    refine wp_iload_n_2 (pc' := 35) dX8_countHunger_34 rfl ?_
    refine wp_bipush (pc' := 37) (16) dX8_countHunger_35 rfl (by decide) ?_
    refine wp_icmp_ge (pc' := 40) (tgt := 174) dX8_countHunger_37 rfl rfl (fun c37 => by exfalso; (simp (disch := omega) only [Int32.lt_iff_toInt_lt, Int32.le_iff_toInt_le, ← Int32.toInt_inj, nI_toInt, il_0, il_1, il_2, il_3, il_4, il_5, il_6, il_8, il_9, il_10, il_16, il_26, il_32, il_40, il_n4, il_n1, il_n2, il_11, il_48, il_57, il_59, il_44, il_126, il_200, il_9999, il_66666, il_10000, il_1000000, il_15, il_12, il_256, il_4096, il_53, il_52] at c37; omega)) (fun c37 => ?_)
    refine wp_iconst (pc' := 41) (0) dX8_countHunger_40 rfl (by decide) ?_
    refine wp_istore_n_3 (pc' := 42) dX8_countHunger_41 (by decide) rfl rfl ?_
    refine lp2_X8_hung hn H0 q0 nr0 u0 h5 hg dd h54 (fun h2 L2 f0 f1 f2 b3 b4 b5 b6 b7 => ?_) 16 0 (by omega) h' L _ _ _ _ e0 lf pp
    refine wp_iinc_2 (pc' := 171) (v := nI (k + 1)) dX8_countHunger_168 (by first | rfl | exact nI_1 _) (by decide) rfl rfl ?_
    refine wp_goto (tgt := 34) dX8_countHunger_171 rfl ?_
    exact ih (k + 1) (by omega) h2 L2 _ _ _ _ _ f0 f1 (f2.next hl)
theorem lp0_X8_hung {g : Nat} {post : PO} (hn : 105 ≤ n) (hg : g < 16) (H0 : Hp)
    (K : ∀ h', (∀ a, a ≠ 101 → h' a = H0 a) → (∀ i, i < 16 → h' 101 i = nI (if i = g then 0 else 9999)) → ∀ a2 a3 a4 a5 a6 a7, WP l D cy B cX8_countHunger 8 RX8 wsX8_countHunger rmX8_countHunger none (QE0 D cy B n 0 0 (post)) EX0 n (rf0 π) h' lg 0 0 32 [some (.ref (B + 89)), some (.int (nI g)), a2, a3, a4, a5, a6, a7] []) :
    ∀ d i : Nat, i + d = 16 → ∀ h' a3 a4 a5 a6 a7, (∀ a, a ≠ 101 → h' a = H0 a) → (∀ j, j < i → h' 101 j = nI (if j = g then 0 else 9999)) → WP l D cy B cX8_countHunger 8 RX8 wsX8_countHunger rmX8_countHunger none (QE0 D cy B n 0 0 (post)) EX0 n (rf0 π) h' lg 0 0 2 [some (.ref (B + 89)), some (.int (nI g)), some (.int (nI i)), a3, a4, a5, a6, a7] [] := by
  intro d
  induction d with
  | zero =>
    intro i hi h' a3 a4 a5 a6 a7 e0 e1
    have : i = 16 := by omega
    subst this
    refine wp_iload_n_2 (pc' := 3) dX8_countHunger_2 rfl ?_
    refine wp_bipush (pc' := 5) (16) dX8_countHunger_3 rfl (by decide) ?_
    refine wp_icmp_ge (pc' := 8) (tgt := 32) dX8_countHunger_5 rfl rfl (fun c5 => ?_) (fun c5 => by exfalso; exact c5 (by decide))
    exact K h' e0 e1 _ _ _ _ _ _
  | succ d ih =>
    intro i hi h' a3 a4 a5 a6 a7 e0 e1
    have go : ∀ v, v = nI (if i = g then 0 else 9999) → WP l D cy B cX8_countHunger 8 RX8 wsX8_countHunger rmX8_countHunger none (QE0 D cy B n 0 0 (post)) EX0 n (rf0 π) (hup h' 101 i v) lg 0 0 2 [some (.ref (B + 89)), some (.int (nI g)), some (.int (nI (i + 1))), a3, a4, a5, a6, a7] [] := by
      intro v hv
      refine ih (i + 1) (by omega) _ _ _ _ _ _ (fun a ha => by rw [hup_cell ha]; exact e0 a ha) (fun j hj => ?_)
      by_cases e : j = i
      · subst e; rw [hup_at]; exact hv
      · rw [hup_off e]; exact e1 j (by omega)
    refine wp_iload_n_2 (pc' := 3) dX8_countHunger_2 rfl ?_
    refine wp_bipush (pc' := 5) (16) dX8_countHunger_3 rfl (by decide) ?_
    refine wp_icmp_ge (pc' := 8) (tgt := 32) dX8_countHunger_5 rfl rfl (fun c5 => by exfalso; (simp (disch := omega) only [Int32.lt_iff_toInt_lt, Int32.le_iff_toInt_le, ← Int32.toInt_inj, nI_toInt, il_0, il_1, il_2, il_3, il_4, il_5, il_6, il_8, il_9, il_10, il_16, il_26, il_32, il_40, il_n4, il_n1, il_n2, il_11, il_48, il_57, il_59, il_44, il_126, il_200, il_9999, il_66666, il_10000, il_1000000, il_15, il_12, il_256, il_4096, il_53, il_52] at c5; omega)) (fun c5 => ?_)
    refine wp_aload_n_0 (pc' := 9) dX8_countHunger_8 rfl ?_
    refine wp_get_8_18 (pc' := 12) (by omega) rfl rfl me_X8_countHunger_0 ic_X8_countHunger_8 dX8_countHunger_9 rfl ?_
    refine wp_iload_n_2 (pc' := 13) dX8_countHunger_12 rfl ?_
    refine wp_iload_n_2 (pc' := 14) dX8_countHunger_13 rfl ?_
    refine wp_iload_n_1 (pc' := 15) dX8_countHunger_14 rfl ?_
    refine wp_icmp_ne (pc' := 18) (tgt := 22) dX8_countHunger_15 rfl rfl (fun c15 => ?_) (fun c15 => ?_)
    · skip -- 15 taken
      refine wp_sipush (pc' := 25) (9999) dX8_countHunger_22 rfl (by decide) ?_
      refine wp_iast (pc' := 26) (N := 16) (by omega) rfl rfl (by first | exact vp_in_nI (by omega) (by omega) | assumption | (unfold vp_in; decide)) dX8_countHunger_25 rfl ?_
      refine wp_iinc_2 (pc' := 29) (v := nI (i + 1)) dX8_countHunger_26 (by first | rfl | exact nI_1 _) (by decide) rfl rfl ?_
      refine wp_goto (tgt := 2) dX8_countHunger_29 rfl ?_
      rw [nI_clamp (by omega)]
      exact go _ (by rw [if_neg (fun w => c15 (by rw [w]))]; rfl)
    · skip -- 15 not taken
      refine wp_iconst (pc' := 19) (0) dX8_countHunger_18 rfl (by decide) ?_
      refine wp_goto (tgt := 25) dX8_countHunger_19 rfl ?_
      refine wp_iast (pc' := 26) (N := 16) (by omega) rfl rfl (by first | exact vp_in_nI (by omega) (by omega) | assumption | (unfold vp_in; decide)) dX8_countHunger_25 rfl ?_
      refine wp_iinc_2 (pc' := 29) (v := nI (i + 1)) dX8_countHunger_26 (by first | rfl | exact nI_1 _) (by decide) rfl rfl ?_
      refine wp_goto (tgt := 2) dX8_countHunger_29 rfl ?_
      rw [nI_clamp (by omega)]
      exact go _ (by rw [if_pos ((nI_eq (by omega) (by omega)).mp c15)]; rfl)
theorem c_X8_countHunger {R C g : Nat} {ρ hu Dd : Nat → Nat} (hn : 105 ≤ n) (q : ShM h R C) (nr : NR h 93 ρ) (u : HM h hu) (h5 : ∀ i, i < 16 → ρ i ≤ 5) (hg : g < R * C) (dd : IsD R C (fun y => hu (ρ y)) g Dd) (h54 : ∀ x, x < R * C → Dd x ≤ 54) : Ctr l D cy B yX8_countHunger wsX8_countHunger rmX8_countHunger 0 0 n (rf0 π) h lg [.ref (B + 89), .int (nI g)] (qV (fun h' => (∀ a, a ≠ 101 → h' a = h a) ∧ ∃ L, LFm h' L ∧ ∀ x, x < R * C → L x = Dd x) (rf0 π) lg) := by
  have hl := q.1.le
  have h1 : ∀ y, y < R * C → 1 ≤ (fun y => hu (ρ y)) y := fun y hy => (u (ρ y) (by have := h5 y (by omega); omega)).2.1
  refine Ctr.of (cc := cX8_countHunger) (nL := 8) (own := RX8) (rt := none) (ls := [some (.ref (B + 89)), some (.int (nI g)), none, none, none, none, none, none]) (by decide) rfl rfl (Nat.le_of_ble_eq_true rfl) rfl ?_
  refine wp_iconst (pc' := 1) (0) dX8_countHunger_0 rfl (by decide) ?_
  refine wp_istore_n_2 (pc' := 2) dX8_countHunger_1 (by decide) rfl rfl ?_
  refine lp0_X8_hung hn (by omega) h (fun h' e0 e1 a2 a3 a4 a5 a6 a7 => ?_) 16 0 (by omega) h _ _ _ _ _ (fun _ _ => rfl) (fun j hj => by omega)
  refine wp_iconst (pc' := 33) (0) dX8_countHunger_32 rfl (by decide) ?_
  refine wp_istore_n_2 (pc' := 34) dX8_countHunger_33 (by decide) rfl rfl ?_
  refine lp1_X8_hung hn h q nr u h5 hg dd h54 (fun h2 L f0 f1 f2 => qV_of ⟨f0, L, f1, f2⟩) 16 0 (by omega) h' (fun i => if i = g then 0 else 9999) _ _ _ _ _ e0 (fun i hi => ⟨e1 i hi, ?_⟩) (PP.start h1 dd hg (if_pos rfl) (fun x hx => ?_))
  · show (if i = g then 0 else 9999) ≤ 9999
    split <;> omega
  · show Dd x ≤ (if x = g then 0 else 9999)
    by_cases e : x = g
    · rw [if_pos e, e, dd.1.1]; exact Nat.le_refl _
    · rw [if_neg e]; have := h54 x hx; omega
theorem ffO_spec {f : Nat → Bool} : ∀ d y z, ffO f d y = some z → y ≤ z ∧ z < y + d ∧ f z = true ∧ ∀ w, y ≤ w → w < z → f w = false := by
  intro d
  induction d with
  | zero => intro y z h; cases h
  | succ d ih =>
    intro y z h
    simp only [ffO] at h
    by_cases e : f y = true
    · rw [if_pos e] at h
      cases h
      exact ⟨Nat.le_refl _, by omega, e, fun w h1 h2 => by omega⟩
    · rw [if_neg e] at h
      obtain ⟨h1, h2, h3, h4⟩ := ih (y + 1) z h
      refine ⟨by omega, by omega, h3, fun w w1 w2 => ?_⟩
      by_cases e2 : w = y
      · subst e2; simpa using e
      · exact h4 w (by omega) w2
theorem ffO_nspec {f : Nat → Bool} : ∀ d y, ffO f d y = none → ∀ w, y ≤ w → w < y + d → f w = false := by
  intro d
  induction d with
  | zero => intro y _ w h1 h2; omega
  | succ d ih =>
    intro y h w h1 h2
    simp only [ffO] at h
    by_cases e : f y = true
    · rw [if_pos e] at h; cases h
    · rw [if_neg e] at h
      by_cases e2 : w = y
      · subst e2; simpa using e
      · exact ih (y + 1) h w (by omega) (by omega)
theorem nxF_some {f : Nat → Bool} {df z : Nat} : ∀ d y, y ≤ z → z < y + d → f z = true → (∀ w, y ≤ w → w < z → f w = false) → nxF f df d y = z := by
  intro d
  induction d with
  | zero => intro y h1 h2; omega
  | succ d ih =>
    intro y h1 h2 h3 h4
    simp only [nxF]
    by_cases e : y = z
    · subst e; rw [if_pos h3]
    · rw [if_neg (by rw [h4 y (by omega) (by omega)]; decide)]
      exact ih (y + 1) (by omega) (by omega) h3 (fun w w1 w2 => h4 w (by omega) w2)
theorem lp_X8_road {R C x g : Nat} {t : Int32} {ρ hu L : Nat → Nat} {post : PO} (hn : 105 ≤ n) (q : ShM h R C) (nr : NR h 93 ρ) (u : HM h hu) (h5 : ∀ i, i < 16 → ρ i ≤ 5) (lf : LFm h L) (hx : x < R * C)
    (K : post (some (.int (enc (ffO (nxP R C (fun y => hu (ρ y)) L x) (R * C) 0)))) (rf0 π) h lg) :
    ∀ d : Nat, d ≤ R * C → ∀ x5 : Int32, x5 = nI d - 1 → WP l D cy B cX8_road 6 RX8 wsX8_road rmX8_road (some .int) (QE0 D cy B n 0 0 (post)) EX0 n (rf0 π) h lg 0 0 69 [some (.ref (B + 89)), some (.int (nI x)), some (.int (nI g)), some (.int t), some (.int (enc (ffO (nxP R C (fun y => hu (ρ y)) L x) (R * C - d) d))), some (.int x5)] [] := by
  have hl := q.1.le
  intro d
  induction d with
  | zero =>
    intro hd x5 hx5
    subst hx5
    refine wp_iload_5 (pc' := 71) dX8_road_69 rfl ?_
    refine wp_if_lt (pc' := 74) (tgt := 129) dX8_road_71 rfl rfl (fun c71 => ?_) (fun c71 => by exfalso; exact c71 (by decide))
    refine wp_iload_4 (pc' := 131) dX8_road_129 rfl ?_
    refine wp_ireturn dX8_road_131 rfl rfl (Nat.le_refl _) (Nat.le_refl _) ?_
    exact K
  | succ d ih =>
    intro hd x5 hx5
    subst hx5
    rw [nI_pred]
    have al := apt_lt C x d (by omega) (by omega)
    have d5 := h5 d (by omega)
    obtain ⟨u1, u2, u3⟩ := u (ρ d) (by omega)
    obtain ⟨lx1, lx2⟩ := lf x (by omega)
    obtain ⟨ld1, ld2⟩ := lf d (by omega)
    have z := ih (by omega) _ rfl
    have ec : R * C - d = (R * C - (d + 1)) + 1 := by omega
    rw [ec, show ffO (nxP R C (fun y => hu (ρ y)) L x) (R * C - (d + 1) + 1) d = if nxP R C (fun y => hu (ρ y)) L x d = true then some d else ffO (nxP R C (fun y => hu (ρ y)) L x) (R * C - (d + 1)) (d + 1) from rfl] at z
    have nx : nxP R C (fun y => hu (ρ y)) L x d = true ↔ apt C x d = 1 ∧ hu (ρ d) + L d = L x := by
      unfold nxP
      rw [Bool.and_eq_true, nbr_iff, decide_eq_true_eq, apt1]
      exact ⟨fun w => ⟨w.1.2, w.2⟩, fun w => ⟨⟨by omega, w.1⟩, w.2⟩⟩
    refine wp_iload_5 (pc' := 71) dX8_road_69 rfl ?_
    refine wp_if_lt (pc' := 74) (tgt := 129) dX8_road_71 rfl rfl (fun c71 => by exfalso; exact nI_pos (by omega) c71) (fun c71 => ?_)
    refine wp_aload_n_0 (pc' := 75) dX8_road_74 rfl ?_
    refine wp_iload_n_1 (pc' := 76) dX8_road_75 rfl ?_
    refine wp_iload_5 (pc' := 78) dX8_road_76 rfl ?_
    refine wp_callVu (pc' := 81) (c_X8_apart hn q (by omega) (by omega)) gX8_road_X8_apart rfl rfl hy_X8_apart ⟨Nat.le_of_ble_eq_true rfl, Nat.le_of_ble_eq_true rfl⟩ ⟨rfl, rfl⟩ (Nat.le_of_ble_eq_true rfl) ⟨Nat.le_of_ble_eq_true rfl, Nat.le_of_ble_eq_true rfl⟩ (by omega) (ce8 rfl) rfl rfl dX8_road_78 rfl ?_
    refine wp_iconst (pc' := 82) (1) dX8_road_81 rfl (by decide) ?_
    refine wp_icmp_ne (pc' := 85) (tgt := 119) dX8_road_82 rfl rfl (fun c82 => ?_) (fun c82 => ?_)
    · skip -- 82 taken
      refine wp_iload_4 (pc' := 121) dX8_road_119 rfl ?_
      refine wp_istore_4 (pc' := 123) dX8_road_121 (by decide) rfl rfl ?_
      refine wp_iinc_5 (pc' := 126) dX8_road_123 (dec_m1 _) (by decide) rfl rfl ?_
      refine wp_goto (tgt := 69) dX8_road_126 rfl ?_
      rw [if_neg (fun w => c82 (by rw [(nx.mp w).1]; rfl))] at z
      exact z
    · skip -- 82 not taken
      refine wp_aload_n_0 (pc' := 86) dX8_road_85 rfl ?_
      refine wp_get_8_3 (pc' := 89) (by omega) rfl rfl me_X8_road_0 ic_X8_road_8 dX8_road_86 rfl ?_
      refine wp_aload_n_0 (pc' := 90) dX8_road_89 rfl ?_
      refine wp_get_8_4 (pc' := 93) (by omega) rfl rfl me_X8_road_1 ic_X8_road_8 dX8_road_90 rfl ?_
      refine wp_iload_5 (pc' := 95) dX8_road_93 rfl ?_
      refine wp_iald (pc' := 96) (N := 52) (by omega) rfl rfl (by first | exact vp_in_nI (by omega) (by omega) | assumption | (unfold vp_in; decide)) dX8_road_95 rfl ?_
      rw [nI_clamp (by omega), nr d (by omega)]
      refine wp_iald (pc' := 97) (N := 12) (by omega) rfl rfl (by first | exact vp_in_nI (by omega) (by omega) | assumption | (unfold vp_in; decide)) dX8_road_96 rfl ?_
      rw [nI_clamp (by omega), u1]
      refine wp_aload_n_0 (pc' := 98) dX8_road_97 rfl ?_
      refine wp_get_8_18 (pc' := 101) (by omega) rfl rfl me_X8_road_2 ic_X8_road_8 dX8_road_98 rfl ?_
      refine wp_iload_5 (pc' := 103) dX8_road_101 rfl ?_
      refine wp_iald (pc' := 104) (N := 16) (by omega) rfl rfl (by first | exact vp_in_nI (by omega) (by omega) | assumption | (unfold vp_in; decide)) dX8_road_103 rfl ?_
      rw [nI_clamp (by omega), ld1]
      refine wp_iadd (pc' := 105) dX8_road_104 rfl ?_
      rw [nI_add]
      refine wp_aload_n_0 (pc' := 106) dX8_road_105 rfl ?_
      refine wp_get_8_18 (pc' := 109) (by omega) rfl rfl me_X8_road_2 ic_X8_road_8 dX8_road_106 rfl ?_
      refine wp_iload_n_1 (pc' := 110) dX8_road_109 rfl ?_
      refine wp_iald (pc' := 111) (N := 16) (by omega) rfl rfl (by first | exact vp_in_nI (by omega) (by omega) | assumption | (unfold vp_in; decide)) dX8_road_110 rfl ?_
      rw [nI_clamp (by omega), lx1]
      refine wp_icmp_ne (pc' := 114) (tgt := 119) dX8_road_111 rfl rfl (fun c111 => ?_) (fun c111 => ?_)
      · skip -- 111 taken
        refine wp_iload_4 (pc' := 121) dX8_road_119 rfl ?_
        refine wp_istore_4 (pc' := 123) dX8_road_121 (by decide) rfl rfl ?_
        refine wp_iinc_5 (pc' := 126) dX8_road_123 (dec_m1 _) (by decide) rfl rfl ?_
        refine wp_goto (tgt := 69) dX8_road_126 rfl ?_
        rw [if_neg (fun w => c111 (by rw [(nx.mp w).2]))] at z
        exact z
      · skip -- 111 not taken
        refine wp_iload_5 (pc' := 116) dX8_road_114 rfl ?_
        refine wp_goto (tgt := 121) dX8_road_116 rfl ?_
        refine wp_istore_4 (pc' := 123) dX8_road_121 (by decide) rfl rfl ?_
        refine wp_iinc_5 (pc' := 126) dX8_road_123 (dec_m1 _) (by decide) rfl rfl ?_
        refine wp_goto (tgt := 69) dX8_road_126 rfl ?_
        rw [if_pos (nx.mpr ⟨(nI_eq (by omega) (by omega)).mp (show nI (apt C x d) = nI 1 from c82), (nI_eq (by omega) (by omega)).mp c111⟩)] at z
        exact z
theorem c_X8_road (hn : 105 ≤ n) (X : MI h σ) (x y t : Int32) : Ctr l D cy B yX8_road wsX8_road rmX8_road 0 0 n (rf0 π) h lg [.ref (B + 89), .int x, .int y, .int t] (ZQ π h (aRoad σ x y t) σ) := by
  obtain ⟨T, q, hm, ok, nr, xp, xk⟩ := id X
  have hl := q.1.le
  have h9 : ∀ z, z < σ.R * σ.C → σ.hu (σ.ρ z) ≤ 9 := fun z hz => (hm (σ.ρ z) (by have := ok.1 z (by omega); omega)).2.2
  have h1 : ∀ z, z < σ.R * σ.C → 1 ≤ σ.hu (σ.ρ z) := fun z hz => (hm (σ.ρ z) (by have := ok.1 z (by omega); omega)).2.1
  cases e : ix x (σ.R * σ.C) with
  | none =>
    rw [show aRoad σ x y t = -1 by simp only [aRoad, e]]
    refine Ctr.of (cc := cX8_road) (nL := 6) (own := RX8) (rt := (some .int)) (ls := [some (.ref (B + 89)), some (.int x), some (.int y), some (.int t), none, none]) (by decide) rfl rfl (Nat.le_of_ble_eq_true rfl) rfl ?_
    refine wp_aload_n_0 (pc' := 1) dX8_road_0 rfl ?_
    refine wp_iload_n_1 (pc' := 2) dX8_road_1 rfl ?_
    refine wp_callVu (pc' := 5) (c_X8_isPlace hn q _) gX8_road_X8_isPlace rfl rfl hy_X8_isPlace ⟨Nat.le_of_ble_eq_true rfl, Nat.le_of_ble_eq_true rfl⟩ ⟨rfl, rfl⟩ (Nat.le_of_ble_eq_true rfl) ⟨Nat.le_of_ble_eq_true rfl, Nat.le_of_ble_eq_true rfl⟩ (by omega) (ce8 rfl) rfl rfl dX8_road_2 rfl ?_
    rw [e]
    refine wp_if_eq (pc' := 8) (tgt := 26) dX8_road_5 rfl rfl (fun c5 => ?_) (fun c5 => by exfalso; exact c5 rfl)
    refine wp_iconst (pc' := 27) (-1) dX8_road_26 rfl (by decide) ?_
    refine wp_ireturn dX8_road_27 rfl rfl (Nat.le_refl _) (Nat.le_refl _) ?_
    exact ZQ.id rfl X
  | some a =>
    cases e2 : ix y (σ.R * σ.C) with
    | none =>
      rw [show aRoad σ x y t = -1 by simp only [aRoad, e, e2]]
      refine Ctr.of (cc := cX8_road) (nL := 6) (own := RX8) (rt := (some .int)) (ls := [some (.ref (B + 89)), some (.int x), some (.int y), some (.int t), none, none]) (by decide) rfl rfl (Nat.le_of_ble_eq_true rfl) rfl ?_
      refine wp_aload_n_0 (pc' := 1) dX8_road_0 rfl ?_
      refine wp_iload_n_1 (pc' := 2) dX8_road_1 rfl ?_
      refine wp_callVu (pc' := 5) (c_X8_isPlace hn q _) gX8_road_X8_isPlace rfl rfl hy_X8_isPlace ⟨Nat.le_of_ble_eq_true rfl, Nat.le_of_ble_eq_true rfl⟩ ⟨rfl, rfl⟩ (Nat.le_of_ble_eq_true rfl) ⟨Nat.le_of_ble_eq_true rfl, Nat.le_of_ble_eq_true rfl⟩ (by omega) (ce8 rfl) rfl rfl dX8_road_2 rfl ?_
      rw [e]
      refine wp_if_eq (pc' := 8) (tgt := 26) dX8_road_5 rfl rfl (fun c5 => by exfalso; exact absurd c5 bS) (fun c5 => ?_)
      refine wp_aload_n_0 (pc' := 9) dX8_road_8 rfl ?_
      refine wp_iload_n_2 (pc' := 10) dX8_road_9 rfl ?_
      refine wp_callVu (pc' := 13) (c_X8_isPlace hn q _) gX8_road_X8_isPlace rfl rfl hy_X8_isPlace ⟨Nat.le_of_ble_eq_true rfl, Nat.le_of_ble_eq_true rfl⟩ ⟨rfl, rfl⟩ (Nat.le_of_ble_eq_true rfl) ⟨Nat.le_of_ble_eq_true rfl, Nat.le_of_ble_eq_true rfl⟩ (by omega) (ce8 rfl) rfl rfl dX8_road_10 rfl ?_
      rw [e2]
      refine wp_if_eq (pc' := 16) (tgt := 26) dX8_road_13 rfl rfl (fun c13 => ?_) (fun c13 => by exfalso; exact c13 rfl)
      refine wp_iconst (pc' := 27) (-1) dX8_road_26 rfl (by decide) ?_
      refine wp_ireturn dX8_road_27 rfl rfl (Nat.le_refl _) (Nat.le_refl _) ?_
      exact ZQ.id rfl X
    | some b =>
      cases e3 : ix t 2 with
      | none =>
        rw [show aRoad σ x y t = -1 by simp only [aRoad, e, e2, e3]]
        refine Ctr.of (cc := cX8_road) (nL := 6) (own := RX8) (rt := (some .int)) (ls := [some (.ref (B + 89)), some (.int x), some (.int y), some (.int t), none, none]) (by decide) rfl rfl (Nat.le_of_ble_eq_true rfl) rfl ?_
        refine wp_aload_n_0 (pc' := 1) dX8_road_0 rfl ?_
        refine wp_iload_n_1 (pc' := 2) dX8_road_1 rfl ?_
        refine wp_callVu (pc' := 5) (c_X8_isPlace hn q _) gX8_road_X8_isPlace rfl rfl hy_X8_isPlace ⟨Nat.le_of_ble_eq_true rfl, Nat.le_of_ble_eq_true rfl⟩ ⟨rfl, rfl⟩ (Nat.le_of_ble_eq_true rfl) ⟨Nat.le_of_ble_eq_true rfl, Nat.le_of_ble_eq_true rfl⟩ (by omega) (ce8 rfl) rfl rfl dX8_road_2 rfl ?_
        rw [e]
        refine wp_if_eq (pc' := 8) (tgt := 26) dX8_road_5 rfl rfl (fun c5 => by exfalso; exact absurd c5 bS) (fun c5 => ?_)
        refine wp_aload_n_0 (pc' := 9) dX8_road_8 rfl ?_
        refine wp_iload_n_2 (pc' := 10) dX8_road_9 rfl ?_
        refine wp_callVu (pc' := 13) (c_X8_isPlace hn q _) gX8_road_X8_isPlace rfl rfl hy_X8_isPlace ⟨Nat.le_of_ble_eq_true rfl, Nat.le_of_ble_eq_true rfl⟩ ⟨rfl, rfl⟩ (Nat.le_of_ble_eq_true rfl) ⟨Nat.le_of_ble_eq_true rfl, Nat.le_of_ble_eq_true rfl⟩ (by omega) (ce8 rfl) rfl rfl dX8_road_10 rfl ?_
        rw [e2]
        refine wp_if_eq (pc' := 16) (tgt := 26) dX8_road_13 rfl rfl (fun c13 => by exfalso; exact absurd c13 bS) (fun c13 => ?_)
        refine wp_iload_n_3 (pc' := 17) dX8_road_16 rfl ?_
        refine wp_i2l (pc' := 18) dX8_road_17 rfl ?_
        refine wp_lconst (pc' := 19) (0) dX8_road_18 rfl (by decide) ?_
        refine wp_lconst (pc' := 20) (1) dX8_road_19 rfl (by decide) ?_
        refine wp_callSu (pc' := 23) (c_in_rg t (lo := 0) (hi := 1) (by omega) (by omega)) gX8_road_X8_in rfl rfl hz_X8_in ⟨Nat.le_of_ble_eq_true rfl, Nat.le_of_ble_eq_true rfl⟩ ⟨rfl, rfl⟩ (Nat.le_of_ble_eq_true rfl) ⟨Nat.le_of_ble_eq_true rfl, Nat.le_of_ble_eq_true rfl⟩ rfl dX8_road_20 rfl ?_
        rw [rg_ix, e3]
        refine wp_if_ne (pc' := 26) (tgt := 28) dX8_road_23 rfl rfl (fun c23 => by exfalso; exact c23 rfl) (fun c23 => ?_)
        refine wp_iconst (pc' := 27) (-1) dX8_road_26 rfl (by decide) ?_
        refine wp_ireturn dX8_road_27 rfl rfl (Nat.le_refl _) (Nat.le_refl _) ?_
        exact ZQ.id rfl X
      | some c =>
        obtain ⟨rfl, z1⟩ := ix_some e
        obtain ⟨rfl, z2⟩ := ix_some e2
        have dd := dst_ok q.1 z2 h9
        rcases ix2 e3 with ⟨rfl, rfl⟩ | ⟨rfl, rfl⟩
        · rw [show aRoad σ (nI a) (nI b) 0 = nI (dst σ.R σ.C (fun z => σ.hu (σ.ρ z)) b a) by simp only [aRoad, e, e2, e3]]
          refine Ctr.of (cc := cX8_road) (nL := 6) (own := RX8) (rt := (some .int)) (ls := [some (.ref (B + 89)), some (.int (nI a)), some (.int (nI b)), some (.int 0), none, none]) (by decide) rfl rfl (Nat.le_of_ble_eq_true rfl) rfl ?_
          refine wp_aload_n_0 (pc' := 1) dX8_road_0 rfl ?_
          refine wp_iload_n_1 (pc' := 2) dX8_road_1 rfl ?_
          refine wp_callVu (pc' := 5) (c_X8_isPlace hn q _) gX8_road_X8_isPlace rfl rfl hy_X8_isPlace ⟨Nat.le_of_ble_eq_true rfl, Nat.le_of_ble_eq_true rfl⟩ ⟨rfl, rfl⟩ (Nat.le_of_ble_eq_true rfl) ⟨Nat.le_of_ble_eq_true rfl, Nat.le_of_ble_eq_true rfl⟩ (by omega) (ce8 rfl) rfl rfl dX8_road_2 rfl ?_
          rw [e]
          refine wp_if_eq (pc' := 8) (tgt := 26) dX8_road_5 rfl rfl (fun c5 => by exfalso; exact absurd c5 bS) (fun c5 => ?_)
          refine wp_aload_n_0 (pc' := 9) dX8_road_8 rfl ?_
          refine wp_iload_n_2 (pc' := 10) dX8_road_9 rfl ?_
          refine wp_callVu (pc' := 13) (c_X8_isPlace hn q _) gX8_road_X8_isPlace rfl rfl hy_X8_isPlace ⟨Nat.le_of_ble_eq_true rfl, Nat.le_of_ble_eq_true rfl⟩ ⟨rfl, rfl⟩ (Nat.le_of_ble_eq_true rfl) ⟨Nat.le_of_ble_eq_true rfl, Nat.le_of_ble_eq_true rfl⟩ (by omega) (ce8 rfl) rfl rfl dX8_road_10 rfl ?_
          rw [e2]
          refine wp_if_eq (pc' := 16) (tgt := 26) dX8_road_13 rfl rfl (fun c13 => by exfalso; exact absurd c13 bS) (fun c13 => ?_)
          refine wp_iload_n_3 (pc' := 17) dX8_road_16 rfl ?_
          refine wp_i2l (pc' := 18) dX8_road_17 rfl ?_
          refine wp_lconst (pc' := 19) (0) dX8_road_18 rfl (by decide) ?_
          refine wp_lconst (pc' := 20) (1) dX8_road_19 rfl (by decide) ?_
          refine wp_callSu (pc' := 23) (c_in_rg 0 (lo := 0) (hi := 1) (by omega) (by omega)) gX8_road_X8_in rfl rfl hz_X8_in ⟨Nat.le_of_ble_eq_true rfl, Nat.le_of_ble_eq_true rfl⟩ ⟨rfl, rfl⟩ (Nat.le_of_ble_eq_true rfl) ⟨Nat.le_of_ble_eq_true rfl, Nat.le_of_ble_eq_true rfl⟩ rfl dX8_road_20 rfl ?_
          rw [rg_ix, e3]
          refine wp_if_ne (pc' := 26) (tgt := 28) dX8_road_23 rfl rfl (fun c23 => ?_) (fun c23 => by exfalso; exact absurd c23 bS)
          refine wp_aload_n_0 (pc' := 29) dX8_road_28 rfl ?_
          refine wp_iload_n_2 (pc' := 30) dX8_road_29 rfl ?_
          refine wp_callVv (pc' := 33) (c_X8_countHunger hn q nr hm ok.1 z2 dd.1 dd.2) gX8_road_X8_countHunger rfl rfl hy_X8_countHunger ⟨Nat.le_of_ble_eq_true rfl, Nat.le_of_ble_eq_true rfl⟩ ⟨rfl, rfl⟩ (Nat.le_of_ble_eq_true rfl) ⟨Nat.le_of_ble_eq_true rfl, Nat.le_of_ble_eq_true rfl⟩ (by omega) (ce8 rfl) rfl rfl dX8_road_30 rfl (fun h30 q30 => ?_)
          obtain ⟨g0, L, g1, g2⟩ := q30
          refine wp_iload_n_3 (pc' := 34) dX8_road_33 rfl ?_
          refine wp_if_eq (pc' := 37) (tgt := 42) dX8_road_34 rfl rfl (fun c34 => ?_) (fun c34 => by exfalso; exact c34 rfl)
          refine wp_iload_n_3 (pc' := 43) dX8_road_42 rfl ?_
          refine wp_if_ne (pc' := 46) (tgt := 55) dX8_road_43 rfl rfl (fun c43 => by exfalso; exact c43 rfl) (fun c43 => ?_)
          refine wp_aload_n_0 (pc' := 47) dX8_road_46 rfl ?_
          refine wp_get_8_18 (pc' := 50) (by omega) rfl rfl me_X8_road_2 ic_X8_road_8 dX8_road_47 rfl ?_
          refine wp_iload_n_1 (pc' := 51) dX8_road_50 rfl ?_
          refine wp_iald (pc' := 52) (N := 16) (by omega) rfl rfl (by first | exact vp_in_nI (by omega) (by omega) | assumption | (unfold vp_in; decide)) dX8_road_51 rfl ?_
          rw [nI_clamp (by omega), (g1 a (by omega)).1, g2 a z1]
          refine wp_goto (tgt := 56) dX8_road_52 rfl ?_
          refine wp_ireturn dX8_road_56 rfl rfl (Nat.le_refl _) (Nat.le_refl _) ?_
          exact ZQ.mf rfl X (MF.hi (fun k hk => g0 k (by omega)))
        · by_cases w : a = b
          · rw [show aRoad σ (nI a) (nI b) 1 = nI a by simp only [aRoad, e, e2, e3, w, if_true]]
            refine Ctr.of (cc := cX8_road) (nL := 6) (own := RX8) (rt := (some .int)) (ls := [some (.ref (B + 89)), some (.int (nI a)), some (.int (nI b)), some (.int 1), none, none]) (by decide) rfl rfl (Nat.le_of_ble_eq_true rfl) rfl ?_
            refine wp_aload_n_0 (pc' := 1) dX8_road_0 rfl ?_
            refine wp_iload_n_1 (pc' := 2) dX8_road_1 rfl ?_
            refine wp_callVu (pc' := 5) (c_X8_isPlace hn q _) gX8_road_X8_isPlace rfl rfl hy_X8_isPlace ⟨Nat.le_of_ble_eq_true rfl, Nat.le_of_ble_eq_true rfl⟩ ⟨rfl, rfl⟩ (Nat.le_of_ble_eq_true rfl) ⟨Nat.le_of_ble_eq_true rfl, Nat.le_of_ble_eq_true rfl⟩ (by omega) (ce8 rfl) rfl rfl dX8_road_2 rfl ?_
            rw [e]
            refine wp_if_eq (pc' := 8) (tgt := 26) dX8_road_5 rfl rfl (fun c5 => by exfalso; exact absurd c5 bS) (fun c5 => ?_)
            refine wp_aload_n_0 (pc' := 9) dX8_road_8 rfl ?_
            refine wp_iload_n_2 (pc' := 10) dX8_road_9 rfl ?_
            refine wp_callVu (pc' := 13) (c_X8_isPlace hn q _) gX8_road_X8_isPlace rfl rfl hy_X8_isPlace ⟨Nat.le_of_ble_eq_true rfl, Nat.le_of_ble_eq_true rfl⟩ ⟨rfl, rfl⟩ (Nat.le_of_ble_eq_true rfl) ⟨Nat.le_of_ble_eq_true rfl, Nat.le_of_ble_eq_true rfl⟩ (by omega) (ce8 rfl) rfl rfl dX8_road_10 rfl ?_
            rw [e2]
            refine wp_if_eq (pc' := 16) (tgt := 26) dX8_road_13 rfl rfl (fun c13 => by exfalso; exact absurd c13 bS) (fun c13 => ?_)
            refine wp_iload_n_3 (pc' := 17) dX8_road_16 rfl ?_
            refine wp_i2l (pc' := 18) dX8_road_17 rfl ?_
            refine wp_lconst (pc' := 19) (0) dX8_road_18 rfl (by decide) ?_
            refine wp_lconst (pc' := 20) (1) dX8_road_19 rfl (by decide) ?_
            refine wp_callSu (pc' := 23) (c_in_rg 1 (lo := 0) (hi := 1) (by omega) (by omega)) gX8_road_X8_in rfl rfl hz_X8_in ⟨Nat.le_of_ble_eq_true rfl, Nat.le_of_ble_eq_true rfl⟩ ⟨rfl, rfl⟩ (Nat.le_of_ble_eq_true rfl) ⟨Nat.le_of_ble_eq_true rfl, Nat.le_of_ble_eq_true rfl⟩ rfl dX8_road_20 rfl ?_
            rw [rg_ix, e3]
            refine wp_if_ne (pc' := 26) (tgt := 28) dX8_road_23 rfl rfl (fun c23 => ?_) (fun c23 => by exfalso; exact absurd c23 bS)
            refine wp_aload_n_0 (pc' := 29) dX8_road_28 rfl ?_
            refine wp_iload_n_2 (pc' := 30) dX8_road_29 rfl ?_
            refine wp_callVv (pc' := 33) (c_X8_countHunger hn q nr hm ok.1 z2 dd.1 dd.2) gX8_road_X8_countHunger rfl rfl hy_X8_countHunger ⟨Nat.le_of_ble_eq_true rfl, Nat.le_of_ble_eq_true rfl⟩ ⟨rfl, rfl⟩ (Nat.le_of_ble_eq_true rfl) ⟨Nat.le_of_ble_eq_true rfl, Nat.le_of_ble_eq_true rfl⟩ (by omega) (ce8 rfl) rfl rfl dX8_road_30 rfl (fun h30 q30 => ?_)
            obtain ⟨g0, L, g1, g2⟩ := q30
            refine wp_iload_n_3 (pc' := 34) dX8_road_33 rfl ?_
            refine wp_if_eq (pc' := 37) (tgt := 42) dX8_road_34 rfl rfl (fun c34 => by exfalso; exact absurd c34 (by decide)) (fun c34 => ?_)
            refine wp_iload_n_1 (pc' := 38) dX8_road_37 rfl ?_
            refine wp_iload_n_2 (pc' := 39) dX8_road_38 rfl ?_
            refine wp_icmp_ne (pc' := 42) (tgt := 57) dX8_road_39 rfl rfl (fun c39 => by exfalso; exact c39 (by rw [w])) (fun c39 => ?_)
            refine wp_iload_n_3 (pc' := 43) dX8_road_42 rfl ?_
            refine wp_if_ne (pc' := 46) (tgt := 55) dX8_road_43 rfl rfl (fun c43 => ?_) (fun c43 => by exfalso; exact absurd c43 (by decide))
            refine wp_iload_n_1 (pc' := 56) dX8_road_55 rfl ?_
            refine wp_ireturn dX8_road_56 rfl rfl (Nat.le_refl _) (Nat.le_refl _) ?_
            exact ZQ.mf rfl X (MF.hi (fun k hk => g0 k (by omega)))
          · rw [show aRoad σ (nI a) (nI b) 1 = nI (nxF (nxP σ.R σ.C (fun z => σ.hu (σ.ρ z)) (dst σ.R σ.C (fun z => σ.hu (σ.ρ z)) b) a) a 16 0) by simp only [aRoad, e, e2, e3, w, if_false]]
            refine Ctr.of (cc := cX8_road) (nL := 6) (own := RX8) (rt := (some .int)) (ls := [some (.ref (B + 89)), some (.int (nI a)), some (.int (nI b)), some (.int 1), none, none]) (by decide) rfl rfl (Nat.le_of_ble_eq_true rfl) rfl ?_
            refine wp_aload_n_0 (pc' := 1) dX8_road_0 rfl ?_
            refine wp_iload_n_1 (pc' := 2) dX8_road_1 rfl ?_
            refine wp_callVu (pc' := 5) (c_X8_isPlace hn q _) gX8_road_X8_isPlace rfl rfl hy_X8_isPlace ⟨Nat.le_of_ble_eq_true rfl, Nat.le_of_ble_eq_true rfl⟩ ⟨rfl, rfl⟩ (Nat.le_of_ble_eq_true rfl) ⟨Nat.le_of_ble_eq_true rfl, Nat.le_of_ble_eq_true rfl⟩ (by omega) (ce8 rfl) rfl rfl dX8_road_2 rfl ?_
            rw [e]
            refine wp_if_eq (pc' := 8) (tgt := 26) dX8_road_5 rfl rfl (fun c5 => by exfalso; exact absurd c5 bS) (fun c5 => ?_)
            refine wp_aload_n_0 (pc' := 9) dX8_road_8 rfl ?_
            refine wp_iload_n_2 (pc' := 10) dX8_road_9 rfl ?_
            refine wp_callVu (pc' := 13) (c_X8_isPlace hn q _) gX8_road_X8_isPlace rfl rfl hy_X8_isPlace ⟨Nat.le_of_ble_eq_true rfl, Nat.le_of_ble_eq_true rfl⟩ ⟨rfl, rfl⟩ (Nat.le_of_ble_eq_true rfl) ⟨Nat.le_of_ble_eq_true rfl, Nat.le_of_ble_eq_true rfl⟩ (by omega) (ce8 rfl) rfl rfl dX8_road_10 rfl ?_
            rw [e2]
            refine wp_if_eq (pc' := 16) (tgt := 26) dX8_road_13 rfl rfl (fun c13 => by exfalso; exact absurd c13 bS) (fun c13 => ?_)
            refine wp_iload_n_3 (pc' := 17) dX8_road_16 rfl ?_
            refine wp_i2l (pc' := 18) dX8_road_17 rfl ?_
            refine wp_lconst (pc' := 19) (0) dX8_road_18 rfl (by decide) ?_
            refine wp_lconst (pc' := 20) (1) dX8_road_19 rfl (by decide) ?_
            refine wp_callSu (pc' := 23) (c_in_rg 1 (lo := 0) (hi := 1) (by omega) (by omega)) gX8_road_X8_in rfl rfl hz_X8_in ⟨Nat.le_of_ble_eq_true rfl, Nat.le_of_ble_eq_true rfl⟩ ⟨rfl, rfl⟩ (Nat.le_of_ble_eq_true rfl) ⟨Nat.le_of_ble_eq_true rfl, Nat.le_of_ble_eq_true rfl⟩ rfl dX8_road_20 rfl ?_
            rw [rg_ix, e3]
            refine wp_if_ne (pc' := 26) (tgt := 28) dX8_road_23 rfl rfl (fun c23 => ?_) (fun c23 => by exfalso; exact absurd c23 bS)
            refine wp_aload_n_0 (pc' := 29) dX8_road_28 rfl ?_
            refine wp_iload_n_2 (pc' := 30) dX8_road_29 rfl ?_
            refine wp_callVv (pc' := 33) (c_X8_countHunger hn q nr hm ok.1 z2 dd.1 dd.2) gX8_road_X8_countHunger rfl rfl hy_X8_countHunger ⟨Nat.le_of_ble_eq_true rfl, Nat.le_of_ble_eq_true rfl⟩ ⟨rfl, rfl⟩ (Nat.le_of_ble_eq_true rfl) ⟨Nat.le_of_ble_eq_true rfl, Nat.le_of_ble_eq_true rfl⟩ (by omega) (ce8 rfl) rfl rfl dX8_road_30 rfl (fun h30 q30 => ?_)
            obtain ⟨g0, L, g1, g2⟩ := q30
            have f2 : MF h30 h := MF.hi (fun k hk => g0 k (by omega))
            refine wp_iload_n_3 (pc' := 34) dX8_road_33 rfl ?_
            refine wp_if_eq (pc' := 37) (tgt := 42) dX8_road_34 rfl rfl (fun c34 => by exfalso; exact absurd c34 (by decide)) (fun c34 => ?_)
            refine wp_iload_n_1 (pc' := 38) dX8_road_37 rfl ?_
            refine wp_iload_n_2 (pc' := 39) dX8_road_38 rfl ?_
            refine wp_icmp_ne (pc' := 42) (tgt := 57) dX8_road_39 rfl rfl (fun c39 => ?_) (fun c39 => by exfalso; exact w ((nI_eq (by omega) (by omega)).mp c39))
            refine wp_bipush (pc' := 59) (-4) dX8_road_57 rfl (by decide) ?_
            refine wp_istore_4 (pc' := 61) dX8_road_59 (by decide) rfl rfl ?_
            refine wp_aload_n_0 (pc' := 62) dX8_road_61 rfl ?_
            refine wp_callVu (pc' := 65) (c_X8_places hn (f2.sh q)) gX8_road_X8_places rfl rfl hy_X8_places ⟨Nat.le_of_ble_eq_true rfl, Nat.le_of_ble_eq_true rfl⟩ ⟨rfl, rfl⟩ (Nat.le_of_ble_eq_true rfl) ⟨Nat.le_of_ble_eq_true rfl, Nat.le_of_ble_eq_true rfl⟩ (by omega) (ce8 rfl) rfl rfl dX8_road_62 rfl ?_
            refine wp_iconst (pc' := 66) (1) dX8_road_65 rfl (by decide) ?_
            refine wp_isub (pc' := 67) dX8_road_66 rfl ?_
            refine wp_istore_5 (pc' := 69) dX8_road_67 (by decide) rfl rfl ?_
            rw [show (-4 : Int32) = enc (ffO (nxP σ.R σ.C (fun y => σ.hu (σ.ρ y)) L a) (σ.R * σ.C - σ.R * σ.C) (σ.R * σ.C)) by rw [Nat.sub_self]; rfl]
            refine lp_X8_road hn (f2.sh q) (f2.nr nr) (f2.hm hm) ok.1 g1 z1 ?_ (σ.R * σ.C) (Nat.le_refl _) _ rfl
            refine ZQ.mf ?_ X f2
            obtain ⟨y, y1, y2, y3⟩ := dd.1.eqn z1 w
            have ny : nxP σ.R σ.C (fun y => σ.hu (σ.ρ y)) L a y = true := by
              unfold nxP
              rw [Bool.and_eq_true, nbr_iff, decide_eq_true_eq, g2 y y1, g2 a z1]
              exact ⟨⟨y1, y2⟩, y3.symm⟩
            have same : ∀ v, nxP σ.R σ.C (fun z => σ.hu (σ.ρ z)) (dst σ.R σ.C (fun z => σ.hu (σ.ρ z)) b) a v = nxP σ.R σ.C (fun y => σ.hu (σ.ρ y)) L a v := by
              intro v
              unfold nxP
              cases w3 : nbr σ.R σ.C a v
              · rfl
              · rw [g2 v (nbr_iff.mp w3).1, g2 a z1]
            cases e9 : ffO (nxP σ.R σ.C (fun y => σ.hu (σ.ρ y)) L a) (σ.R * σ.C) 0 with
            | none =>
              rw [ffO_nspec _ _ e9 y (by omega) (by omega)] at ny
              cases ny
            | some v =>
              obtain ⟨v1, v2, v3, v4⟩ := ffO_spec _ _ _ e9
              rw [nxF_some (z := v) 16 0 (by omega) (by omega) (by rw [same]; exact v3) (fun k k1 k2 => by rw [same]; exact v4 k k1 k2)]
              rfl
end VM7

