abbrev rmX6_measure : Room := { frames := 4, cells := 0, slots := 0, locals := 90 }
theorem hy_X6_measure : yX6_measure.cls = RX6 ∧ yX6_measure.cls ≠ "java/lang/invoke/MethodHandle" ∧ yX6_measure.cls ≠ "java/lang/invoke/VarHandle" ∧ (parseMethodDescriptor yX6_measure.desc).map (fun d => d.parameters.length) = some 3 := by decide +kernel
theorem hz_X6_measure : yX6_measure.cls ≠ "java/lang/invoke/MethodHandle" ∧ yX6_measure.cls ≠ "java/lang/invoke/VarHandle" ∧ (parseMethodDescriptor yX6_measure.desc).map (fun d => d.parameters.length) = some 3 := by decide +kernel
theorem me_X6_measure_0 : Cond.fieldLink RX6 9 "DrawnByLost$Traveller" "left" "[I" ∈ wsX6_measure := by decide +kernel
theorem me_X6_measure_1 : Cond.constant RX6 21 (1000000) ∈ wsX6_measure := by decide +kernel
theorem ic_X6_measure_6 : ∀ w ∈ wsX60, w ∈ wsX6_measure := by decide +kernel
-- Traveller: measure
section VT2
variable {l : Launch} {D : va_G} {cy : CY} {B n : Nat} {h : Hp} {lg : Lg} {π : Nat → Nat}
theorem setF_self {L : Nat → Nat} {p : Nat} : setF L p (L p) = L := by
  funext z
  by_cases e : z = p
  · subst e; rw [setF_at]
  · rw [setF_off e]
theorem LF.set {h : Hp} {L : Nat → Nat} {p v : Nat} (lf : LF h L) (hp : p < 16) (hv : v ≤ 1000000) : LF (hup h 83 p (nI v)) (setF L p v) := by
  intro i hi
  by_cases e : i = p
  · subst e; rw [hup_at, setF_at]; exact ⟨rfl, hv⟩
  · rw [hup_off e, setF_off e]; exact lf i hi
theorem LF.of_eq {h h' : Hp} {L : Nat → Nat} (lf : LF h L) (e : h' 83 = h 83) : LF h' L := fun i hi => by rw [e]; exact lf i hi
theorem MK.of_eq {h h' : Hp} {k : Nat} {mk : Nat → Nat} (m : MK h k mk) (e : h' (k + 1) = h (k + 1)) : MK h' k mk := fun i hi => by rw [e]; exact m i hi
theorem HU.of_eq {h h' : Hp} {hu : Nat → Nat} (m : HU h hu) (e : h' 12 = h 12) : HU h' hu := fun i hi => by rw [e]; exact m i hi
theorem lp_X6_meas0 {g : Nat} {post : PO} (hn : 89 ≤ n) (hg : g < 16) (H0 : Hp)
    (K : ∀ h', (∀ a, a ≠ 83 → h' a = H0 a) → (∀ i, i < 16 → h' 83 i = nI (if i = g then 0 else 1000000)) → ∀ a4, WP l D cy B cX6_measure 8 RX6 wsX6_measure rmX6_measure none (QE0 D cy B n 0 0 (post)) EX0 n (rf0 π) h' lg 0 0 35 [some (.ref (B + 82)), some (.ref (B + 11)), some (.ref (B + 19)), some (.int (nI g)), a4, none, none, none] []) :
    ∀ d i : Nat, i + d = 16 → ∀ h', (∀ a, a ≠ 83 → h' a = H0 a) → (∀ j, j < i → h' 83 j = nI (if j = g then 0 else 1000000)) → WP l D cy B cX6_measure 8 RX6 wsX6_measure rmX6_measure none (QE0 D cy B n 0 0 (post)) EX0 n (rf0 π) h' lg 0 0 3 [some (.ref (B + 82)), some (.ref (B + 11)), some (.ref (B + 19)), some (.int (nI g)), some (.int (nI i)), none, none, none] [] := by
  intro d
  induction d with
  | zero =>
    intro i hi h' e0 e1
    have : i = 16 := by omega
    subst this
    refine wp_iload_4 (pc' := 5) dX6_measure_3 rfl ?_
    refine wp_bipush (pc' := 7) (16) dX6_measure_5 rfl (by decide) ?_
    refine wp_icmp_ge (pc' := 10) (tgt := 35) dX6_measure_7 rfl rfl (fun c7 => ?_) (fun c7 => by exfalso; exact c7 (by decide))
    exact K h' e0 e1 _
  | succ d ih =>
    intro i hi h' e0 e1
    have key : ∀ v : Int32, v = nI (if i = g then 0 else 1000000) → WP l D cy B cX6_measure 8 RX6 wsX6_measure rmX6_measure none (QE0 D cy B n 0 0 (post)) EX0 n (rf0 π) h' lg 0 0 28 [some (.ref (B + 82)), some (.ref (B + 11)), some (.ref (B + 19)), some (.int (nI g)), some (.int (nI i)), none, none, none] [.int v, .int (nI i), .ref (B + 83)] := by
      intro v hv
      refine wp_iast (pc' := 29) (N := 16) (by omega) rfl rfl (by first | exact vp_in_nI (by omega) (by omega) | assumption | (unfold vp_in; decide)) dX6_measure_28 rfl ?_
      refine wp_iinc_4 (pc' := 32) (v := nI (i + 1)) dX6_measure_29 (by first | rfl | exact nI_1 _) (by decide) rfl rfl ?_
      refine wp_goto (tgt := 3) dX6_measure_32 rfl ?_
      rw [nI_clamp (by omega)]
      refine ih (i + 1) (by omega) _ (fun a ha => by rw [hup_cell ha]; exact e0 a ha) (fun j hj => ?_)
      by_cases e : j = i
      · subst e; rw [hup_at, hv]
      · rw [hup_off e]; exact e1 j (by omega)
    refine wp_iload_4 (pc' := 5) dX6_measure_3 rfl ?_
    refine wp_bipush (pc' := 7) (16) dX6_measure_5 rfl (by decide) ?_
    refine wp_icmp_ge (pc' := 10) (tgt := 35) dX6_measure_7 rfl rfl (fun c7 => by exfalso; (simp (disch := omega) only [Int32.lt_iff_toInt_lt, Int32.le_iff_toInt_le, ← Int32.toInt_inj, nI_toInt, il_0, il_1, il_2, il_3, il_4, il_5, il_6, il_8, il_9, il_10, il_16, il_26, il_32, il_40, il_n4, il_n1, il_n2, il_11, il_48, il_57, il_59, il_44, il_126, il_200, il_9999, il_66666, il_10000, il_1000000, il_15, il_12, il_256, il_4096, il_53, il_52] at c7; omega)) (fun c7 => ?_)
    refine wp_aload_n_0 (pc' := 11) dX6_measure_10 rfl ?_
    refine wp_get_6_0 (pc' := 14) (by omega) rfl rfl me_X6_measure_0 ic_X6_measure_6 dX6_measure_11 rfl ?_
    refine wp_iload_4 (pc' := 16) dX6_measure_14 rfl ?_
    refine wp_iload_4 (pc' := 18) dX6_measure_16 rfl ?_
    refine wp_iload_n_3 (pc' := 19) dX6_measure_18 rfl ?_
    refine wp_icmp_ne (pc' := 22) (tgt := 26) dX6_measure_19 rfl rfl (fun c19 => ?_) (fun c19 => ?_)
    · skip -- 19 taken
      refine wp_ldc (pc' := 28) (v := (1000000)) me_X6_measure_1 dX6_measure_26 rfl ?_
      exact key _ (by rw [if_neg (fun z => c19 (by rw [z]))]; rfl)
    · skip -- 19 not taken
      refine wp_iconst (pc' := 23) (0) dX6_measure_22 rfl (by decide) ?_
      refine wp_goto (tgt := 28) dX6_measure_23 rfl ?_
      exact key _ (by rw [if_pos ((nI_eq (by omega) (by omega)).mp c19)]; rfl)
theorem lp_X6_meas2 {R C g k : Nat} {mk hu Dd : Nat → Nat} {post : PO} (hn : 89 ≤ n) (H0 : Hp) (q0 : ShL H0 11 R C) (m0 : MK H0 18 mk) (u0 : HU H0 hu) (hg : g < R * C) (dd : IsD R C (fun y => hu (mk y)) g Dd) (h54 : ∀ x, x < R * C → Dd x ≤ 54)
    (K : ∀ h' L, (∀ a, a ≠ 83 → h' a = H0 a) → LF h' L → PP R C g Dd k (R * C) L → ∀ (b : Bool), (b = false → Stb R C (fun y => hu (mk y)) L) → ∀ a6 a7, WP l D cy B cX6_measure 8 RX6 wsX6_measure rmX6_measure none (QE0 D cy B n 0 0 (post)) EX0 n (rf0 π) h' lg 0 0 115 [some (.ref (B + 82)), some (.ref (B + 11)), some (.ref (B + 19)), some (.int (nI g)), some (.int (b2i b)), some (.int (nI k)), a6, a7] []) :
    ∀ d p : Nat, p + d = R * C → ∀ h' L, (∀ a, a ≠ 83 → h' a = H0 a) → LF h' L → PP R C g Dd k p L → ∀ (b : Bool), (b = false → ∀ x y, x < p → x < R * C → y < R * C → go 0 C x y = true → L x ≤ hu (mk y) + L y) → ∀ a7, WP l D cy B cX6_measure 8 RX6 wsX6_measure rmX6_measure none (QE0 D cy B n 0 0 (post)) EX0 n (rf0 π) h' lg 0 0 59 [some (.ref (B + 82)), some (.ref (B + 11)), some (.ref (B + 19)), some (.int (nI g)), some (.int (b2i b)), some (.int (nI k)), some (.int (nI p)), a7] [] := by
  have hl := q0.1.le
  intro d
  induction d with
  | zero =>
    intro p hp h' L e0 lf pp b hb a7
    have q := q0.of_eq (e0 11 (by decide))
    have e : p = R * C := by omega
    subst e
    refine wp_iload_6 (pc' := 61) dX6_measure_59 rfl ?_
    refine wp_aload_n_1 (pc' := 62) dX6_measure_61 rfl ?_
    refine wp_callVu (pc' := 65) (c_X1_places hn la11) gX6_measure_X1_places rfl rfl hy_X1_places ⟨Nat.le_of_ble_eq_true rfl, Nat.le_of_ble_eq_true rfl⟩ ⟨rfl, rfl⟩ (Nat.le_of_ble_eq_true rfl) ⟨Nat.le_of_ble_eq_true rfl, Nat.le_of_ble_eq_true rfl⟩ (by omega) (ce1 rfl) rfl rfl dX6_measure_62 rfl ?_
    rw [q.places]
    refine wp_icmp_ge (pc' := 68) (tgt := 115) dX6_measure_65 rfl rfl (fun c65 => ?_) (fun c65 => by exfalso; (simp (disch := omega) only [Int32.lt_iff_toInt_lt, Int32.le_iff_toInt_le, ← Int32.toInt_inj, nI_toInt, il_0, il_1, il_2, il_3, il_4, il_5, il_6, il_8, il_9, il_10, il_16, il_26, il_32, il_40, il_n4, il_n1, il_n2, il_11, il_48, il_57, il_59, il_44, il_126, il_200, il_9999, il_66666, il_10000, il_1000000, il_15, il_12, il_256, il_4096, il_53, il_52] at c65; omega))
    exact K h' L e0 lf pp b (fun z x y hx hy hgo => hb z x y hx hx hy hgo) _ _
  | succ d ih =>
    intro p hp h' L e0 lf pp b hb a7
    have q := q0.of_eq (e0 11 (by decide))
    have m := m0.of_eq (e0 19 (by decide))
    have u := u0.of_eq (e0 12 (by decide))
    have hpR : p < R * C := by omega
    obtain ⟨l1, l2⟩ := lf p (by omega)
    have v6 := lv_le R C (fun y => hu (mk y)) L p 16
    have h1 : ∀ y, y < R * C → 1 ≤ (fun y => hu (mk y)) y := fun y hy => (u (mk y) (by have := (m y (by omega)).2; omega)).2.1
    have hv : ∀ y, y < R * C → go 0 C p y = true → lv R C (fun y => hu (mk y)) L p 16 ≤ hu (mk y) + L y := fun y hy hgo => lv_nb 16 y (by omega) (nbr_iff.mpr ⟨hy, hgo⟩)
    have hv2 : Dd p ≤ lv R C (fun y => hu (mk y)) L p 16 := by
      rcases lv_ex (R := R) (C := C) (hm := fun y => hu (mk y)) (L := L) (x := p) 16 with e | ⟨y, _, y2, y3⟩
      · rw [e]; have := h54 p hpR; omega
      · rw [y3]
        obtain ⟨y4, y5⟩ := nbr_iff.mp y2
        have a1 : Dd p ≤ hu (mk y) + Dd y := dd.2 p y hpR y4 y5
        have a2 := pp.2.1 y y4
        omega
    have ps := PP.step h1 dd pp hpR hv hv2
    refine wp_iload_6 (pc' := 61) dX6_measure_59 rfl ?_
    refine wp_aload_n_1 (pc' := 62) dX6_measure_61 rfl ?_
    refine wp_callVu (pc' := 65) (c_X1_places hn la11) gX6_measure_X1_places rfl rfl hy_X1_places ⟨Nat.le_of_ble_eq_true rfl, Nat.le_of_ble_eq_true rfl⟩ ⟨rfl, rfl⟩ (Nat.le_of_ble_eq_true rfl) ⟨Nat.le_of_ble_eq_true rfl, Nat.le_of_ble_eq_true rfl⟩ (by omega) (ce1 rfl) rfl rfl dX6_measure_62 rfl ?_
    rw [q.places]
    refine wp_icmp_ge (pc' := 68) (tgt := 115) dX6_measure_65 rfl rfl (fun c65 => by exfalso; (simp (disch := omega) only [Int32.lt_iff_toInt_lt, Int32.le_iff_toInt_le, ← Int32.toInt_inj, nI_toInt, il_0, il_1, il_2, il_3, il_4, il_5, il_6, il_8, il_9, il_10, il_16, il_26, il_32, il_40, il_n4, il_n1, il_n2, il_11, il_48, il_57, il_59, il_44, il_126, il_200, il_9999, il_66666, il_10000, il_1000000, il_15, il_12, il_256, il_4096, il_53, il_52] at c65; omega)) (fun c65 => ?_)
    refine wp_iload_6 (pc' := 70) dX6_measure_68 rfl ?_
    refine wp_bipush (pc' := 72) (16) dX6_measure_70 rfl (by decide) ?_
    refine wp_icmp_ge (pc' := 75) (tgt := 115) dX6_measure_72 rfl rfl (fun c72 => by exfalso; (simp (disch := omega) only [Int32.lt_iff_toInt_lt, Int32.le_iff_toInt_le, ← Int32.toInt_inj, nI_toInt, il_0, il_1, il_2, il_3, il_4, il_5, il_6, il_8, il_9, il_10, il_16, il_26, il_32, il_40, il_n4, il_n1, il_n2, il_11, il_48, il_57, il_59, il_44, il_126, il_200, il_9999, il_66666, il_10000, il_1000000, il_15, il_12, il_256, il_4096, il_53, il_52] at c72; omega)) (fun c72 => ?_)
    refine wp_aload_n_0 (pc' := 76) dX6_measure_75 rfl ?_
    refine wp_aload_n_1 (pc' := 77) dX6_measure_76 rfl ?_
    refine wp_aload_n_2 (pc' := 78) dX6_measure_77 rfl ?_
    refine wp_iload_6 (pc' := 80) dX6_measure_78 rfl ?_
    refine wp_callVu (pc' := 83) (c_X6_leastOn hn q m u lf (by omega)) gX6_measure_X6_leastOn rfl rfl hy_X6_leastOn ⟨Nat.le_of_ble_eq_true rfl, Nat.le_of_ble_eq_true rfl⟩ ⟨rfl, rfl⟩ (Nat.le_of_ble_eq_true rfl) ⟨Nat.le_of_ble_eq_true rfl, Nat.le_of_ble_eq_true rfl⟩ (by omega) (ce6 rfl) rfl rfl dX6_measure_80 rfl ?_
    refine wp_istore_7 (pc' := 85) dX6_measure_83 (by decide) rfl rfl ?_
    refine wp_iload_7 (pc' := 87) dX6_measure_85 rfl ?_
    refine wp_aload_n_0 (pc' := 88) dX6_measure_87 rfl ?_
    refine wp_get_6_0 (pc' := 91) (by omega) rfl rfl me_X6_measure_0 ic_X6_measure_6 dX6_measure_88 rfl ?_
    refine wp_iload_6 (pc' := 93) dX6_measure_91 rfl ?_
    refine wp_iald (pc' := 94) (N := 16) (by omega) rfl rfl (by first | exact vp_in_nI (by omega) (by omega) | assumption | (unfold vp_in; decide)) dX6_measure_93 rfl ?_
    rw [nI_clamp (by omega), l1]
    refine wp_icmp_ge (pc' := 97) (tgt := 109) dX6_measure_94 rfl rfl (fun c94 => ?_) (fun c94 => ?_)
    · skip -- 94 taken
      have lt : ¬ lv R C (fun y => hu (mk y)) L p 16 < L p := by (simp (disch := omega) only [Int32.lt_iff_toInt_lt, Int32.le_iff_toInt_le, ← Int32.toInt_inj, nI_toInt, il_0, il_1, il_2, il_3, il_4, il_5, il_6, il_8, il_9, il_10, il_16, il_26, il_32, il_40, il_n4, il_n1, il_n2, il_11, il_48, il_57, il_59, il_44, il_126, il_200, il_9999, il_66666, il_10000, il_1000000, il_15, il_12, il_256, il_4096, il_53, il_52] at c94; omega)
      refine wp_iinc_6 (pc' := 112) (v := nI (p + 1)) dX6_measure_109 (by first | rfl | exact nI_1 _) (by decide) rfl rfl ?_
      refine wp_goto (tgt := 59) dX6_measure_112 rfl ?_
      rw [show min (lv R C (fun y => hu (mk y)) L p 16) (L p) = L p by omega, setF_self] at ps
      refine ih (p + 1) (by omega) h' L e0 lf ps b (fun z x y hx hxR hy hgo => ?_) _
      by_cases e : x = p
      · subst e; have := hv y hy hgo; omega
      · exact hb z x y (by omega) hxR hy hgo
    · skip -- 94 not taken
      have lt : lv R C (fun y => hu (mk y)) L p 16 < L p := by (simp (disch := omega) only [Int32.lt_iff_toInt_lt, Int32.le_iff_toInt_le, ← Int32.toInt_inj, nI_toInt, il_0, il_1, il_2, il_3, il_4, il_5, il_6, il_8, il_9, il_10, il_16, il_26, il_32, il_40, il_n4, il_n1, il_n2, il_11, il_48, il_57, il_59, il_44, il_126, il_200, il_9999, il_66666, il_10000, il_1000000, il_15, il_12, il_256, il_4096, il_53, il_52] at c94; omega)
      refine wp_aload_n_0 (pc' := 98) dX6_measure_97 rfl ?_
      refine wp_get_6_0 (pc' := 101) (by omega) rfl rfl me_X6_measure_0 ic_X6_measure_6 dX6_measure_98 rfl ?_
      refine wp_iload_6 (pc' := 103) dX6_measure_101 rfl ?_
      refine wp_iload_7 (pc' := 105) dX6_measure_103 rfl ?_
      refine wp_iast (pc' := 106) (N := 16) (by omega) rfl rfl (by first | exact vp_in_nI (by omega) (by omega) | assumption | (unfold vp_in; decide)) dX6_measure_105 rfl ?_
      refine wp_iconst (pc' := 107) (1) dX6_measure_106 rfl (by decide) ?_
      refine wp_istore_4 (pc' := 109) dX6_measure_107 (by decide) rfl rfl ?_
      refine wp_iinc_6 (pc' := 112) (v := nI (p + 1)) dX6_measure_109 (by first | rfl | exact nI_1 _) (by decide) rfl rfl ?_
      refine wp_goto (tgt := 59) dX6_measure_112 rfl ?_
      rw [nI_clamp (by omega)]
      rw [show min (lv R C (fun y => hu (mk y)) L p 16) (L p) = lv R C (fun y => hu (mk y)) L p 16 by omega] at ps
      exact ih (p + 1) (by omega) _ _ (fun a ha => by rw [hup_cell ha]; exact e0 a ha) (lf.set (by omega) v6) ps true (fun z => by cases z) _
theorem lp_X6_meas1 {R C g : Nat} {mk hu Dd : Nat → Nat} {post : PO} (hn : 89 ≤ n) (H0 : Hp) (q0 : ShL H0 11 R C) (m0 : MK H0 18 mk) (u0 : HU H0 hu) (hg : g < R * C) (dd : IsD R C (fun y => hu (mk y)) g Dd) (h54 : ∀ x, x < R * C → Dd x ≤ 54)
    (K : ∀ h' L, (∀ a, a ≠ 83 → h' a = H0 a) → LF h' L → (∀ x, x < R * C → L x = Dd x) → post none (rf0 π) h' lg) :
    ∀ d k : Nat, k + d = 16 → ∀ h' L, (∀ a, a ≠ 83 → h' a = H0 a) → LF h' L → PP R C g Dd k 0 L → ∀ (b : Bool), (b = false → Stb R C (fun y => hu (mk y)) L) → ∀ a6 a7, WP l D cy B cX6_measure 8 RX6 wsX6_measure rmX6_measure none (QE0 D cy B n 0 0 (post)) EX0 n (rf0 π) h' lg 0 0 41 [some (.ref (B + 82)), some (.ref (B + 11)), some (.ref (B + 19)), some (.int (nI g)), some (.int (b2i b)), some (.int (nI k)), a6, a7] [] := by
  have hl := q0.1.le
  intro d
  induction d with
  | zero =>
    intro k hk h' L e0 lf pp b hb a6 a7
    have : k = 16 := by omega
    subst this
    refine wp_iload_5 (pc' := 43) dX6_measure_41 rfl ?_
    refine wp_bipush (pc' := 45) (16) dX6_measure_43 rfl (by decide) ?_
    refine wp_icmp_ge (pc' := 48) (tgt := 121) dX6_measure_45 rfl rfl (fun c45 => ?_) (fun c45 => by exfalso; exact c45 (by decide))
    refine wp_return dX6_measure_121 rfl rfl (Nat.le_refl _) (Nat.le_refl _) ?_
    exact K h' L e0 lf (fun x hx => pp.done q0.1 (by omega) hx)
  | succ d ih =>
    intro k hk h' L e0 lf pp b hb a6 a7
    have h1 : ∀ y, y < R * C → 1 ≤ (fun y => hu (mk y)) y := fun y hy => (u0 (mk y) (by have := (m0 y (by omega)).2; omega)).2.1
    have K2 : ∀ h2 L2, (∀ a, a ≠ 83 → h2 a = H0 a) → LF h2 L2 → PP R C g Dd k (R * C) L2 → ∀ (b2 : Bool), (b2 = false → Stb R C (fun y => hu (mk y)) L2) → ∀ z6 z7, WP l D cy B cX6_measure 8 RX6 wsX6_measure rmX6_measure none (QE0 D cy B n 0 0 (post)) EX0 n (rf0 π) h2 lg 0 0 115 [some (.ref (B + 82)), some (.ref (B + 11)), some (.ref (B + 19)), some (.int (nI g)), some (.int (b2i b2)), some (.int (nI k)), z6, z7] [] := by
      intro h2 L2 f0 f1 f2 b2 f3 z6 z7
      refine wp_iinc_5 (pc' := 118) (v := nI (k + 1)) dX6_measure_115 (by first | rfl | exact nI_1 _) (by decide) rfl rfl ?_
      refine wp_goto (tgt := 41) dX6_measure_118 rfl ?_
      exact ih (k + 1) (by omega) h2 L2 f0 f1 (f2.next (Nat.le_refl _)) b2 f3 _ _
    refine wp_iload_5 (pc' := 43) dX6_measure_41 rfl ?_
    refine wp_bipush (pc' := 45) (16) dX6_measure_43 rfl (by decide) ?_
    refine wp_icmp_ge (pc' := 48) (tgt := 121) dX6_measure_45 rfl rfl (fun c45 => by exfalso; (simp (disch := omega) only [Int32.lt_iff_toInt_lt, Int32.le_iff_toInt_le, ← Int32.toInt_inj, nI_toInt, il_0, il_1, il_2, il_3, il_4, il_5, il_6, il_8, il_9, il_10, il_16, il_26, il_32, il_40, il_n4, il_n1, il_n2, il_11, il_48, il_57, il_59, il_44, il_126, il_200, il_9999, il_66666, il_10000, il_1000000, il_15, il_12, il_256, il_4096, il_53, il_52] at c45; omega)) (fun c45 => ?_)
    refine wp_iload_4 (pc' := 50) dX6_measure_48 rfl ?_
    refine wp_if_eq (pc' := 53) (tgt := 121) dX6_measure_50 rfl rfl (fun c50 => ?_) (fun c50 => ?_)
    · skip -- 50 taken
      refine wp_return dX6_measure_121 rfl rfl (Nat.le_refl _) (Nat.le_refl _) ?_
      exact K h' L e0 lf (fun x hx => Nat.le_antisymm (stab_le h1 pp.1 (hb (b2i_eq0.mp c50)) dd.1 _ x hx (Nat.lt_succ_self _)) (pp.2.1 x hx))
    · skip -- 50 not taken
      refine wp_iconst (pc' := 54) (0) dX6_measure_53 rfl (by decide) ?_
      refine wp_istore_4 (pc' := 56) dX6_measure_54 (by decide) rfl rfl ?_
      refine wp_iconst (pc' := 57) (0) dX6_measure_56 rfl (by decide) ?_
      refine wp_istore_6 (pc' := 59) dX6_measure_57 (by decide) rfl rfl ?_
      exact lp_X6_meas2 hn H0 q0 m0 u0 hg dd h54 K2 (R * C) 0 (by omega) h' L e0 lf pp false (fun _ x y hx => by omega) _
theorem c_X6_measure {R C g : Nat} {mk hu Dd : Nat → Nat} (hn : 89 ≤ n) (q : ShL h 11 R C) (m : MK h 18 mk) (u : HU h hu) (hg : g < R * C) (dd : IsD R C (fun y => hu (mk y)) g Dd) (h54 : ∀ x, x < R * C → Dd x ≤ 54) : Ctr l D cy B yX6_measure wsX6_measure rmX6_measure 0 0 n (rf0 π) h lg [.ref (B + 82), .ref (B + 11), .ref (B + 19), .int (nI g)] (qV (fun h' => (∀ a, a ≠ 83 → h' a = h a) ∧ ∃ L, LF h' L ∧ ∀ x, x < R * C → L x = Dd x) (rf0 π) lg) := by
  have hl := q.1.le
  have h1 : ∀ y, y < R * C → 1 ≤ (fun y => hu (mk y)) y := fun y hy => (u (mk y) (by have := (m y (by omega)).2; omega)).2.1
  refine Ctr.of (cc := cX6_measure) (nL := 8) (own := RX6) (rt := none) (ls := [some (.ref (B + 82)), some (.ref (B + 11)), some (.ref (B + 19)), some (.int (nI g)), none, none, none, none]) (by decide) rfl rfl (Nat.le_of_ble_eq_true rfl) rfl ?_
  refine wp_iconst (pc' := 1) (0) dX6_measure_0 rfl (by decide) ?_
  refine wp_istore_4 (pc' := 3) dX6_measure_1 (by decide) rfl rfl ?_
  refine lp_X6_meas0 hn (by omega) h (fun h' e0 e1 a4 => ?_) 16 0 (by omega) h (fun _ _ => rfl) (fun j hj => by omega)
  refine wp_iconst (pc' := 36) (1) dX6_measure_35 rfl (by decide) ?_
  refine wp_istore_4 (pc' := 38) dX6_measure_36 (by decide) rfl rfl ?_
  refine wp_iconst (pc' := 39) (0) dX6_measure_38 rfl (by decide) ?_
  refine wp_istore_5 (pc' := 41) dX6_measure_39 (by decide) rfl rfl ?_
  refine lp_X6_meas1 hn h q m u hg dd h54 (fun h2 L f0 f1 f2 => qV_of ⟨f0, L, f1, f2⟩) 16 0 (by omega) h' (fun i => if i = g then 0 else 1000000) e0 (fun i hi => ⟨e1 i hi, ?_⟩) (PP.start h1 dd hg (if_pos rfl) (fun x hx => ?_)) true (fun z => by cases z) _ _
  · show (if i = g then 0 else 1000000) ≤ 1000000
    split <;> omega
  · show Dd x ≤ (if x = g then 0 else 1000000)
    by_cases e : x = g
    · rw [if_pos e, e, dd.1.1]; exact Nat.le_refl _
    · rw [if_neg e]; have := h54 x hx; omega
end VT2

