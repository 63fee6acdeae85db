abbrev rmX8_countOnward : Room := { frames := 2, cells := 0, slots := 0, locals := 47 }
theorem hy_X8_countOnward : yX8_countOnward.cls = RX8 ∧ yX8_countOnward.cls ≠ "java/lang/invoke/MethodHandle" ∧ yX8_countOnward.cls ≠ "java/lang/invoke/VarHandle" ∧ (parseMethodDescriptor yX8_countOnward.desc).map (fun d => d.parameters.length) = some 0 := by decide +kernel
theorem hz_X8_countOnward : yX8_countOnward.cls ≠ "java/lang/invoke/MethodHandle" ∧ yX8_countOnward.cls ≠ "java/lang/invoke/VarHandle" ∧ (parseMethodDescriptor yX8_countOnward.desc).map (fun d => d.parameters.length) = some 0 := by decide +kernel
abbrev rmX8_take : Room := { frames := 1, cells := 0, slots := 0, locals := 21 }
theorem hy_X8_take : yX8_take.cls = RX8 ∧ yX8_take.cls ≠ "java/lang/invoke/MethodHandle" ∧ yX8_take.cls ≠ "java/lang/invoke/VarHandle" ∧ (parseMethodDescriptor yX8_take.desc).map (fun d => d.parameters.length) = some 1 := by decide +kernel
theorem hz_X8_take : yX8_take.cls ≠ "java/lang/invoke/MethodHandle" ∧ yX8_take.cls ≠ "java/lang/invoke/VarHandle" ∧ (parseMethodDescriptor yX8_take.desc).map (fun d => d.parameters.length) = some 1 := by decide +kernel
theorem me_X8_take_0 : Cond.fieldLink RX8 161 "DrawnByLostModel" "many" "I" ∈ wsX8_take := by decide +kernel
theorem me_X8_take_1 : Cond.fieldLink RX8 34 "DrawnByLostModel" "marks" "[I" ∈ wsX8_take := by decide +kernel
theorem me_X8_take_2 : Cond.fieldLink RX8 19 "DrawnByLostModel" "now" "[I" ∈ wsX8_take := by decide +kernel
theorem me_X8_take_3 : Cond.fieldLink RX8 158 "DrawnByLostModel" "kind" "I" ∈ wsX8_take := by decide +kernel
theorem me_X8_countOnward_0 : Cond.fieldLink RX8 161 "DrawnByLostModel" "many" "I" ∈ wsX8_countOnward := by decide +kernel
theorem me_X8_countOnward_1 : Cond.fieldLink RX8 37 "DrawnByLostModel" "onward" "[I" ∈ wsX8_countOnward := by decide +kernel
theorem me_X8_countOnward_2 : Cond.fieldLink RX8 19 "DrawnByLostModel" "now" "[I" ∈ wsX8_countOnward := by decide +kernel
theorem me_X8_countOnward_3 : Cond.fieldLink RX8 34 "DrawnByLostModel" "marks" "[I" ∈ wsX8_countOnward := by decide +kernel
theorem ic_X8_take_8 : ∀ w ∈ wsX80, w ∈ wsX8_take := by decide +kernel
theorem ic_X8_countOnward_8 : ∀ w ∈ wsX80, w ∈ wsX8_countOnward := by decide +kernel
-- the reference: a walk taken; how many rows go on from a place, how many come to it
section VM2
variable {l : Launch} {D : va_G} {cy : CY} {B n : Nat} {h : Hp} {lg : Lg} {π : Nat → Nat}
def TK (h : Hp) (κ s : Nat) (t : Nat → Nat) : Prop := h 89 13 = nI κ ∧ h 89 14 = nI s ∧ ∀ k, k < s → h 98 k = nI (t k)
theorem TK.of {h h' : Hp} {κ s : Nat} {t : Nat → Nat} (q : TK h κ s t) (e1 : h' 89 = h 89) (e2 : h' 98 = h 98) : TK h' κ s t := by
  unfold TK; rw [e1, e2]; exact q
theorem lp_X8_take {w : Nat} {ρ : Nat → Nat} {post : PO} (hn : 105 ≤ n) (H0 : Hp) (nr0 : NR H0 93 ρ) (w5 : w < 5) (hs5 : sw ρ w ≤ 5) (hk3 : kw ρ w ≤ 3)
    (K : ∀ h', MF h' H0 → TK h' (kw ρ w) (sw ρ w) (tm ρ w) → post none (rf0 π) h' lg) :
    ∀ d i : Nat, i + d = sw ρ w → ∀ h', MF h' H0 → h' 89 13 = nI (kw ρ w) → h' 89 14 = nI (sw ρ w) → (∀ j, j < i → h' 98 j = nI (tm ρ w j)) → WP l D cy B cX8_take 3 RX8 wsX8_take rmX8_take none (QE0 D cy B n 0 0 (post)) EX0 n (rf0 π) h' lg 0 0 20 [some (.ref (B + 89)), some (.int (nI w)), some (.int (nI i))] [] := by
  intro d
  induction d with
  | zero =>
    intro i hi h' f e1 e2 e3
    have : i = sw ρ w := by omega
    subst this
    refine wp_iload_n_2 (pc' := 21) dX8_take_20 rfl ?_
    refine wp_aload_n_0 (pc' := 22) dX8_take_21 rfl ?_
    refine wp_get_8_14 (pc' := 25) (by omega) rfl me_X8_take_0 ic_X8_take_8 dX8_take_22 rfl ?_
    rw [e2]
    refine wp_icmp_ge (pc' := 28) (tgt := 75) dX8_take_25 rfl rfl (fun c25 => ?_) (fun c25 => by exfalso; exact c25 (nI_le (Nat.le_refl _) (by omega)))
    refine wp_return dX8_take_75 rfl rfl (Nat.le_refl _) (Nat.le_refl _) ?_
    exact K h' f ⟨e1, e2, e3⟩
  | succ d ih =>
    intro i hi h' f e1 e2 e3
    have nr := f.nr nr0
    have go : ∀ v, v = nI (tm ρ w i) → WP l D cy B cX8_take 3 RX8 wsX8_take rmX8_take none (QE0 D cy B n 0 0 (post)) EX0 n (rf0 π) (hup h' 98 i v) lg 0 0 20 [some (.ref (B + 89)), some (.int (nI w)), some (.int (nI (i + 1)))] [] := by
      intro v hv
      refine ih (i + 1) (by omega) _ (MF.tr (MF.hi (fun a ha => hup_cell (by omega))) f) (by rw [hup_cell (by decide)]; exact e1) (by rw [hup_cell (by decide)]; exact e2) (fun j hj => ?_)
      by_cases e : j = i
      · subst e; rw [hup_at]; exact hv
      · rw [hup_off e]; exact e3 j (by omega)
    refine wp_iload_n_2 (pc' := 21) dX8_take_20 rfl ?_
    refine wp_aload_n_0 (pc' := 22) dX8_take_21 rfl ?_
    refine wp_get_8_14 (pc' := 25) (by omega) rfl me_X8_take_0 ic_X8_take_8 dX8_take_22 rfl ?_
    rw [e2]
    refine wp_icmp_ge (pc' := 28) (tgt := 75) dX8_take_25 rfl rfl (fun c25 => by exfalso; exact nI_ge (by omega) (by omega) c25) (fun c25 => ?_)
    refine wp_aload_n_0 (pc' := 29) dX8_take_28 rfl ?_
    refine wp_get_8_15 (pc' := 32) (by omega) rfl rfl me_X8_take_1 ic_X8_take_8 dX8_take_29 rfl ?_
    refine wp_iload_n_2 (pc' := 33) dX8_take_32 rfl ?_
    refine wp_aload_n_0 (pc' := 34) dX8_take_33 rfl ?_
    refine wp_get_8_4 (pc' := 37) (by omega) rfl rfl me_X8_take_2 ic_X8_take_8 dX8_take_34 rfl ?_
    refine wp_bipush (pc' := 39) (17) dX8_take_37 rfl (by decide) ?_
    refine wp_bipush (pc' := 41) (7) dX8_take_39 rfl (by decide) ?_
    refine wp_iload_n_1 (pc' := 42) dX8_take_41 rfl ?_
    refine wp_imul (pc' := 43) dX8_take_42 rfl ?_
    refine wp_iadd (pc' := 44) dX8_take_43 rfl ?_
    rw [nI_7w]
    refine wp_iconst (pc' := 45) (2) dX8_take_44 rfl (by decide) ?_
    refine wp_iadd (pc' := 46) dX8_take_45 rfl ?_
    rw [show (2 : Int32) = nI 2 from rfl, nI_add]
    refine wp_aload_n_0 (pc' := 47) dX8_take_46 rfl ?_
    refine wp_get_8_13 (pc' := 50) (by omega) rfl me_X8_take_3 ic_X8_take_8 dX8_take_47 rfl ?_
    rw [e1]
    refine wp_iconst (pc' := 51) (1) dX8_take_50 rfl (by decide) ?_
    refine wp_icmp_ne (pc' := 54) (tgt := 65) dX8_take_51 rfl rfl (fun c51 => ?_) (fun c51 => ?_)
    · skip -- 51 taken
      have k1 : kw ρ w ≠ 1 := fun z => c51 (by rw [z]; rfl)
      refine wp_iload_n_2 (pc' := 66) dX8_take_65 rfl ?_
      refine wp_iadd (pc' := 67) dX8_take_66 rfl ?_
      rw [nI_add]
      refine wp_iald (pc' := 68) (N := 52) (by omega) rfl rfl (by first | exact vp_in_nI (by omega) (by omega) | assumption | (unfold vp_in; decide)) dX8_take_67 rfl ?_
      refine wp_iast (pc' := 69) (N := 5) (by omega) rfl rfl (by first | exact vp_in_nI (by omega) (by omega) | assumption | (unfold vp_in; decide)) dX8_take_68 rfl ?_
      refine wp_iinc_2 (pc' := 72) (v := nI (i + 1)) dX8_take_69 (by first | rfl | exact nI_1 _) (by decide) rfl rfl ?_
      refine wp_goto (tgt := 20) dX8_take_72 rfl ?_
      rw [nI_clamp (by omega), nI_clamp (by omega)]
      refine go _ ?_
      rw [nr _ (by omega)]
      unfold tm
      rw [if_neg k1]
      congr 2; omega
    · skip -- 51 not taken
      have k1 : kw ρ w = 1 := (nI_eq (by omega) (by omega)).mp (show nI (kw ρ w) = nI 1 from c51)
      refine wp_aload_n_0 (pc' := 55) dX8_take_54 rfl ?_
      refine wp_get_8_14 (pc' := 58) (by omega) rfl me_X8_take_0 ic_X8_take_8 dX8_take_55 rfl ?_
      rw [e2]
      refine wp_iconst (pc' := 59) (1) dX8_take_58 rfl (by decide) ?_
      refine wp_isub (pc' := 60) dX8_take_59 rfl ?_
      rw [nI_pred' (by omega)]
      refine wp_iload_n_2 (pc' := 61) dX8_take_60 rfl ?_
      refine wp_isub (pc' := 62) dX8_take_61 rfl ?_
      rw [nI_sub (by omega)]
      refine wp_goto (tgt := 66) dX8_take_62 rfl ?_
      refine wp_iadd (pc' := 67) dX8_take_66 rfl ?_
      rw [nI_add]
      refine wp_iald (pc' := 68) (N := 52) (by omega) rfl rfl (by first | exact vp_in_nI (by omega) (by omega) | assumption | (unfold vp_in; decide)) dX8_take_67 rfl ?_
      refine wp_iast (pc' := 69) (N := 5) (by omega) rfl rfl (by first | exact vp_in_nI (by omega) (by omega) | assumption | (unfold vp_in; decide)) dX8_take_68 rfl ?_
      refine wp_iinc_2 (pc' := 72) (v := nI (i + 1)) dX8_take_69 (by first | rfl | exact nI_1 _) (by decide) rfl rfl ?_
      refine wp_goto (tgt := 20) dX8_take_72 rfl ?_
      rw [nI_clamp (by omega), nI_clamp (by omega)]
      refine go _ ?_
      rw [nr _ (by omega)]
      unfold tm
      rw [if_pos k1]
      congr 2; omega
theorem c_X8_take {w : Nat} {ρ : Nat → Nat} (hn : 105 ≤ n) (nr : NR h 93 ρ) (ok : RowOK ρ) (hw : w < ρ 16) : Ctr l D cy B yX8_take wsX8_take rmX8_take 0 0 n (rf0 π) h lg [.ref (B + 89), .int (nI w)] (qV (fun h' => MF h' h ∧ TK h' (kw ρ w) (sw ρ w) (tm ρ w)) (rf0 π) lg) := by
  obtain ⟨w5, hk3, hs2, hs5⟩ := ok.w hw
  refine Ctr.of (cc := cX8_take) (nL := 3) (own := RX8) (rt := none) (ls := [some (.ref (B + 89)), some (.int (nI w)), none]) (by decide) rfl rfl (Nat.le_of_ble_eq_true rfl) rfl ?_
  refine wp_aload_n_0 (pc' := 1) dX8_take_0 rfl ?_
  refine wp_aload_n_0 (pc' := 2) dX8_take_1 rfl ?_
  refine wp_iload_n_1 (pc' := 3) dX8_take_2 rfl ?_
  refine wp_callVu (pc' := 6) (c_X8_kindOf hn nr w5) gX8_take_X8_kindOf rfl rfl hy_X8_kindOf ⟨Nat.le_of_ble_eq_true rfl, Nat.le_of_ble_eq_true rfl⟩ ⟨rfl, rfl⟩ (Nat.le_of_ble_eq_true rfl) ⟨Nat.le_of_ble_eq_true rfl, Nat.le_of_ble_eq_true rfl⟩ (by omega) (ce8 rfl) rfl rfl dX8_take_3 rfl ?_
  refine wp_put_8_13 (pc' := 9) (by omega) rfl me_X8_take_3 ic_X8_take_8 dX8_take_6 rfl ?_
  refine wp_aload_n_0 (pc' := 10) dX8_take_9 rfl ?_
  refine wp_aload_n_0 (pc' := 11) dX8_take_10 rfl ?_
  refine wp_iload_n_1 (pc' := 12) dX8_take_11 rfl ?_
  refine wp_callVu (pc' := 15) (c_X8_marksOf hn (ρ := ρ) (fun k hk => by rw [hup_cell (by decide)]; exact nr k hk) w5) gX8_take_X8_marksOf rfl rfl hy_X8_marksOf ⟨Nat.le_of_ble_eq_true rfl, Nat.le_of_ble_eq_true rfl⟩ ⟨rfl, rfl⟩ (Nat.le_of_ble_eq_true rfl) ⟨Nat.le_of_ble_eq_true rfl, Nat.le_of_ble_eq_true rfl⟩ (by omega) (ce8 rfl) rfl rfl dX8_take_12 rfl ?_
  refine wp_put_8_14 (pc' := 18) (by omega) rfl me_X8_take_0 ic_X8_take_8 dX8_take_15 rfl ?_
  refine wp_iconst (pc' := 19) (0) dX8_take_18 rfl (by decide) ?_
  refine wp_istore_n_2 (pc' := 20) dX8_take_19 (by decide) rfl rfl ?_
  refine lp_X8_take hn h nr w5 hs5 hk3 (fun h' f t => qV_of ⟨f, t⟩) (sw ρ w) 0 (by omega) _ ⟨fun a ha => by rw [hup_cell (by omega), hup_cell (by omega)], by rw [hup_off (by decide), hup_off (by decide)], by rw [hup_off (by decide), hup_off (by decide)], by rw [hup_off (by decide), hup_off (by decide)]⟩ (by rw [hup_off (by decide), hup_at]) (by rw [hup_at]) (fun j hj => by omega)
theorem cb_top {κ R C : Nat} {ρ t : Nat → Nat} {s k x : Nat} (h : k + 1 = s) : one (atB R C ρ (t k) x) * 1 = cb κ R C ρ t s (s - 1 - k) x := by
  rw [show s - 1 - k = 0 by omega, cb_0, show s - 1 = k by omega, Nat.mul_one]
theorem cb_rec {κ R C : Nat} {ρ t : Nat → Nat} {s k x : Nat} (h : k + 1 < s) : one (atB R C ρ (t k) x) * sumN (R * C) (fun y => one (go κ C x y) * cb κ R C ρ t s (s - 1 - (k + 1)) y) = cb κ R C ρ t s (s - 1 - k) x := by
  rw [show s - 1 - k = (s - 1 - (k + 1)) + 1 by omega, cb_s, show s - 1 - (s - 1 - (k + 1) + 1) = k by omega]
theorem ix16 (a b : Nat) : (16 : Int32) * nI a + nI b = nI (16 * a + b) := by
  rw [show (16 : Int32) = nI 16 from rfl, nI_mul, nI_add]
theorem lpi_X8_on {R C κ s k x : Nat} {g : Nat → Nat} {post : PO} (hn : 105 ≤ n) (q : ShM h R C) (hk : h 89 13 = nI κ) (hm : h 89 14 = nI s) (hκ : κ ≤ 3) (hs5 : s ≤ 5) (hks : k + 1 < s) (hx : x < R * C) (hg : ∀ y, y < R * C → h 99 (16 * (k + 1) + y) = nI (g y))
    (K : ∀ a4, WP l D cy B cX8_countOnward 5 RX8 wsX8_countOnward rmX8_countOnward none (QE0 D cy B n 0 0 (post)) EX0 n (rf0 π) h lg 0 0 96 [some (.ref (B + 89)), some (.int (nI k)), some (.int (nI x)), some (.int (nI (sumN (R * C) (fun y => one (go κ C x y) * g y)))), a4] []) :
    ∀ d y : Nat, y + d = R * C → WP l D cy B cX8_countOnward 5 RX8 wsX8_countOnward rmX8_countOnward none (QE0 D cy B n 0 0 (post)) EX0 n (rf0 π) h lg 0 0 40 [some (.ref (B + 89)), some (.int (nI k)), some (.int (nI x)), some (.int (nI (sumN y (fun y => one (go κ C x y) * g y)))), some (.int (nI y))] [] := by
  have hl := q.1.le
  intro d
  induction d with
  | zero =>
    intro y hy
    have : y = R * C := by omega
    subst this
    refine wp_iload_4 (pc' := 42) dX8_countOnward_40 rfl ?_
    refine wp_aload_n_0 (pc' := 43) dX8_countOnward_42 rfl ?_
    refine wp_callVu (pc' := 46) (c_X8_places hn q) gX8_countOnward_X8_places rfl rfl hy_X8_places ⟨Nat.le_of_ble_eq_true rfl, Nat.le_of_ble_eq_true rfl⟩ ⟨rfl, rfl⟩ (Nat.le_of_ble_eq_true rfl) ⟨Nat.le_of_ble_eq_true rfl, Nat.le_of_ble_eq_true rfl⟩ (by omega) (ce8 rfl) rfl rfl dX8_countOnward_43 rfl ?_
    refine wp_icmp_ge (pc' := 49) (tgt := 96) dX8_countOnward_46 rfl rfl (fun c46 => ?_) (fun c46 => by exfalso; exact c46 (nI_le (Nat.le_refl _) (by omega)))
    exact K _
  | succ d ih =>
    intro y hy
    refine wp_iload_4 (pc' := 42) dX8_countOnward_40 rfl ?_
    refine wp_aload_n_0 (pc' := 43) dX8_countOnward_42 rfl ?_
    refine wp_callVu (pc' := 46) (c_X8_places hn q) gX8_countOnward_X8_places rfl rfl hy_X8_places ⟨Nat.le_of_ble_eq_true rfl, Nat.le_of_ble_eq_true rfl⟩ ⟨rfl, rfl⟩ (Nat.le_of_ble_eq_true rfl) ⟨Nat.le_of_ble_eq_true rfl, Nat.le_of_ble_eq_true rfl⟩ (by omega) (ce8 rfl) rfl rfl dX8_countOnward_43 rfl ?_
    refine wp_icmp_ge (pc' := 49) (tgt := 96) dX8_countOnward_46 rfl rfl (fun c46 => by exfalso; exact nI_ge (by omega) (by omega) c46) (fun c46 => ?_)
    refine wp_iload_n_1 (pc' := 50) dX8_countOnward_49 rfl ?_
    refine wp_aload_n_0 (pc' := 51) dX8_countOnward_50 rfl ?_
    refine wp_get_8_14 (pc' := 54) (by omega) rfl me_X8_countOnward_0 ic_X8_countOnward_8 dX8_countOnward_51 rfl ?_
    rw [hm]
    refine wp_iconst (pc' := 55) (1) dX8_countOnward_54 rfl (by decide) ?_
    refine wp_isub (pc' := 56) dX8_countOnward_55 rfl ?_
    rw [nI_pred' (by omega)]
    refine wp_icmp_ge (pc' := 59) (tgt := 96) dX8_countOnward_56 rfl rfl (fun c56 => by exfalso; exact nI_ge (by omega) (by omega) c56) (fun c56 => ?_)
    refine wp_iload_n_3 (pc' := 60) dX8_countOnward_59 rfl ?_
    refine wp_aload_n_0 (pc' := 61) dX8_countOnward_60 rfl ?_
    refine wp_iload_n_2 (pc' := 62) dX8_countOnward_61 rfl ?_
    refine wp_iload_4 (pc' := 64) dX8_countOnward_62 rfl ?_
    refine wp_callVu (pc' := 67) (c_X8_goes hn q hk hκ (by omega) (by omega)) gX8_countOnward_X8_goes rfl rfl hy_X8_goes ⟨Nat.le_of_ble_eq_true rfl, Nat.le_of_ble_eq_true rfl⟩ ⟨rfl, rfl⟩ (Nat.le_of_ble_eq_true rfl) ⟨Nat.le_of_ble_eq_true rfl, Nat.le_of_ble_eq_true rfl⟩ (by omega) (ce8 rfl) rfl rfl dX8_countOnward_64 rfl ?_
    refine wp_if_eq (pc' := 70) (tgt := 87) dX8_countOnward_67 rfl rfl (fun c67 => ?_) (fun c67 => ?_)
    · skip -- 67 taken
      refine wp_iconst (pc' := 88) (0) dX8_countOnward_87 rfl (by decide) ?_
      refine wp_iadd (pc' := 89) dX8_countOnward_88 rfl ?_
      first | rw [nI_add] | rw [show (0 : Int32) = nI 0 from rfl, nI_add]
      refine wp_istore_n_3 (pc' := 90) dX8_countOnward_89 (by decide) rfl rfl ?_
      refine wp_iinc_4 (pc' := 93) (v := nI (y + 1)) dX8_countOnward_90 (by first | rfl | exact nI_1 _) (by decide) rfl rfl ?_
      refine wp_goto (tgt := 40) dX8_countOnward_93 rfl ?_
      have z := ih (y + 1) (by omega)
      rw [show sumN (y + 1) (fun y => one (go κ C x y) * g y) = sumN y (fun y => one (go κ C x y) * g y) + 0 by simp only [sumN]; rw [b2i_eq0.mp c67]; simp [one]] at z
      exact z
    · skip -- 67 not taken
      refine wp_aload_n_0 (pc' := 71) dX8_countOnward_70 rfl ?_
      refine wp_get_8_16 (pc' := 74) (by omega) rfl rfl me_X8_countOnward_1 ic_X8_countOnward_8 dX8_countOnward_71 rfl ?_
      refine wp_bipush (pc' := 76) (16) dX8_countOnward_74 rfl (by decide) ?_
      refine wp_iload_n_1 (pc' := 77) dX8_countOnward_76 rfl ?_
      refine wp_iconst (pc' := 78) (1) dX8_countOnward_77 rfl (by decide) ?_
      refine wp_iadd (pc' := 79) dX8_countOnward_78 rfl ?_
      rw [nI_1]
      refine wp_imul (pc' := 80) dX8_countOnward_79 rfl ?_
      refine wp_iload_4 (pc' := 82) dX8_countOnward_80 rfl ?_
      refine wp_iadd (pc' := 83) dX8_countOnward_82 rfl ?_
      rw [ix16]
      refine wp_iald (pc' := 84) (N := 80) (by omega) rfl rfl (by first | exact vp_in_nI (by omega) (by omega) | assumption | (unfold vp_in; decide)) dX8_countOnward_83 rfl ?_
      rw [nI_clamp (by omega), hg y (by omega)]
      refine wp_goto (tgt := 88) dX8_countOnward_84 rfl ?_
      refine wp_iadd (pc' := 89) dX8_countOnward_88 rfl ?_
      first | rw [nI_add] | rw [show (0 : Int32) = nI 0 from rfl, nI_add]
      refine wp_istore_n_3 (pc' := 90) dX8_countOnward_89 (by decide) rfl rfl ?_
      refine wp_iinc_4 (pc' := 93) (v := nI (y + 1)) dX8_countOnward_90 (by first | rfl | exact nI_1 _) (by decide) rfl rfl ?_
      refine wp_goto (tgt := 40) dX8_countOnward_93 rfl ?_
      have z := ih (y + 1) (by omega)
      rw [show sumN (y + 1) (fun y => one (go κ C x y) * g y) = sumN y (fun y => one (go κ C x y) * g y) + g y by simp only [sumN]; rw [b2i_ne0.mp c67]; simp [one]] at z
      exact z
def OnW (H0 h' : Hp) (κ R C : Nat) (ρ t : Nat → Nat) (s k x : Nat) : Prop := (∀ a, a ≠ 99 → h' a = H0 a) ∧ ∀ k' x', k' < s → x' < R * C → (k < k' ∨ (k' = k ∧ x' < x)) → h' 99 (16 * k' + x') = nI (cb κ R C ρ t s (s - 1 - k') x')
theorem lpm_X8_on {R C κ s k : Nat} {ρ t : Nat → Nat} {post : PO} (hn : 105 ≤ n) (H0 : Hp) (q0 : ShM H0 R C) (tk : TK H0 κ s t) (nr : NR H0 93 ρ) (hκ : κ ≤ 3) (hs5 : s ≤ 5) (hk : k < s) (h5 : ∀ i, i < 16 → ρ i ≤ 5) (ht5 : ∀ i, i < s → t i ≤ 5)
    (K : ∀ h' a3 a4, OnW H0 h' κ R C ρ t s k (R * C) → WP l D cy B cX8_countOnward 5 RX8 wsX8_countOnward rmX8_countOnward none (QE0 D cy B n 0 0 (post)) EX0 n (rf0 π) h' lg 0 0 133 [some (.ref (B + 89)), some (.int (nI k)), some (.int (nI (R * C))), a3, a4] []) :
    ∀ d x : Nat, x + d = R * C → ∀ h' a3 a4, OnW H0 h' κ R C ρ t s k x → WP l D cy B cX8_countOnward 5 RX8 wsX8_countOnward rmX8_countOnward none (QE0 D cy B n 0 0 (post)) EX0 n (rf0 π) h' lg 0 0 13 [some (.ref (B + 89)), some (.int (nI k)), some (.int (nI x)), a3, a4] [] := by
  have hl := q0.1.le
  intro d
  induction d with
  | zero =>
    intro x hx h' a3 a4 o
    have : x = R * C := by omega
    subst this
    have q := q0.of (h' := h') (by rw [o.1 91 (by decide)]) (by rw [o.1 91 (by decide)])
    refine wp_iload_n_2 (pc' := 14) dX8_countOnward_13 rfl ?_
    refine wp_aload_n_0 (pc' := 15) dX8_countOnward_14 rfl ?_
    refine wp_callVu (pc' := 18) (c_X8_places hn q) gX8_countOnward_X8_places rfl rfl hy_X8_places ⟨Nat.le_of_ble_eq_true rfl, Nat.le_of_ble_eq_true rfl⟩ ⟨rfl, rfl⟩ (Nat.le_of_ble_eq_true rfl) ⟨Nat.le_of_ble_eq_true rfl, Nat.le_of_ble_eq_true rfl⟩ (by omega) (ce8 rfl) rfl rfl dX8_countOnward_15 rfl ?_
    refine wp_icmp_ge (pc' := 21) (tgt := 133) dX8_countOnward_18 rfl rfl (fun c18 => ?_) (fun c18 => by exfalso; exact c18 (nI_le (Nat.le_refl _) (by omega)))
    exact K h' _ _ o
  | succ d ih =>
    intro x hx h' a3 a4 o
    have q := q0.of (h' := h') (by rw [o.1 91 (by decide)]) (by rw [o.1 91 (by decide)])
    have tk' := tk.of (o.1 89 (by decide)) (o.1 98 (by decide))
    have x5 := h5 x (by omega)
    have k5 := ht5 k hk
    have key : ∀ m a4, one (atB R C ρ (t k) x) * m = cb κ R C ρ t s (s - 1 - k) x → WP l D cy B cX8_countOnward 5 RX8 wsX8_countOnward rmX8_countOnward none (QE0 D cy B n 0 0 (post)) EX0 n (rf0 π) h' lg 0 0 96 [some (.ref (B + 89)), some (.int (nI k)), some (.int (nI x)), some (.int (nI m)), a4] [] := by
      intro m a4 hm
      have fin : ∀ v, v = nI (cb κ R C ρ t s (s - 1 - k) x) → WP l D cy B cX8_countOnward 5 RX8 wsX8_countOnward rmX8_countOnward none (QE0 D cy B n 0 0 (post)) EX0 n (rf0 π) (hup h' 99 (16 * k + x) v) lg 0 0 13 [some (.ref (B + 89)), some (.int (nI k)), some (.int (nI (x + 1))), some (.int (nI m)), a4] [] := by
        intro v hv
        subst hv
        refine ih (x + 1) (by omega) _ _ _ ⟨fun a ha => by rw [hup_cell ha]; exact o.1 a ha, fun k' x' z1 z2 z3 => ?_⟩
        by_cases e : 16 * k' + x' = 16 * k + x
        · have e1 : k' = k := by omega
          have e2 : x' = x := by omega
          subst e1; subst e2
          rw [hup_at]
        · rw [hup_off e]; exact o.2 k' x' z1 z2 (by omega)
      refine wp_aload_n_0 (pc' := 97) dX8_countOnward_96 rfl ?_
      refine wp_get_8_16 (pc' := 100) (by omega) rfl rfl me_X8_countOnward_1 ic_X8_countOnward_8 dX8_countOnward_97 rfl ?_
      refine wp_bipush (pc' := 102) (16) dX8_countOnward_100 rfl (by decide) ?_
      refine wp_iload_n_1 (pc' := 103) dX8_countOnward_102 rfl ?_
      refine wp_imul (pc' := 104) dX8_countOnward_103 rfl ?_
      refine wp_iload_n_2 (pc' := 105) dX8_countOnward_104 rfl ?_
      refine wp_iadd (pc' := 106) dX8_countOnward_105 rfl ?_
      rw [ix16]
      refine wp_aload_n_0 (pc' := 107) dX8_countOnward_106 rfl ?_
      refine wp_get_8_4 (pc' := 110) (by omega) rfl rfl me_X8_countOnward_2 ic_X8_countOnward_8 dX8_countOnward_107 rfl ?_
      refine wp_iload_n_2 (pc' := 111) dX8_countOnward_110 rfl ?_
      refine wp_iald (pc' := 112) (N := 52) (by omega) rfl rfl (by first | exact vp_in_nI (by omega) (by omega) | assumption | (unfold vp_in; decide)) dX8_countOnward_111 rfl ?_
      rw [nI_clamp (by omega), o.1 93 (by decide), nr x (by omega)]
      refine wp_aload_n_0 (pc' := 113) dX8_countOnward_112 rfl ?_
      refine wp_get_8_15 (pc' := 116) (by omega) rfl rfl me_X8_countOnward_3 ic_X8_countOnward_8 dX8_countOnward_113 rfl ?_
      refine wp_iload_n_1 (pc' := 117) dX8_countOnward_116 rfl ?_
      refine wp_iald (pc' := 118) (N := 5) (by omega) rfl rfl (by first | exact vp_in_nI (by omega) (by omega) | assumption | (unfold vp_in; decide)) dX8_countOnward_117 rfl ?_
      rw [nI_clamp (by omega), tk'.2.2 k hk]
      refine wp_icmp_ne (pc' := 121) (tgt := 125) dX8_countOnward_118 rfl rfl (fun c118 => ?_) (fun c118 => ?_)
      · skip -- 118 taken
        refine wp_iconst (pc' := 126) (0) dX8_countOnward_125 rfl (by decide) ?_
        refine wp_iast (pc' := 127) (N := 80) (by omega) rfl rfl (by first | exact vp_in_nI (by omega) (by omega) | assumption | (unfold vp_in; decide)) dX8_countOnward_126 rfl ?_
        refine wp_iinc_2 (pc' := 130) (v := nI (x + 1)) dX8_countOnward_127 (by first | rfl | exact nI_1 _) (by decide) rfl rfl ?_
        refine wp_goto (tgt := 13) dX8_countOnward_130 rfl ?_
        rw [nI_clamp (by omega)]
        refine fin _ ?_
        rw [← hm, show atB R C ρ (t k) x = false by unfold atB; rw [decide_eq_false (p := ρ x = t k) (fun z => c118 (by rw [z]))]; simp]
        simp [one, nI_lit0]
      · skip -- 118 not taken
        refine wp_iload_n_3 (pc' := 122) dX8_countOnward_121 rfl ?_
        refine wp_goto (tgt := 126) dX8_countOnward_122 rfl ?_
        refine wp_iast (pc' := 127) (N := 80) (by omega) rfl rfl (by first | exact vp_in_nI (by omega) (by omega) | assumption | (unfold vp_in; decide)) dX8_countOnward_126 rfl ?_
        refine wp_iinc_2 (pc' := 130) (v := nI (x + 1)) dX8_countOnward_127 (by first | rfl | exact nI_1 _) (by decide) rfl rfl ?_
        refine wp_goto (tgt := 13) dX8_countOnward_130 rfl ?_
        rw [nI_clamp (by omega)]
        refine fin _ ?_
        rw [← hm, show atB R C ρ (t k) x = true by unfold atB; rw [decide_eq_true (p := ρ x = t k) ((nI_eq (by omega) (by omega)).mp c118), decide_eq_true (p := x < R * C) (by omega)]; rfl]
        simp [one]
    by_cases z : k + 1 = s
    · skip
      refine wp_iload_n_2 (pc' := 14) dX8_countOnward_13 rfl ?_
      refine wp_aload_n_0 (pc' := 15) dX8_countOnward_14 rfl ?_
      refine wp_callVu (pc' := 18) (c_X8_places hn q) gX8_countOnward_X8_places rfl rfl hy_X8_places ⟨Nat.le_of_ble_eq_true rfl, Nat.le_of_ble_eq_true rfl⟩ ⟨rfl, rfl⟩ (Nat.le_of_ble_eq_true rfl) ⟨Nat.le_of_ble_eq_true rfl, Nat.le_of_ble_eq_true rfl⟩ (by omega) (ce8 rfl) rfl rfl dX8_countOnward_15 rfl ?_
      refine wp_icmp_ge (pc' := 21) (tgt := 133) dX8_countOnward_18 rfl rfl (fun c18 => by exfalso; exact nI_ge (by omega) (by omega) c18) (fun c18 => ?_)
      refine wp_iload_n_1 (pc' := 22) dX8_countOnward_21 rfl ?_
      refine wp_aload_n_0 (pc' := 23) dX8_countOnward_22 rfl ?_
      refine wp_get_8_14 (pc' := 26) (by omega) rfl me_X8_countOnward_0 ic_X8_countOnward_8 dX8_countOnward_23 rfl ?_
      rw [tk'.2.1]
      refine wp_iconst (pc' := 27) (1) dX8_countOnward_26 rfl (by decide) ?_
      refine wp_isub (pc' := 28) dX8_countOnward_27 rfl ?_
      rw [nI_pred' (by omega)]
      refine wp_icmp_ne (pc' := 31) (tgt := 35) dX8_countOnward_28 rfl rfl (fun c28 => by exfalso; exact c28 (by congr 1; omega)) (fun c28 => ?_)
      refine wp_iconst (pc' := 32) (1) dX8_countOnward_31 rfl (by decide) ?_
      refine wp_goto (tgt := 36) dX8_countOnward_32 rfl ?_
      refine wp_istore_n_3 (pc' := 37) dX8_countOnward_36 (by decide) rfl rfl ?_
      refine wp_iconst (pc' := 38) (0) dX8_countOnward_37 rfl (by decide) ?_
      refine wp_istore_4 (pc' := 40) dX8_countOnward_38 (by decide) rfl rfl ?_
      refine wp_iload_4 (pc' := 42) dX8_countOnward_40 rfl ?_
      refine wp_aload_n_0 (pc' := 43) dX8_countOnward_42 rfl ?_
      refine wp_callVu (pc' := 46) (c_X8_places hn q) gX8_countOnward_X8_places rfl rfl hy_X8_places ⟨Nat.le_of_ble_eq_true rfl, Nat.le_of_ble_eq_true rfl⟩ ⟨rfl, rfl⟩ (Nat.le_of_ble_eq_true rfl) ⟨Nat.le_of_ble_eq_true rfl, Nat.le_of_ble_eq_true rfl⟩ (by omega) (ce8 rfl) rfl rfl dX8_countOnward_43 rfl ?_
      refine wp_icmp_ge (pc' := 49) (tgt := 96) dX8_countOnward_46 rfl rfl (fun c46 => by exfalso; exact nI_ge (a := 0) (by omega) (by omega) c46) (fun c46 => ?_)
      refine wp_iload_n_1 (pc' := 50) dX8_countOnward_49 rfl ?_
      refine wp_aload_n_0 (pc' := 51) dX8_countOnward_50 rfl ?_
      refine wp_get_8_14 (pc' := 54) (by omega) rfl me_X8_countOnward_0 ic_X8_countOnward_8 dX8_countOnward_51 rfl ?_
      rw [tk'.2.1]
      refine wp_iconst (pc' := 55) (1) dX8_countOnward_54 rfl (by decide) ?_
      refine wp_isub (pc' := 56) dX8_countOnward_55 rfl ?_
      rw [nI_pred' (by omega)]
      refine wp_icmp_ge (pc' := 59) (tgt := 96) dX8_countOnward_56 rfl rfl (fun c56 => ?_) (fun c56 => by exfalso; exact c56 (nI_le (by omega) (by omega)))
      exact key 1 _ (cb_top z)
    · skip
      refine wp_iload_n_2 (pc' := 14) dX8_countOnward_13 rfl ?_
      refine wp_aload_n_0 (pc' := 15) dX8_countOnward_14 rfl ?_
      refine wp_callVu (pc' := 18) (c_X8_places hn q) gX8_countOnward_X8_places rfl rfl hy_X8_places ⟨Nat.le_of_ble_eq_true rfl, Nat.le_of_ble_eq_true rfl⟩ ⟨rfl, rfl⟩ (Nat.le_of_ble_eq_true rfl) ⟨Nat.le_of_ble_eq_true rfl, Nat.le_of_ble_eq_true rfl⟩ (by omega) (ce8 rfl) rfl rfl dX8_countOnward_15 rfl ?_
      refine wp_icmp_ge (pc' := 21) (tgt := 133) dX8_countOnward_18 rfl rfl (fun c18 => by exfalso; exact nI_ge (by omega) (by omega) c18) (fun c18 => ?_)
      refine wp_iload_n_1 (pc' := 22) dX8_countOnward_21 rfl ?_
      refine wp_aload_n_0 (pc' := 23) dX8_countOnward_22 rfl ?_
      refine wp_get_8_14 (pc' := 26) (by omega) rfl me_X8_countOnward_0 ic_X8_countOnward_8 dX8_countOnward_23 rfl ?_
      rw [tk'.2.1]
      refine wp_iconst (pc' := 27) (1) dX8_countOnward_26 rfl (by decide) ?_
      refine wp_isub (pc' := 28) dX8_countOnward_27 rfl ?_
      rw [nI_pred' (by omega)]
      refine wp_icmp_ne (pc' := 31) (tgt := 35) dX8_countOnward_28 rfl rfl (fun c28 => ?_) (fun c28 => by exfalso; exact z (by have := (nI_eq (by omega) (by omega)).mp c28; omega))
      refine wp_iconst (pc' := 36) (0) dX8_countOnward_35 rfl (by decide) ?_
      refine wp_istore_n_3 (pc' := 37) dX8_countOnward_36 (by decide) rfl rfl ?_
      refine wp_iconst (pc' := 38) (0) dX8_countOnward_37 rfl (by decide) ?_
      refine wp_istore_4 (pc' := 40) dX8_countOnward_38 (by decide) rfl rfl ?_
      exact lpi_X8_on (g := cb κ R C ρ t s (s - 1 - (k + 1))) hn q tk'.1 tk'.2.1 hκ hs5 (by omega) (by omega) (fun y hy => o.2 (k + 1) y (by omega) hy (Or.inl (by omega))) (fun a4 => key _ a4 (cb_rec (by omega))) (R * C) 0 (by omega)
theorem lpo_X8_on {R C κ s : Nat} {ρ t : Nat → Nat} {post : PO} (hn : 105 ≤ n) (H0 : Hp) (q0 : ShM H0 R C) (tk : TK H0 κ s t) (nr : NR H0 93 ρ) (hκ : κ ≤ 3) (hs5 : s ≤ 5) (h5 : ∀ i, i < 16 → ρ i ≤ 5) (ht5 : ∀ i, i < s → t i ≤ 5)
    (K : ∀ h', (∀ a, a ≠ 99 → h' a = H0 a) → (∀ k x, k < s → x < R * C → h' 99 (16 * k + x) = nI (cb κ R C ρ t s (s - 1 - k) x)) → post none (rf0 π) h' lg) :
    ∀ d : Nat, d ≤ s → ∀ x1 : Int32, x1 = nI d - 1 → ∀ h' a2 a3 a4, okc a2 = true → (∀ a, a ≠ 99 → h' a = H0 a) → (∀ k x, d ≤ k → k < s → x < R * C → h' 99 (16 * k + x) = nI (cb κ R C ρ t s (s - 1 - k) x)) → WP l D cy B cX8_countOnward 5 RX8 wsX8_countOnward rmX8_countOnward none (QE0 D cy B n 0 0 (post)) EX0 n (rf0 π) h' lg 0 0 7 [some (.ref (B + 89)), some (.int x1), a2, a3, a4] [] := by
  have hl := q0.1.le
  intro d
  induction d with
  | zero =>
    intro hd x1 hx h' a2 a3 a4 ho e0 e1
    subst hx
    refine wp_iload_n_1 (pc' := 8) dX8_countOnward_7 rfl ?_
    refine wp_if_lt (pc' := 11) (tgt := 139) dX8_countOnward_8 rfl rfl (fun c8 => ?_) (fun c8 => by exfalso; exact c8 (by decide))
    refine wp_return dX8_countOnward_139 rfl rfl (Nat.le_refl _) (Nat.le_refl _) ?_
    exact K h' e0 (fun k x z1 z2 => e1 k x (by omega) z1 z2)
  | succ d ih =>
    intro hd x1 hx h' a2 a3 a4 ho e0 e1
    subst hx
    rw [nI_pred]
    refine wp_iload_n_1 (pc' := 8) dX8_countOnward_7 rfl ?_
    refine wp_if_lt (pc' := 11) (tgt := 139) dX8_countOnward_8 rfl rfl (fun c8 => by exfalso; exact nI_pos (by omega) c8) (fun c8 => ?_)
    refine wp_iconst (pc' := 12) (0) dX8_countOnward_11 rfl (by decide) ?_
    refine wp_istore_n_2 (pc' := 13) dX8_countOnward_12 (by decide) rfl rfl ?_
    refine lpm_X8_on hn H0 q0 tk nr hκ hs5 (by omega) h5 ht5 (fun h2 b3 b4 o => ?_) (R * C) 0 (by omega) h' _ _ ⟨e0, fun k' x' z1 z2 z3 => e1 k' x' (by omega) z1 z2⟩
    refine wp_iinc_1 (pc' := 136) dX8_countOnward_133 (dec_m1 _) (by decide) rfl rfl ?_
    refine wp_goto (tgt := 7) dX8_countOnward_136 rfl ?_
    exact ih (by omega) _ rfl h2 _ _ _ rfl o.1 (fun k x z1 z2 z3 => o.2 k x z2 z3 (by omega))
theorem c_X8_countOnward {R C κ s : Nat} {ρ t : Nat → Nat} (hn : 105 ≤ n) (q : ShM h R C) (tk : TK h κ s t) (nr : NR h 93 ρ) (hκ : κ ≤ 3) (hs5 : s ≤ 5) (h5 : ∀ i, i < 16 → ρ i ≤ 5) (ht5 : ∀ i, i < s → t i ≤ 5) : Ctr l D cy B yX8_countOnward wsX8_countOnward rmX8_countOnward 0 0 n (rf0 π) h lg [.ref (B + 89)] (qV (fun h' => (∀ a, a ≠ 99 → h' a = h a) ∧ ∀ k x, k < s → x < R * C → h' 99 (16 * k + x) = nI (cb κ R C ρ t s (s - 1 - k) x)) (rf0 π) lg) := by
  refine Ctr.of (cc := cX8_countOnward) (nL := 5) (own := RX8) (rt := none) (ls := [some (.ref (B + 89)), none, none, none, none]) (by decide) rfl rfl (Nat.le_of_ble_eq_true rfl) rfl ?_
  refine wp_aload_n_0 (pc' := 1) dX8_countOnward_0 rfl ?_
  refine wp_get_8_14 (pc' := 4) (by omega) rfl me_X8_countOnward_0 ic_X8_countOnward_8 dX8_countOnward_1 rfl ?_
  rw [tk.2.1]
  refine wp_iconst (pc' := 5) (1) dX8_countOnward_4 rfl (by decide) ?_
  refine wp_isub (pc' := 6) dX8_countOnward_5 rfl ?_
  refine wp_istore_n_1 (pc' := 7) dX8_countOnward_6 (by decide) rfl rfl ?_
  exact lpo_X8_on hn h q tk nr hκ hs5 h5 ht5 (fun h' e0 e1 => qV_of ⟨e0, e1⟩) s (Nat.le_refl _) _ rfl h _ _ _ rfl (fun _ _ => rfl) (fun k x z1 z2 => by omega)
end VM2

