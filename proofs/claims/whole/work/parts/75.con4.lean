abbrev rmX8_init : Room := { frames := 1, cells := 15, slots := 1087, locals := 26 }
theorem hy_X8_init : yX8_init.cls = RX8 ∧ yX8_init.cls ≠ "java/lang/invoke/MethodHandle" ∧ yX8_init.cls ≠ "java/lang/invoke/VarHandle" ∧ (parseMethodDescriptor yX8_init.desc).map (fun d => d.parameters.length) = some 0 := by decide +kernel
theorem hz_X8_init : yX8_init.cls ≠ "java/lang/invoke/MethodHandle" ∧ yX8_init.cls ≠ "java/lang/invoke/VarHandle" ∧ (parseMethodDescriptor yX8_init.desc).map (fun d => d.parameters.length) = some 0 := by decide +kernel
theorem me_X8_init_0 : Cond.methodLink RX8 1 Lib.objectInit ∈ wsX8_init := by decide +kernel
theorem me_X8_init_1 : Cond.instanceMethod Lib.objectInit ∈ wsX8_init := by decide +kernel
theorem me_X8_init_2 : Cond.code Lib.objectInit ⟨#[0xb1]⟩ 1 none ∈ wsX8_init := by decide +kernel
theorem me_X8_init_3 : Cond.arrayClass (newarray.typeOf .int) ∈ wsX8_init := by decide +kernel
theorem me_X8_init_4 : Cond.fieldLink RX8 7 "DrawnByLostModel" "text" "[I" ∈ wsX8_init := by decide +kernel
theorem me_X8_init_5 : Cond.fieldLink RX8 13 "DrawnByLostModel" "sizes" "[I" ∈ wsX8_init := by decide +kernel
theorem me_X8_init_6 : Cond.fieldLink RX8 16 "DrawnByLostModel" "hunger" "[I" ∈ wsX8_init := by decide +kernel
theorem me_X8_init_7 : Cond.fieldLink RX8 19 "DrawnByLostModel" "now" "[I" ∈ wsX8_init := by decide +kernel
theorem me_X8_init_8 : Cond.fieldLink RX8 22 "DrawnByLostModel" "read" "[I" ∈ wsX8_init := by decide +kernel
theorem me_X8_init_9 : Cond.fieldLink RX8 25 "DrawnByLostModel" "before" "[I" ∈ wsX8_init := by decide +kernel
theorem me_X8_init_10 : Cond.fieldLink RX8 28 "DrawnByLostModel" "kept" "[I" ∈ wsX8_init := by decide +kernel
theorem me_X8_init_11 : Cond.fieldLink RX8 31 "DrawnByLostModel" "told" "[I" ∈ wsX8_init := by decide +kernel
theorem me_X8_init_12 : Cond.fieldLink RX8 34 "DrawnByLostModel" "marks" "[I" ∈ wsX8_init := by decide +kernel
theorem me_X8_init_13 : Cond.fieldLink RX8 37 "DrawnByLostModel" "onward" "[I" ∈ wsX8_init := by decide +kernel
theorem me_X8_init_14 : Cond.fieldLink RX8 40 "DrawnByLostModel" "toward" "[I" ∈ wsX8_init := by decide +kernel
theorem me_X8_init_15 : Cond.fieldLink RX8 43 "DrawnByLostModel" "least" "[I" ∈ wsX8_init := by decide +kernel
theorem me_X8_init_16 : Cond.arrayClass (newarray.typeOf .long) ∈ wsX8_init := by decide +kernel
theorem me_X8_init_17 : Cond.fieldLink RX8 46 "DrawnByLostModel" "likely" "[J" ∈ wsX8_init := by decide +kernel
theorem me_X8_init_18 : Cond.fieldLink RX8 50 "DrawnByLostModel" "sets" "[I" ∈ wsX8_init := by decide +kernel
theorem me_X8_init_19 : Cond.fieldLink RX8 53 "DrawnByLostModel" "saved" "[I" ∈ wsX8_init := by decide +kernel
theorem ic_X8_init_8 : ∀ w ∈ wsX80, w ∈ wsX8_init := by decide +kernel
-- the reference made
section VC4
variable {l : Launch} {D : va_G} {cy : CY} {B n : Nat} {h : Hp} {lg : Lg} {π : Nat → Nat}
def cLM : RL3 := (89, 21, 104) :: (89, 20, 103) :: (89, 19, 102) :: (89, 18, 101) :: (89, 17, 100) :: (89, 16, 99) :: (89, 15, 98) :: (89, 12, 97) :: (89, 8, 96) :: (89, 6, 95) :: (89, 5, 94) :: (89, 4, 93) :: (89, 3, 92) :: (89, 2, 91) :: (89, 1, 90) :: cLF
theorem cLM_a : ∀ a, a < 105 → ∀ j, j < 22 → rf0 p0 a j = rL cLM a j := by decide +kernel
theorem cLM_b : ∀ q ∈ cLM, q.2.1 < 22 := by decide +kernel
theorem rfL_c : ∀ a, a < 105 → (rfL.getD a []).length ≤ 22 := by decide +kernel
theorem cLM_rf : ∀ a, a < 105 → rf0 p0 a = rL cLM a := by
  intro a ha
  funext j
  by_cases hj : j < 22
  · exact cLM_a a ha j hj
  · have e1 : rL cLM a j = none := by
      unfold rL
      rw [List.find?_eq_none.mpr]
      · rfl
      · intro q hq
        have z := cLM_b q hq
        simp only [Bool.and_eq_true, beq_iff_eq]
        omega
    rw [e1]
    unfold rf0
    by_cases e : a = 29
    · rw [if_pos e, if_neg (by omega)]
    · rw [if_neg e, List.getD_eq_getElem?_getD, List.getElem?_eq_none (by have := rfL_c a ha; omega)]
      rfl
theorem prs_ok {len : Nat} {tx : Nat → Nat} : ∀ d p s, PSok s → PSok (prs len tx d p s).2 := by
  intro d
  induction d with
  | zero => intro p s ps; exact ps
  | succ d ih =>
    intro p s ps
    simp only [prs]
    split
    · split
      · exact ps
      · rename_i q s' e
        exact ih q s' (item_ok ps e)
    · exact ps
theorem s00_ps : PSok s00 := prs_ok 200 0 ps0 ps0_ok
theorem NR.up {h : Hp} {c i v : Nat} {ρ : Nat → Nat} (q : NR h c ρ) : NR (hup h c i (nI v)) c (upN ρ i v) := fun k hk => by
  by_cases e : k = i
  · subst e; rw [hup_at, upN_at]
  · rw [hup_off e, upN_off e]; exact q k hk
theorem NR.at {h h' : Hp} {c : Nat} {ρ : Nat → Nat} (q : NR h c ρ) (e : h' c = h c) : NR h' c ρ := fun k hk => by rw [e]; exact q k hk
def mA0 : Nat → Nat := (upN (upN (upN (upN (upN (upN (upN (fun _ => 0) 1 1) 2 2) 4 3) 5 1) 7 4) 9 2) 10 5)
def mA1 : Nat → Nat := addW mA0 0 3 (fun j => 123 / 10 ^ (3 - 1 - j) % 10 - 1)
theorem mA0_5 : mA0 16 < 5 := by decide +kernel
def mA2 : Nat → Nat := addW mA1 1 3 (fun j => 324 / 10 ^ (3 - 1 - j) % 10 - 1)
theorem mA1_5 : mA1 16 < 5 := by decide +kernel
def mA3 : Nat → Nat := addW mA2 2 3 (fun j => 465 / 10 ^ (3 - 1 - j) % 10 - 1)
theorem mA2_5 : mA2 16 < 5 := by decide +kernel
def mA4 : Nat → Nat := addW mA3 3 2 (fun j => 12 / 10 ^ (2 - 1 - j) % 10 - 1)
theorem mA3_5 : mA3 16 < 5 := by decide +kernel
def mA5 : Nat → Nat := addW mA4 0 3 (fun j => 426 / 10 ^ (3 - 1 - j) % 10 - 1)
theorem mA4_5 : mA4 16 < 5 := by decide +kernel
theorem mA5_eq : ∀ k, k < 52 → mA5 k = s00.2.2.2.2 k := by decide +kernel
theorem mHu_eq : ∀ m, m < 6 → s00.2.2.2.1 m = if m = 5 then 2 else m + 1 := by decide +kernel
theorem Fg_123 : Fg 123 3 := ⟨by omega, by omega, by omega, by decide⟩
theorem Fg_324 : Fg 324 3 := ⟨by omega, by omega, by omega, by decide⟩
theorem Fg_465 : Fg 465 3 := ⟨by omega, by omega, by omega, by decide⟩
theorem Fg_12 : Fg 12 2 := ⟨by omega, by omega, by omega, by decide⟩
theorem Fg_426 : Fg 426 3 := ⟨by omega, by omega, by omega, by decide⟩
def P8 (h : Hp) : PO := fun v r1 h1 _ => v = none ∧ r1 = rf0 p0 ∧ MI h1 S0 ∧ ∀ a, a < 89 → h1 a = h a
set_option maxHeartbeats 8000000 in
theorem c_X8_init (hz : ∀ a, 89 ≤ a → h a = Z0 a) : Ctr l D cy B yX8_init wsX8_init rmX8_init 15 1087 (89 + 1) (rL cLF) h (fun _ => 0) [.ref (B + 89)] (P8 h) := by
  have hz0 : ∀ a, 89 ≤ a → ∀ j, h a j = 0 := fun a ha j => congrFun (hz a ha) j
  refine Ctr.ofi (cc := cX8_init) (nL := 1) (own := RX8) (rt := none) (ls := [some (.ref (B + 89))]) (by decide) rfl rfl rfl (Nat.le_of_ble_eq_true rfl) rfl ?_
  refine wp_aload_n_0 (pc' := 1) dX8_init_0 rfl ?_
  refine wp_objInit (pc' := 4) me_X8_init_0 me_X8_init_1 me_X8_init_2 (Nat.le_of_ble_eq_true rfl) (Nat.le_of_ble_eq_true rfl) dX8_init_1 rfl ?_
  refine wp_aload_n_0 (pc' := 5) dX8_init_4 rfl ?_
  refine wp_sipush (pc' := 8) (200) dX8_init_5 rfl (by decide) ?_
  refine wp_newai (pc' := 10) (N := 200) rfl rfl (hz0 _ (by omega)) me_X8_init_3 (by decide) (by decide) (by decide) ⟨Nat.le_of_ble_eq_true rfl, Nat.le_of_ble_eq_true rfl⟩ dX8_init_8 rfl ?_
  refine wp_put_8_1 (pc' := 13) (by omega) rfl me_X8_init_4 ic_X8_init_8 (fun _ _ _ q => q) rfl dX8_init_10 rfl ?_
  rw [rup_rL]
  refine wp_aload_n_0 (pc' := 14) dX8_init_13 rfl ?_
  refine wp_iconst (pc' := 15) (4) dX8_init_14 rfl (by decide) ?_
  refine wp_newai (pc' := 17) (N := 4) rfl rfl (hz0 _ (by omega)) me_X8_init_3 (by decide) (by decide) (by decide) ⟨Nat.le_of_ble_eq_true rfl, Nat.le_of_ble_eq_true rfl⟩ dX8_init_15 rfl ?_
  refine wp_put_8_2 (pc' := 20) (by omega) rfl me_X8_init_5 ic_X8_init_8 (fun _ _ _ q => q) rfl dX8_init_17 rfl ?_
  rw [rup_rL]
  refine wp_aload_n_0 (pc' := 21) dX8_init_20 rfl ?_
  refine wp_bipush (pc' := 23) (12) dX8_init_21 rfl (by decide) ?_
  refine wp_newai (pc' := 25) (N := 12) rfl rfl (hz0 _ (by omega)) me_X8_init_3 (by decide) (by decide) (by decide) ⟨Nat.le_of_ble_eq_true rfl, Nat.le_of_ble_eq_true rfl⟩ dX8_init_23 rfl ?_
  refine wp_put_8_3 (pc' := 28) (by omega) rfl me_X8_init_6 ic_X8_init_8 (fun _ _ _ q => q) rfl dX8_init_25 rfl ?_
  rw [rup_rL]
  refine wp_aload_n_0 (pc' := 29) dX8_init_28 rfl ?_
  refine wp_bipush (pc' := 31) (52) dX8_init_29 rfl (by decide) ?_
  refine wp_newai (pc' := 33) (N := 52) rfl rfl (hz0 _ (by omega)) me_X8_init_3 (by decide) (by decide) (by decide) ⟨Nat.le_of_ble_eq_true rfl, Nat.le_of_ble_eq_true rfl⟩ dX8_init_31 rfl ?_
  refine wp_put_8_4 (pc' := 36) (by omega) rfl me_X8_init_7 ic_X8_init_8 (fun _ _ _ q => q) rfl dX8_init_33 rfl ?_
  rw [rup_rL]
  refine wp_aload_n_0 (pc' := 37) dX8_init_36 rfl ?_
  refine wp_bipush (pc' := 39) (52) dX8_init_37 rfl (by decide) ?_
  refine wp_newai (pc' := 41) (N := 52) rfl rfl (hz0 _ (by omega)) me_X8_init_3 (by decide) (by decide) (by decide) ⟨Nat.le_of_ble_eq_true rfl, Nat.le_of_ble_eq_true rfl⟩ dX8_init_39 rfl ?_
  refine wp_put_8_5 (pc' := 44) (by omega) rfl me_X8_init_8 ic_X8_init_8 (fun _ _ _ q => q) rfl dX8_init_41 rfl ?_
  rw [rup_rL]
  refine wp_aload_n_0 (pc' := 45) dX8_init_44 rfl ?_
  refine wp_sipush (pc' := 48) (416) dX8_init_45 rfl (by decide) ?_
  refine wp_newai (pc' := 50) (N := 416) rfl rfl (hz0 _ (by omega)) me_X8_init_3 (by decide) (by decide) (by decide) ⟨Nat.le_of_ble_eq_true rfl, Nat.le_of_ble_eq_true rfl⟩ dX8_init_48 rfl ?_
  refine wp_put_8_6 (pc' := 53) (by omega) rfl me_X8_init_9 ic_X8_init_8 (fun _ _ _ q => q) rfl dX8_init_50 rfl ?_
  rw [rup_rL]
  refine wp_aload_n_0 (pc' := 54) dX8_init_53 rfl ?_
  refine wp_bipush (pc' := 56) (104) dX8_init_54 rfl (by decide) ?_
  refine wp_newai (pc' := 58) (N := 104) rfl rfl (hz0 _ (by omega)) me_X8_init_3 (by decide) (by decide) (by decide) ⟨Nat.le_of_ble_eq_true rfl, Nat.le_of_ble_eq_true rfl⟩ dX8_init_56 rfl ?_
  refine wp_put_8_8 (pc' := 61) (by omega) rfl me_X8_init_10 ic_X8_init_8 (fun _ _ _ q => q) rfl dX8_init_58 rfl ?_
  rw [rup_rL]
  refine wp_aload_n_0 (pc' := 62) dX8_init_61 rfl ?_
  refine wp_iconst (pc' := 63) (2) dX8_init_62 rfl (by decide) ?_
  refine wp_newai (pc' := 65) (N := 2) rfl rfl (hz0 _ (by omega)) me_X8_init_3 (by decide) (by decide) (by decide) ⟨Nat.le_of_ble_eq_true rfl, Nat.le_of_ble_eq_true rfl⟩ dX8_init_63 rfl ?_
  refine wp_put_8_12 (pc' := 68) (by omega) rfl me_X8_init_11 ic_X8_init_8 (fun _ _ _ q => q) rfl dX8_init_65 rfl ?_
  rw [rup_rL]
  refine wp_aload_n_0 (pc' := 69) dX8_init_68 rfl ?_
  refine wp_iconst (pc' := 70) (5) dX8_init_69 rfl (by decide) ?_
  refine wp_newai (pc' := 72) (N := 5) rfl rfl (hz0 _ (by omega)) me_X8_init_3 (by decide) (by decide) (by decide) ⟨Nat.le_of_ble_eq_true rfl, Nat.le_of_ble_eq_true rfl⟩ dX8_init_70 rfl ?_
  refine wp_put_8_15 (pc' := 75) (by omega) rfl me_X8_init_12 ic_X8_init_8 (fun _ _ _ q => q) rfl dX8_init_72 rfl ?_
  rw [rup_rL]
  refine wp_aload_n_0 (pc' := 76) dX8_init_75 rfl ?_
  refine wp_bipush (pc' := 78) (80) dX8_init_76 rfl (by decide) ?_
  refine wp_newai (pc' := 80) (N := 80) rfl rfl (hz0 _ (by omega)) me_X8_init_3 (by decide) (by decide) (by decide) ⟨Nat.le_of_ble_eq_true rfl, Nat.le_of_ble_eq_true rfl⟩ dX8_init_78 rfl ?_
  refine wp_put_8_16 (pc' := 83) (by omega) rfl me_X8_init_13 ic_X8_init_8 (fun _ _ _ q => q) rfl dX8_init_80 rfl ?_
  rw [rup_rL]
  refine wp_aload_n_0 (pc' := 84) dX8_init_83 rfl ?_
  refine wp_bipush (pc' := 86) (80) dX8_init_84 rfl (by decide) ?_
  refine wp_newai (pc' := 88) (N := 80) rfl rfl (hz0 _ (by omega)) me_X8_init_3 (by decide) (by decide) (by decide) ⟨Nat.le_of_ble_eq_true rfl, Nat.le_of_ble_eq_true rfl⟩ dX8_init_86 rfl ?_
  refine wp_put_8_17 (pc' := 91) (by omega) rfl me_X8_init_14 ic_X8_init_8 (fun _ _ _ q => q) rfl dX8_init_88 rfl ?_
  rw [rup_rL]
  refine wp_aload_n_0 (pc' := 92) dX8_init_91 rfl ?_
  refine wp_bipush (pc' := 94) (16) dX8_init_92 rfl (by decide) ?_
  refine wp_newai (pc' := 96) (N := 16) rfl rfl (hz0 _ (by omega)) me_X8_init_3 (by decide) (by decide) (by decide) ⟨Nat.le_of_ble_eq_true rfl, Nat.le_of_ble_eq_true rfl⟩ dX8_init_94 rfl ?_
  refine wp_put_8_18 (pc' := 99) (by omega) rfl me_X8_init_15 ic_X8_init_8 (fun _ _ _ q => q) rfl dX8_init_96 rfl ?_
  rw [rup_rL]
  refine wp_aload_n_0 (pc' := 100) dX8_init_99 rfl ?_
  refine wp_bipush (pc' := 102) (32) dX8_init_100 rfl (by decide) ?_
  refine wp_newal (pc' := 104) (N := 32) rfl rfl (fun _ => rfl) me_X8_init_16 (by decide) (by decide) (by decide) ⟨Nat.le_of_ble_eq_true rfl, Nat.le_of_ble_eq_true rfl⟩ dX8_init_102 rfl ?_
  refine wp_put_8_19 (pc' := 107) (by omega) rfl me_X8_init_17 ic_X8_init_8 (fun _ _ _ q => q) rfl dX8_init_104 rfl ?_
  rw [rup_rL]
  refine wp_aload_n_0 (pc' := 108) dX8_init_107 rfl ?_
  refine wp_bipush (pc' := 110) (16) dX8_init_108 rfl (by decide) ?_
  refine wp_newai (pc' := 112) (N := 16) rfl rfl (hz0 _ (by omega)) me_X8_init_3 (by decide) (by decide) (by decide) ⟨Nat.le_of_ble_eq_true rfl, Nat.le_of_ble_eq_true rfl⟩ dX8_init_110 rfl ?_
  refine wp_put_8_20 (pc' := 115) (by omega) rfl me_X8_init_18 ic_X8_init_8 (fun _ _ _ q => q) rfl dX8_init_112 rfl ?_
  rw [rup_rL]
  refine wp_aload_n_0 (pc' := 116) dX8_init_115 rfl ?_
  refine wp_bipush (pc' := 118) (16) dX8_init_116 rfl (by decide) ?_
  refine wp_newai (pc' := 120) (N := 16) rfl rfl (hz0 _ (by omega)) me_X8_init_3 (by decide) (by decide) (by decide) ⟨Nat.le_of_ble_eq_true rfl, Nat.le_of_ble_eq_true rfl⟩ dX8_init_118 rfl ?_
  refine wp_put_8_21 (pc' := 123) (by omega) rfl me_X8_init_19 ic_X8_init_8 (fun _ _ _ q => q) rfl dX8_init_120 rfl ?_
  rw [rup_rL]
  refine WP.same (r' := rf0 p0) (h' := h) (lg' := fun _ => 0) (fun a ha => cLM_rf a ha) (fun _ _ => rfl) (Or.inl rfl) ?_
  refine wp_aload_n_0 (pc' := 124) dX8_init_123 rfl ?_
  refine wp_callVv (pc' := 127) (c_X8_empty (Nat.le_refl 105)) gX8_init_X8_empty rfl rfl hy_X8_empty ⟨Nat.le_of_ble_eq_true rfl, Nat.le_of_ble_eq_true rfl⟩ ⟨rfl, rfl⟩ (Nat.le_of_ble_eq_true rfl) ⟨Nat.le_of_ble_eq_true rfl, Nat.le_of_ble_eq_true rfl⟩ (by omega) (ce8 rfl) rfl rfl dX8_init_124 rfl (fun h124 q124 => ?_)
  obtain ⟨g0, g1, g2, g3, g4, g5, g6⟩ := q124
  have N0 : NR h124 94 (fun _ => 0) := fun k hk => by rw [g6 k hk]; rfl
  refine wp_aload_n_0 (pc' := 128) dX8_init_127 rfl ?_
  refine wp_get_8_2 (pc' := 131) (by omega) rfl rfl me_X8_init_5 ic_X8_init_8 dX8_init_128 rfl ?_
  refine wp_iconst (pc' := 132) (2) dX8_init_131 rfl (by decide) ?_
  refine wp_iconst (pc' := 133) (3) dX8_init_132 rfl (by decide) ?_
  refine wp_iast (pc' := 134) (N := 4) (by omega) rfl rfl (by first | exact vp_in_nI (by omega) (by omega) | assumption | (unfold vp_in; decide)) dX8_init_133 rfl ?_
  rw [show (2 : Int32).toNatClampNeg = 2 from rfl]
  have M0 : NR (hup h124 91 2 3) 94 (fun _ => 0) := N0.at (hup_cell (by decide))
  refine wp_aload_n_0 (pc' := 135) dX8_init_134 rfl ?_
  refine wp_get_8_5 (pc' := 138) (by omega) rfl rfl me_X8_init_8 ic_X8_init_8 dX8_init_135 rfl ?_
  refine wp_iconst (pc' := 139) (1) dX8_init_138 rfl (by decide) ?_
  refine wp_iconst (pc' := 140) (1) dX8_init_139 rfl (by decide) ?_
  refine wp_iast (pc' := 141) (N := 52) (by omega) rfl rfl (by first | exact vp_in_nI (by omega) (by omega) | assumption | (unfold vp_in; decide)) dX8_init_140 rfl ?_
  rw [show (1 : Int32).toNatClampNeg = 1 from rfl]
  have M1 : NR (hup (hup h124 91 2 3) 94 1 1) 94 (upN (fun _ => 0) 1 1) := M0.up (i := 1) (v := 1)
  refine wp_aload_n_0 (pc' := 142) dX8_init_141 rfl ?_
  refine wp_get_8_5 (pc' := 145) (by omega) rfl rfl me_X8_init_8 ic_X8_init_8 dX8_init_142 rfl ?_
  refine wp_iconst (pc' := 146) (2) dX8_init_145 rfl (by decide) ?_
  refine wp_iconst (pc' := 147) (2) dX8_init_146 rfl (by decide) ?_
  refine wp_iast (pc' := 148) (N := 52) (by omega) rfl rfl (by first | exact vp_in_nI (by omega) (by omega) | assumption | (unfold vp_in; decide)) dX8_init_147 rfl ?_
  rw [show (2 : Int32).toNatClampNeg = 2 from rfl]
  have M2 : NR (hup (hup (hup h124 91 2 3) 94 1 1) 94 2 2) 94 (upN (upN (fun _ => 0) 1 1) 2 2) := M1.up (i := 2) (v := 2)
  refine wp_aload_n_0 (pc' := 149) dX8_init_148 rfl ?_
  refine wp_get_8_5 (pc' := 152) (by omega) rfl rfl me_X8_init_8 ic_X8_init_8 dX8_init_149 rfl ?_
  refine wp_iconst (pc' := 153) (4) dX8_init_152 rfl (by decide) ?_
  refine wp_iconst (pc' := 154) (3) dX8_init_153 rfl (by decide) ?_
  refine wp_iast (pc' := 155) (N := 52) (by omega) rfl rfl (by first | exact vp_in_nI (by omega) (by omega) | assumption | (unfold vp_in; decide)) dX8_init_154 rfl ?_
  rw [show (4 : Int32).toNatClampNeg = 4 from rfl]
  have M3 : NR (hup (hup (hup (hup h124 91 2 3) 94 1 1) 94 2 2) 94 4 3) 94 (upN (upN (upN (fun _ => 0) 1 1) 2 2) 4 3) := M2.up (i := 4) (v := 3)
  refine wp_aload_n_0 (pc' := 156) dX8_init_155 rfl ?_
  refine wp_get_8_5 (pc' := 159) (by omega) rfl rfl me_X8_init_8 ic_X8_init_8 dX8_init_156 rfl ?_
  refine wp_iconst (pc' := 160) (5) dX8_init_159 rfl (by decide) ?_
  refine wp_iconst (pc' := 161) (1) dX8_init_160 rfl (by decide) ?_
  refine wp_iast (pc' := 162) (N := 52) (by omega) rfl rfl (by first | exact vp_in_nI (by omega) (by omega) | assumption | (unfold vp_in; decide)) dX8_init_161 rfl ?_
  rw [show (5 : Int32).toNatClampNeg = 5 from rfl]
  have M4 : NR (hup (hup (hup (hup (hup h124 91 2 3) 94 1 1) 94 2 2) 94 4 3) 94 5 1) 94 (upN (upN (upN (upN (fun _ => 0) 1 1) 2 2) 4 3) 5 1) := M3.up (i := 5) (v := 1)
  refine wp_aload_n_0 (pc' := 163) dX8_init_162 rfl ?_
  refine wp_get_8_5 (pc' := 166) (by omega) rfl rfl me_X8_init_8 ic_X8_init_8 dX8_init_163 rfl ?_
  refine wp_bipush (pc' := 168) (7) dX8_init_166 rfl (by decide) ?_
  refine wp_iconst (pc' := 169) (4) dX8_init_168 rfl (by decide) ?_
  refine wp_iast (pc' := 170) (N := 52) (by omega) rfl rfl (by first | exact vp_in_nI (by omega) (by omega) | assumption | (unfold vp_in; decide)) dX8_init_169 rfl ?_
  rw [show (7 : Int32).toNatClampNeg = 7 from rfl]
  have M5 : NR (hup (hup (hup (hup (hup (hup h124 91 2 3) 94 1 1) 94 2 2) 94 4 3) 94 5 1) 94 7 4) 94 (upN (upN (upN (upN (upN (fun _ => 0) 1 1) 2 2) 4 3) 5 1) 7 4) := M4.up (i := 7) (v := 4)
  refine wp_aload_n_0 (pc' := 171) dX8_init_170 rfl ?_
  refine wp_get_8_5 (pc' := 174) (by omega) rfl rfl me_X8_init_8 ic_X8_init_8 dX8_init_171 rfl ?_
  refine wp_bipush (pc' := 176) (9) dX8_init_174 rfl (by decide) ?_
  refine wp_iconst (pc' := 177) (2) dX8_init_176 rfl (by decide) ?_
  refine wp_iast (pc' := 178) (N := 52) (by omega) rfl rfl (by first | exact vp_in_nI (by omega) (by omega) | assumption | (unfold vp_in; decide)) dX8_init_177 rfl ?_
  rw [show (9 : Int32).toNatClampNeg = 9 from rfl]
  have M6 : NR (hup (hup (hup (hup (hup (hup (hup h124 91 2 3) 94 1 1) 94 2 2) 94 4 3) 94 5 1) 94 7 4) 94 9 2) 94 (upN (upN (upN (upN (upN (upN (fun _ => 0) 1 1) 2 2) 4 3) 5 1) 7 4) 9 2) := M5.up (i := 9) (v := 2)
  refine wp_aload_n_0 (pc' := 179) dX8_init_178 rfl ?_
  refine wp_get_8_5 (pc' := 182) (by omega) rfl rfl me_X8_init_8 ic_X8_init_8 dX8_init_179 rfl ?_
  refine wp_bipush (pc' := 184) (10) dX8_init_182 rfl (by decide) ?_
  refine wp_iconst (pc' := 185) (5) dX8_init_184 rfl (by decide) ?_
  refine wp_iast (pc' := 186) (N := 52) (by omega) rfl rfl (by first | exact vp_in_nI (by omega) (by omega) | assumption | (unfold vp_in; decide)) dX8_init_185 rfl ?_
  rw [show (10 : Int32).toNatClampNeg = 10 from rfl]
  have M7 : NR (hup (hup (hup (hup (hup (hup (hup (hup h124 91 2 3) 94 1 1) 94 2 2) 94 4 3) 94 5 1) 94 7 4) 94 9 2) 94 10 5) 94 (upN (upN (upN (upN (upN (upN (upN (fun _ => 0) 1 1) 2 2) 4 3) 5 1) 7 4) 9 2) 10 5) := M6.up (i := 10) (v := 5)
  refine wp_aload_n_0 (pc' := 187) dX8_init_186 rfl ?_
  refine wp_get_8_3 (pc' := 190) (by omega) rfl rfl me_X8_init_6 ic_X8_init_8 dX8_init_187 rfl ?_
  refine wp_bipush (pc' := 192) (11) dX8_init_190 rfl (by decide) ?_
  refine wp_iconst (pc' := 193) (2) dX8_init_192 rfl (by decide) ?_
  refine wp_iast (pc' := 194) (N := 12) (by omega) rfl rfl (by first | exact vp_in_nI (by omega) (by omega) | assumption | (unfold vp_in; decide)) dX8_init_193 rfl ?_
  rw [show (11 : Int32).toNatClampNeg = 11 from rfl]
  have K0 : NR (hup (hup (hup (hup (hup (hup (hup (hup (hup h124 91 2 3) 94 1 1) 94 2 2) 94 4 3) 94 5 1) 94 7 4) 94 9 2) 94 10 5) 92 11 2) 94 mA0 := M7.at (hup_cell (by decide))
  refine wp_aload_n_0 (pc' := 195) dX8_init_194 rfl ?_
  refine wp_get_8_5 (pc' := 198) (by omega) rfl rfl me_X8_init_8 ic_X8_init_8 dX8_init_195 rfl ?_
  refine wp_iconst (pc' := 199) (0) dX8_init_198 rfl (by decide) ?_
  refine wp_bipush (pc' := 201) (123) dX8_init_199 rfl (by decide) ?_
  refine wp_callSv (pc' := 204) (c_X8_addWalk (v := 123) (m := 3) (κ := 0) (c := 94) (ρ := mA0) (Nat.le_refl 105) (Or.inr rfl) Fg_123 mA0_5 K0) gX8_init_X8_addWalk rfl rfl hz_X8_addWalk ⟨Nat.le_of_ble_eq_true rfl, Nat.le_of_ble_eq_true rfl⟩ ⟨rfl, rfl⟩ (Nat.le_of_ble_eq_true rfl) ⟨Nat.le_of_ble_eq_true rfl, Nat.le_of_ble_eq_true rfl⟩ rfl dX8_init_201 rfl (fun h201 q201 => ?_)
  refine wp_aload_n_0 (pc' := 205) dX8_init_204 rfl ?_
  refine wp_get_8_5 (pc' := 208) (by omega) rfl rfl me_X8_init_8 ic_X8_init_8 dX8_init_205 rfl ?_
  refine wp_iconst (pc' := 209) (1) dX8_init_208 rfl (by decide) ?_
  refine wp_sipush (pc' := 212) (324) dX8_init_209 rfl (by decide) ?_
  refine wp_callSv (pc' := 215) (c_X8_addWalk (v := 324) (m := 3) (κ := 1) (c := 94) (ρ := mA1) (Nat.le_refl 105) (Or.inr rfl) Fg_324 mA1_5 q201.2) gX8_init_X8_addWalk rfl rfl hz_X8_addWalk ⟨Nat.le_of_ble_eq_true rfl, Nat.le_of_ble_eq_true rfl⟩ ⟨rfl, rfl⟩ (Nat.le_of_ble_eq_true rfl) ⟨Nat.le_of_ble_eq_true rfl, Nat.le_of_ble_eq_true rfl⟩ rfl dX8_init_212 rfl (fun h212 q212 => ?_)
  refine wp_aload_n_0 (pc' := 216) dX8_init_215 rfl ?_
  refine wp_get_8_5 (pc' := 219) (by omega) rfl rfl me_X8_init_8 ic_X8_init_8 dX8_init_216 rfl ?_
  refine wp_iconst (pc' := 220) (2) dX8_init_219 rfl (by decide) ?_
  refine wp_sipush (pc' := 223) (465) dX8_init_220 rfl (by decide) ?_
  refine wp_callSv (pc' := 226) (c_X8_addWalk (v := 465) (m := 3) (κ := 2) (c := 94) (ρ := mA2) (Nat.le_refl 105) (Or.inr rfl) Fg_465 mA2_5 q212.2) gX8_init_X8_addWalk rfl rfl hz_X8_addWalk ⟨Nat.le_of_ble_eq_true rfl, Nat.le_of_ble_eq_true rfl⟩ ⟨rfl, rfl⟩ (Nat.le_of_ble_eq_true rfl) ⟨Nat.le_of_ble_eq_true rfl, Nat.le_of_ble_eq_true rfl⟩ rfl dX8_init_223 rfl (fun h223 q223 => ?_)
  refine wp_aload_n_0 (pc' := 227) dX8_init_226 rfl ?_
  refine wp_get_8_5 (pc' := 230) (by omega) rfl rfl me_X8_init_8 ic_X8_init_8 dX8_init_227 rfl ?_
  refine wp_iconst (pc' := 231) (3) dX8_init_230 rfl (by decide) ?_
  refine wp_bipush (pc' := 233) (12) dX8_init_231 rfl (by decide) ?_
  refine wp_callSv (pc' := 236) (c_X8_addWalk (v := 12) (m := 2) (κ := 3) (c := 94) (ρ := mA3) (Nat.le_refl 105) (Or.inr rfl) Fg_12 mA3_5 q223.2) gX8_init_X8_addWalk rfl rfl hz_X8_addWalk ⟨Nat.le_of_ble_eq_true rfl, Nat.le_of_ble_eq_true rfl⟩ ⟨rfl, rfl⟩ (Nat.le_of_ble_eq_true rfl) ⟨Nat.le_of_ble_eq_true rfl, Nat.le_of_ble_eq_true rfl⟩ rfl dX8_init_233 rfl (fun h233 q233 => ?_)
  refine wp_aload_n_0 (pc' := 237) dX8_init_236 rfl ?_
  refine wp_get_8_5 (pc' := 240) (by omega) rfl rfl me_X8_init_8 ic_X8_init_8 dX8_init_237 rfl ?_
  refine wp_iconst (pc' := 241) (0) dX8_init_240 rfl (by decide) ?_
  refine wp_sipush (pc' := 244) (426) dX8_init_241 rfl (by decide) ?_
  refine wp_callSv (pc' := 247) (c_X8_addWalk (v := 426) (m := 3) (κ := 0) (c := 94) (ρ := mA4) (Nat.le_refl 105) (Or.inr rfl) Fg_426 mA4_5 q233.2) gX8_init_X8_addWalk rfl rfl hz_X8_addWalk ⟨Nat.le_of_ble_eq_true rfl, Nat.le_of_ble_eq_true rfl⟩ ⟨rfl, rfl⟩ (Nat.le_of_ble_eq_true rfl) ⟨Nat.le_of_ble_eq_true rfl, Nat.le_of_ble_eq_true rfl⟩ rfl dX8_init_244 rfl (fun h244 q244 => ?_)
  have e9 : ∀ a, a ≠ 94 → h244 a = (hup (hup (hup (hup (hup (hup (hup (hup (hup h124 91 2 3) 94 1 1) 94 2 2) 94 4 3) 94 5 1) 94 7 4) 94 9 2) 94 10 5) 92 11 2) a := fun a ha => by rw [q244.1 a ha, q233.1 a ha, q223.1 a ha, q212.1 a ha, q201.1 a ha]
  have T : TM h244 0 (fun _ => 0) := ⟨by rw [e9 89 (by decide), hup_cell (by decide), hup_cell (by decide), hup_cell (by decide), hup_cell (by decide), hup_cell (by decide), hup_cell (by decide), hup_cell (by decide), hup_cell (by decide), hup_cell (by decide), g0 89 (by decide) (by decide) (by decide)]; exact hz0 89 (by omega) 0, by omega, fun i hi => absurd hi (Nat.not_lt_zero i)⟩
  have rs : RSm h244 (s00.1, s00.2.1, true, s00.2.2.2.1, s00.2.2.2.2) := by
    refine ⟨?_, ?_, ?_, fun m hm => ?_, fun k hk => ?_⟩
    · rw [e9 91 (by decide), hup_cell (by decide), hup_cell (by decide), hup_cell (by decide), hup_cell (by decide), hup_cell (by decide), hup_cell (by decide), hup_cell (by decide), hup_cell (by decide), hup_at, s00_ok.2.1]; rfl
    · rw [e9 91 (by decide), hup_cell (by decide), hup_cell (by decide), hup_cell (by decide), hup_cell (by decide), hup_cell (by decide), hup_cell (by decide), hup_cell (by decide), hup_cell (by decide), hup_off (by decide), g3, s00_ok.2.2.1]; rfl
    · rw [e9 89 (by decide), hup_cell (by decide), hup_cell (by decide), hup_cell (by decide), hup_cell (by decide), hup_cell (by decide), hup_cell (by decide), hup_cell (by decide), hup_cell (by decide), hup_cell (by decide), g0 89 (by decide) (by decide) (by decide)]; exact hz0 89 (by omega) 11
    · rw [e9 92 (by decide), mHu_eq m hm]
      by_cases z : m = 5
      · subst z; rw [if_pos rfl, hup_at]; rfl
      · rw [if_neg z, hup_off (by omega), hup_cell (by decide), hup_cell (by decide), hup_cell (by decide), hup_cell (by decide), hup_cell (by decide), hup_cell (by decide), hup_cell (by decide), hup_cell (by decide)]; exact g5 m hm
    · rw [← mA5_eq k hk]; exact q244.2 k hk
  refine wp_aload_n_0 (pc' := 248) dX8_init_247 rfl ?_
  refine wp_callVv (pc' := 251) (c_X8_begin (fun _ _ => 0) (fun _ _ => 0) (Nat.le_refl 105) T rs ⟨s00_ps.1, s00_ps.2.1, s00_ps.2.2⟩) gX8_init_X8_begin rfl rfl hy_X8_begin ⟨Nat.le_of_ble_eq_true rfl, Nat.le_of_ble_eq_true rfl⟩ ⟨rfl, rfl⟩ (Nat.le_of_ble_eq_true rfl) ⟨Nat.le_of_ble_eq_true rfl, Nat.le_of_ble_eq_true rfl⟩ (by omega) (ce8 rfl) rfl rfl dX8_init_248 rfl (fun h248 q248 => ?_)
  refine wp_return dX8_init_251 rfl rfl (Nat.le_refl _) (Nat.le_refl _) ?_
  refine ⟨rfl, rfl, q248.1, fun a ha => ?_⟩
  rw [q248.2 a ha, e9 a (by omega), hup_cell (by omega), hup_cell (by omega), hup_cell (by omega), hup_cell (by omega), hup_cell (by omega), hup_cell (by omega), hup_cell (by omega), hup_cell (by omega), hup_cell (by omega), g0 a (by omega) (by omega) (by omega)]
end VC4

