abbrev rmX7_init : Room := { frames := 6, cells := 88, slots := 1089, locals := 151 }
theorem hy_X7_init : yX7_init.cls = RX7 ∧ yX7_init.cls ≠ "java/lang/invoke/MethodHandle" ∧ yX7_init.cls ≠ "java/lang/invoke/VarHandle" ∧ (parseMethodDescriptor yX7_init.desc).map (fun d => d.parameters.length) = some 0 := by decide +kernel
theorem hz_X7_init : yX7_init.cls ≠ "java/lang/invoke/MethodHandle" ∧ yX7_init.cls ≠ "java/lang/invoke/VarHandle" ∧ (parseMethodDescriptor yX7_init.desc).map (fun d => d.parameters.length) = some 0 := by decide +kernel
theorem me_X7_init_0 : Cond.fieldLink RX7 10 "DrawnByLost" "reader" "LDrawnByLost$Reader;" ∈ wsX7_init := by decide +kernel
theorem me_X7_init_1 : Cond.methodLink RX7 1 Lib.objectInit ∈ wsX7_init := by decide +kernel
theorem me_X7_init_2 : Cond.instanceMethod Lib.objectInit ∈ wsX7_init := by decide +kernel
theorem me_X7_init_3 : Cond.code Lib.objectInit ⟨#[0xb1]⟩ 1 none ∈ wsX7_init := by decide +kernel
theorem me_X7_init_4 : Cond.classLink RX7 7 RX3 ∈ wsX7_init := by decide +kernel
theorem me_X7_init_5 : Cond.instantiable RX3 8 ∈ wsX7_init := by decide +kernel
theorem me_X7_init_6 : Cond.initialized RX3 ∈ wsX7_init := by decide +kernel
theorem me_X7_init_7 : Cond.instanceMethod yX3_init ∈ wsX7_init := by decide +kernel
theorem me_X7_init_8 : Cond.initialized yX3_init.cls ∈ wsX7_init := by decide +kernel
theorem me_X7_init_9 : Cond.classLink RX7 16 RX0 ∈ wsX7_init := by decide +kernel
theorem me_X7_init_10 : Cond.instantiable RX0 6 ∈ wsX7_init := by decide +kernel
theorem me_X7_init_11 : Cond.initialized RX0 ∈ wsX7_init := by decide +kernel
theorem me_X7_init_12 : Cond.instanceMethod yX0_init ∈ wsX7_init := by decide +kernel
theorem me_X7_init_13 : Cond.initialized yX0_init.cls ∈ wsX7_init := by decide +kernel
theorem me_X7_init_14 : Cond.fieldLink RX7 19 "DrawnByLost" "finder" "LDrawnByLost$Finder;" ∈ wsX7_init := by decide +kernel
theorem me_X7_init_15 : Cond.fieldLink RX7 23 "DrawnByLost$Finder" "land" "LDrawnByLost$Land;" ∈ wsX7_init := by decide +kernel
theorem me_X7_init_16 : Cond.fieldLink RX7 27 "DrawnByLost" "land" "LDrawnByLost$Land;" ∈ wsX7_init := by decide +kernel
theorem me_X7_init_17 : Cond.classLink RX7 28 RX5 ∈ wsX7_init := by decide +kernel
theorem me_X7_init_18 : Cond.instantiable RX5 5 ∈ wsX7_init := by decide +kernel
theorem me_X7_init_19 : Cond.initialized RX5 ∈ wsX7_init := by decide +kernel
theorem me_X7_init_20 : Cond.instanceMethod yX5_init ∈ wsX7_init := by decide +kernel
theorem me_X7_init_21 : Cond.initialized yX5_init.cls ∈ wsX7_init := by decide +kernel
theorem me_X7_init_22 : Cond.fieldLink RX7 31 "DrawnByLost" "now" "LDrawnByLost$Story;" ∈ wsX7_init := by decide +kernel
theorem me_X7_init_23 : Cond.fieldLink RX7 35 "DrawnByLost" "trial" "LDrawnByLost$Story;" ∈ wsX7_init := by decide +kernel
theorem me_X7_init_24 : Cond.classLink RX7 38 RX2 ∈ wsX7_init := by decide +kernel
theorem me_X7_init_25 : Cond.instantiable RX2 2 ∈ wsX7_init := by decide +kernel
theorem me_X7_init_26 : Cond.initialized RX2 ∈ wsX7_init := by decide +kernel
theorem me_X7_init_27 : Cond.initialized yX2_init.cls ∈ wsX7_init := by decide +kernel
theorem me_X7_init_28 : Cond.methodLink RX7 40 yX2_init ∈ wsX7_init := by decide +kernel
theorem me_X7_init_29 : Cond.instanceMethod yX2_init ∈ wsX7_init := by decide +kernel
theorem me_X7_init_30 : Cond.fieldLink RX7 43 "DrawnByLost" "done" "LDrawnByLost$Pile;" ∈ wsX7_init := by decide +kernel
theorem me_X7_init_31 : Cond.fieldLink RX7 47 "DrawnByLost" "kept" "LDrawnByLost$Pile;" ∈ wsX7_init := by decide +kernel
theorem me_X7_init_32 : Cond.classLink RX7 50 RX6 ∈ wsX7_init := by decide +kernel
theorem me_X7_init_33 : Cond.instantiable RX6 3 ∈ wsX7_init := by decide +kernel
theorem me_X7_init_34 : Cond.initialized RX6 ∈ wsX7_init := by decide +kernel
theorem me_X7_init_35 : Cond.instanceMethod yX6_init ∈ wsX7_init := by decide +kernel
theorem me_X7_init_36 : Cond.initialized yX6_init.cls ∈ wsX7_init := by decide +kernel
theorem me_X7_init_37 : Cond.fieldLink RX7 53 "DrawnByLost" "traveller" "LDrawnByLost$Traveller;" ∈ wsX7_init := by decide +kernel
theorem me_X7_init_38 : Cond.classLink RX7 57 RX4 ∈ wsX7_init := by decide +kernel
theorem me_X7_init_39 : Cond.instantiable RX4 2 ∈ wsX7_init := by decide +kernel
theorem me_X7_init_40 : Cond.initialized RX4 ∈ wsX7_init := by decide +kernel
theorem me_X7_init_41 : Cond.instanceMethod yX4_init ∈ wsX7_init := by decide +kernel
theorem me_X7_init_42 : Cond.initialized yX4_init.cls ∈ wsX7_init := by decide +kernel
theorem me_X7_init_43 : Cond.fieldLink RX7 60 "DrawnByLost" "speller" "LDrawnByLost$Speller;" ∈ wsX7_init := by decide +kernel
theorem ic_X7_init_7 : ∀ w ∈ wsX70, w ∈ wsX7_init := by decide +kernel
theorem ic_X7_init_3 : ∀ w ∈ wsX30, w ∈ wsX7_init := by decide +kernel
theorem ic_X7_init_0 : ∀ w ∈ wsX00, w ∈ wsX7_init := by decide +kernel
theorem ic_X7_init_5 : ∀ w ∈ wsX50, w ∈ wsX7_init := by decide +kernel
theorem ic_X7_init_2 : ∀ w ∈ wsX20, w ∈ wsX7_init := by decide +kernel
theorem ic_X7_init_6 : ∀ w ∈ wsX60, w ∈ wsX7_init := by decide +kernel
theorem ic_X7_init_4 : ∀ w ∈ wsX40, w ∈ wsX7_init := by decide +kernel
-- the class made: its parts, the text taken over
section VC3
variable {l : Launch} {D : va_G} {cy : CY} {B n : Nat} {h : Hp} {lg : Lg} {π : Nat → Nat}
def p0 : Nat → Nat := fun i => 30 + 5 * i
def cLF : RL3 := (0, 8, 86) :: (86, 1, 88) :: (86, 0, 87) :: (0, 7, 82) :: (82, 2, 85) :: (82, 1, 84) :: (82, 0, 83) :: (0, 6, 70) :: pS 71 2 ((70, 0, 71) :: (0, 5, 28) :: pS 29 8 ((28, 0, 29) :: (0, 4, 23) :: sL 23 ((0, 3, 18) :: sL 18 ((0, 2, 11) :: (0, 1, 10) :: cL0))))
theorem cLF_a : ∀ a, a < 89 → ∀ j, j < 9 → rf0 p0 a j = rL cLF a j := by decide +kernel
theorem cLF_b : ∀ q ∈ cLF, q.2.1 < 9 := by decide +kernel
theorem rfL_b : ∀ a, a < 89 → (rfL.getD a []).length ≤ 9 := by decide +kernel
theorem cLF_rf : ∀ a, a < 89 → rf0 p0 a = rL cLF a := by
  intro a ha
  funext j
  by_cases hj : j < 9
  · exact cLF_a a ha j hj
  · have e1 : rL cLF a j = none := by
      unfold rL
      rw [List.find?_eq_none.mpr]
      · rfl
      · intro q hq
        have z := cLF_b q hq
        simp only [Bool.and_eq_true, beq_iff_eq]
        omega
    rw [e1]
    unfold rf0
    by_cases e : a = 29
    · rw [if_pos e, if_neg (by omega)]
    · rw [if_neg e, List.getD_eq_getElem?_getD, List.getElem?_eq_none (by have := rfL_b a ha; omega)]
      rfl
def s00 : PSt := (prs 75 tX 200 0 ps0).2
theorem s00_ok : (prs 75 tX 200 0 ps0).1 = -4 ∧ s00.1 = 3 ∧ s00.2.1 = 4 ∧ s00.2.2.2.2 16 = 5 := by decide +kernel
theorem lay0 : layO 75 tX = some s00 := by
  have z : s00.2.2.2.2 16 ≠ 0 := by rw [s00_ok.2.2.2]; decide
  unfold layO
  exact if_pos ⟨s00_ok.1, z⟩
/-- what a new delta holds -/
def S0 : Sg := ((0, fun _ => 0), (s00.1, s00.2.1), (s00.2.2.2.1, s00.2.2.2.2), (0, fun _ _ => 0), (0, fun _ _ => 0))
def P7 (lg : Lg) : PO := fun v r1 h1 lg1 => v = none ∧ r1 = rf0 p0 ∧ lg1 = lg ∧ XI h1 p0 S0 ∧ ∀ a, 89 ≤ a → h1 a = Z0 a
theorem p0_in : ∀ i, i < 8 → p0 i ∈ piL := by decide
theorem S0_XI {h1 : Hp} (e : h1 28 1 = 0) (e2 : h1 70 1 = 0) (ps : PSok s00) (q : ShL h1 11 s00.1 s00.2.1) (u : HU h1 s00.2.2.2.1) (xr : XR h1 18 s00.2.2.2.2) : XI (hup h1 1 1 0) p0 S0 := by
  refine ⟨⟨hup_at _ _ _ _, by show 0 ≤ 200; omega, fun i hi => absurd hi (Nat.not_lt_zero i)⟩, q.of_eq (hup_cell (by decide)), u.of_eq (hup_cell (by decide)), ps.2.1, xr.congr (fun a h1 h2 => hup_cell (by omega)), ⟨by rw [hup_cell (by decide)]; exact e, by show 0 ≤ 8; omega, p0_in, fun i j _ _ z => by unfold p0 at z; omega, fun i hi => absurd hi (Nat.not_lt_zero i)⟩, ⟨by rw [hup_cell (by decide)]; exact e2, by show 0 ≤ 2; omega, fun i hi => absurd hi (Nat.not_lt_zero i)⟩⟩
theorem lp_X7_init (K : ∀ h' a1, TX h' 75 tX → (∀ a, a ≠ 1 → a ≠ 2 → h' a = Z0 a) → WP l D cy B cX7_init 2 RX7 wsX7_init rmX7_init none (QE0 D cy B (1 + 88) 88 1089 (P7 lg)) EXi 89 (rf0 p0) h' lg 88 1089 137 [some (.ref (B + 0)), a1] []) :
    ∀ d i : Nat, i + d = 75 → ∀ h', TX h' i tX → (∀ a, a ≠ 1 → a ≠ 2 → h' a = Z0 a) → WP l D cy B cX7_init 2 RX7 wsX7_init rmX7_init none (QE0 D cy B (1 + 88) 88 1089 (P7 lg)) EXi 89 (rf0 p0) h' lg 88 1089 108 [some (.ref (B + 0)), some (.int (nI i))] [] := by
  intro d
  induction d with
  | zero =>
    intro i hi h' T e0
    have : i = 75 := by omega
    subst this
    refine wp_iload_n_1 (pc' := 109) dX7_init_108 rfl ?_
    refine wp_ldcS (pc' := 111) rfl dX7_init_109 rfl ?_
    refine wp_callVS (pc' := 114) (mc := 0) (ms := 0) c_J0_length gX7_init_J0_length_8abf5 rfl rfl hy_J0_length_8abf5 ⟨Nat.le_of_ble_eq_true rfl, Nat.le_of_ble_eq_true rfl⟩ ⟨rfl, rfl⟩ (Nat.le_of_ble_eq_true rfl) ⟨Nat.le_of_ble_eq_true rfl, Nat.le_of_ble_eq_true rfl⟩ rfl dX7_init_111 rfl ?_
    refine wp_icmp_ge (pc' := 117) (tgt := 137) dX7_init_114 rfl rfl (fun c114 => ?_) (fun c114 => by exfalso; exact c114 (by decide))
    exact K h' _ T e0
  | succ d ih =>
    intro i hi h' T e0
    have hi75 : i < 75 := by omega
    have b := (tX_all i hi75).2
    refine wp_iload_n_1 (pc' := 109) dX7_init_108 rfl ?_
    refine wp_ldcS (pc' := 111) rfl dX7_init_109 rfl ?_
    refine wp_callVS (pc' := 114) (mc := 0) (ms := 0) c_J0_length gX7_init_J0_length_8abf5 rfl rfl hy_J0_length_8abf5 ⟨Nat.le_of_ble_eq_true rfl, Nat.le_of_ble_eq_true rfl⟩ ⟨rfl, rfl⟩ (Nat.le_of_ble_eq_true rfl) ⟨Nat.le_of_ble_eq_true rfl, Nat.le_of_ble_eq_true rfl⟩ rfl dX7_init_111 rfl ?_
    refine wp_icmp_ge (pc' := 117) (tgt := 137) dX7_init_114 rfl rfl (fun c114 => by exfalso; exact nI_ge (a := i) (b := 75) (by omega) (by omega) c114) (fun c114 => ?_)
    refine wp_aload_n_0 (pc' := 118) dX7_init_117 rfl ?_
    refine wp_get_7_0 (pc' := 121) (by omega) rfl rfl me_X7_init_0 ic_X7_init_7 dX7_init_118 rfl ?_
    refine wp_ldcS (pc' := 123) rfl dX7_init_121 rfl ?_
    refine wp_iload_n_1 (pc' := 124) dX7_init_123 rfl ?_
    refine wp_callVS (pc' := 127) (mc := 0) (ms := 0) (c_J0_charAt hi75) gX7_init_J0_charAt_5068e rfl rfl hy_J0_charAt_5068e ⟨Nat.le_of_ble_eq_true rfl, Nat.le_of_ble_eq_true rfl⟩ ⟨rfl, rfl⟩ (Nat.le_of_ble_eq_true rfl) ⟨Nat.le_of_ble_eq_true rfl, Nat.le_of_ble_eq_true rfl⟩ rfl dX7_init_124 rfl ?_
    refine wp_callVq (pc' := 130) (c_X3_put (c := tX i) (Nat.le_refl 89) T (by omega)) gX7_init_X3_put rfl rfl hy_X3_put ⟨Nat.le_of_ble_eq_true rfl, Nat.le_of_ble_eq_true rfl⟩ ⟨rfl, rfl⟩ (Nat.le_of_ble_eq_true rfl) ⟨Nat.le_of_ble_eq_true rfl, Nat.le_of_ble_eq_true rfl⟩ (by omega) (ce3 rfl) rfl rfl dX7_init_127 rfl (fun x127 h127 q127 => ?_)
    rw [if_pos (by omega)] at q127
    obtain ⟨g0, g1⟩ := q127
    subst g1
    refine wp_pop (pc' := 131) dX7_init_130 rfl rfl ?_
    refine wp_iinc_1 (pc' := 134) (v := nI (i + 1)) dX7_init_131 (by first | rfl | exact nI_1 _) (by decide) rfl rfl ?_
    refine wp_goto (tgt := 108) dX7_init_134 rfl ?_
    refine ih (i + 1) (by omega) _ ⟨hup_at _ _ _ _, by omega, fun j hj => ?_⟩ (fun a h1 h2 => by rw [hup_cell h1, hup_cell h2]; exact e0 a h1 h2)
    rw [hup_cell (by decide)]
    by_cases e : j = i
    · subst e; rw [hup_at]; exact ⟨rfl, b⟩
    · rw [hup_off e]; exact T.2.2 j (by omega)
set_option maxHeartbeats 8000000 in
theorem c_X7_init : Ctr l D cy B yX7_init wsX7_init rmX7_init 88 1089 (0 + 1) (rL []) Z0 lg [.ref (B + 0)] (P7 lg) := by
  refine Ctr.ofi (cc := cX7_init) (nL := 2) (own := RX7) (rt := none) (ls := [some (.ref (B + 0)), none]) (by decide) rfl rfl rfl (Nat.le_of_ble_eq_true rfl) rfl ?_
  refine wp_aload_n_0 (pc' := 1) dX7_init_0 rfl ?_
  refine wp_objInit (pc' := 4) me_X7_init_1 me_X7_init_2 me_X7_init_3 (Nat.le_of_ble_eq_true rfl) (Nat.le_of_ble_eq_true rfl) dX7_init_1 rfl ?_
  refine wp_aload_n_0 (pc' := 5) dX7_init_4 rfl ?_
  refine wp_new_3 (pc' := 8) ic_X7_init_3 me_X7_init_4 me_X7_init_5 me_X7_init_6 rfl (fun _ => rfl) (rL_none rfl) ⟨Nat.le_of_ble_eq_true rfl, Nat.le_of_ble_eq_true rfl⟩ dX7_init_5 rfl ?_
  refine wp_dup (pc' := 9) dX7_init_8 rfl rfl ?_
  refine wp_callINn (pc' := 12) c_X3_init gX7_init_X3_init_n9 rfl rfl me_X7_init_8 (by decide +kernel) me_X7_init_7 rfl hz_X3_init ⟨Nat.le_of_ble_eq_true rfl, Nat.le_of_ble_eq_true rfl⟩ ⟨rfl, rfl⟩ (Nat.le_of_ble_eq_true rfl) ⟨Nat.le_of_ble_eq_true rfl, Nat.le_of_ble_eq_true rfl⟩ rfl dX7_init_9 rfl ?_
  refine wp_put_7_0 (pc' := 15) (by omega) rfl me_X7_init_0 ic_X7_init_7 (fun _ _ _ q => q) rfl dX7_init_12 rfl ?_
  rw [rup_rL]
  refine wp_aload_n_0 (pc' := 16) dX7_init_15 rfl ?_
  refine wp_new_0 (pc' := 19) ic_X7_init_0 me_X7_init_9 me_X7_init_10 me_X7_init_11 rfl (fun _ => rfl) (rL_none rfl) ⟨Nat.le_of_ble_eq_true rfl, Nat.le_of_ble_eq_true rfl⟩ dX7_init_16 rfl ?_
  refine wp_dup (pc' := 20) dX7_init_19 rfl rfl ?_
  refine wp_callINn (pc' := 23) c_X0_init gX7_init_X0_init_n18 rfl rfl me_X7_init_13 (by decide +kernel) me_X7_init_12 rfl hz_X0_init ⟨Nat.le_of_ble_eq_true rfl, Nat.le_of_ble_eq_true rfl⟩ ⟨rfl, rfl⟩ (Nat.le_of_ble_eq_true rfl) ⟨Nat.le_of_ble_eq_true rfl, Nat.le_of_ble_eq_true rfl⟩ rfl dX7_init_20 rfl ?_
  refine wp_put_7_1 (pc' := 26) (by omega) rfl me_X7_init_14 ic_X7_init_7 (fun _ _ _ q => q) rfl dX7_init_23 rfl ?_
  rw [rup_rL]
  refine wp_aload_n_0 (pc' := 27) dX7_init_26 rfl ?_
  refine wp_aload_n_0 (pc' := 28) dX7_init_27 rfl ?_
  refine wp_get_7_1 (pc' := 31) (j := 10) (by omega) rfl rfl me_X7_init_14 ic_X7_init_7 dX7_init_28 rfl ?_
  refine wp_get_0_0 (pc' := 34) (j := 11) (by omega) rfl rfl me_X7_init_15 ic_X7_init_0 dX7_init_31 rfl ?_
  refine wp_put_7_2 (pc' := 37) (by omega) rfl me_X7_init_16 ic_X7_init_7 (fun _ _ _ q => q) rfl dX7_init_34 rfl ?_
  rw [rup_rL]
  refine wp_aload_n_0 (pc' := 38) dX7_init_37 rfl ?_
  refine wp_new_5 (pc' := 41) ic_X7_init_5 me_X7_init_17 me_X7_init_18 me_X7_init_19 rfl (fun _ => rfl) (rL_none rfl) ⟨Nat.le_of_ble_eq_true rfl, Nat.le_of_ble_eq_true rfl⟩ dX7_init_38 rfl ?_
  refine wp_dup (pc' := 42) dX7_init_41 rfl rfl ?_
  refine wp_callINn (pc' := 45) (c_X5_init st18) gX7_init_X5_init_n30 rfl rfl me_X7_init_21 (by decide +kernel) me_X7_init_20 rfl hz_X5_init ⟨Nat.le_of_ble_eq_true rfl, Nat.le_of_ble_eq_true rfl⟩ ⟨rfl, rfl⟩ (Nat.le_of_ble_eq_true rfl) ⟨Nat.le_of_ble_eq_true rfl, Nat.le_of_ble_eq_true rfl⟩ rfl dX7_init_42 rfl ?_
  refine wp_put_7_3 (pc' := 48) (by omega) rfl me_X7_init_22 ic_X7_init_7 (fun _ _ _ q => q) rfl dX7_init_45 rfl ?_
  rw [rup_rL]
  refine wp_aload_n_0 (pc' := 49) dX7_init_48 rfl ?_
  refine wp_new_5 (pc' := 52) ic_X7_init_5 me_X7_init_17 me_X7_init_18 me_X7_init_19 rfl (fun _ => rfl) (rL_none rfl) ⟨Nat.le_of_ble_eq_true rfl, Nat.le_of_ble_eq_true rfl⟩ dX7_init_49 rfl ?_
  refine wp_dup (pc' := 53) dX7_init_52 rfl rfl ?_
  refine wp_callINn (pc' := 56) (c_X5_init st23) gX7_init_X5_init_n30 rfl rfl me_X7_init_21 (by decide +kernel) me_X7_init_20 rfl hz_X5_init ⟨Nat.le_of_ble_eq_true rfl, Nat.le_of_ble_eq_true rfl⟩ ⟨rfl, rfl⟩ (Nat.le_of_ble_eq_true rfl) ⟨Nat.le_of_ble_eq_true rfl, Nat.le_of_ble_eq_true rfl⟩ rfl dX7_init_53 rfl ?_
  refine wp_put_7_4 (pc' := 59) (by omega) rfl me_X7_init_23 ic_X7_init_7 (fun _ _ _ q => q) rfl dX7_init_56 rfl ?_
  rw [rup_rL]
  refine wp_aload_n_0 (pc' := 60) dX7_init_59 rfl ?_
  refine wp_new_2 (pc' := 63) ic_X7_init_2 me_X7_init_24 me_X7_init_25 me_X7_init_26 rfl (fun _ => rfl) (rL_none rfl) ⟨Nat.le_of_ble_eq_true rfl, Nat.le_of_ble_eq_true rfl⟩ dX7_init_60 rfl ?_
  refine wp_dup (pc' := 64) dX7_init_63 rfl rfl ?_
  refine wp_bipush (pc' := 66) (8) dX7_init_64 rfl (by decide) ?_
  refine wp_callIn (pc' := 69) (c_X2_init28 rfl) gX7_init_X2_init rfl rfl me_X7_init_27 me_X7_init_28 me_X7_init_29 rfl hz_X2_init ⟨Nat.le_of_ble_eq_true rfl, Nat.le_of_ble_eq_true rfl⟩ ⟨rfl, rfl⟩ (Nat.le_of_ble_eq_true rfl) ⟨Nat.le_of_ble_eq_true rfl, Nat.le_of_ble_eq_true rfl⟩ rfl dX7_init_66 rfl ?_
  refine wp_put_7_5 (pc' := 72) (by omega) rfl me_X7_init_30 ic_X7_init_7 (fun _ _ _ q => q) rfl dX7_init_69 rfl ?_
  rw [rup_rL]
  refine wp_aload_n_0 (pc' := 73) dX7_init_72 rfl ?_
  refine wp_new_2 (pc' := 76) ic_X7_init_2 me_X7_init_24 me_X7_init_25 me_X7_init_26 rfl (fun _ => rfl) (rL_none rfl) ⟨Nat.le_of_ble_eq_true rfl, Nat.le_of_ble_eq_true rfl⟩ dX7_init_73 rfl ?_
  refine wp_dup (pc' := 77) dX7_init_76 rfl rfl ?_
  refine wp_iconst (pc' := 78) (2) dX7_init_77 rfl (by decide) ?_
  refine wp_callIn (pc' := 81) (c_X2_init70 rfl) gX7_init_X2_init rfl rfl me_X7_init_27 me_X7_init_28 me_X7_init_29 rfl hz_X2_init ⟨Nat.le_of_ble_eq_true rfl, Nat.le_of_ble_eq_true rfl⟩ ⟨rfl, rfl⟩ (Nat.le_of_ble_eq_true rfl) ⟨Nat.le_of_ble_eq_true rfl, Nat.le_of_ble_eq_true rfl⟩ rfl dX7_init_78 rfl ?_
  refine wp_put_7_6 (pc' := 84) (by omega) rfl me_X7_init_31 ic_X7_init_7 (fun _ _ _ q => q) rfl dX7_init_81 rfl ?_
  rw [rup_rL]
  refine wp_aload_n_0 (pc' := 85) dX7_init_84 rfl ?_
  refine wp_new_6 (pc' := 88) ic_X7_init_6 me_X7_init_32 me_X7_init_33 me_X7_init_34 rfl (fun _ => rfl) (rL_none rfl) ⟨Nat.le_of_ble_eq_true rfl, Nat.le_of_ble_eq_true rfl⟩ dX7_init_85 rfl ?_
  refine wp_dup (pc' := 89) dX7_init_88 rfl rfl ?_
  refine wp_callINn (pc' := 92) c_X6_init gX7_init_X6_init_n52 rfl rfl me_X7_init_36 (by decide +kernel) me_X7_init_35 rfl hz_X6_init ⟨Nat.le_of_ble_eq_true rfl, Nat.le_of_ble_eq_true rfl⟩ ⟨rfl, rfl⟩ (Nat.le_of_ble_eq_true rfl) ⟨Nat.le_of_ble_eq_true rfl, Nat.le_of_ble_eq_true rfl⟩ rfl dX7_init_89 rfl ?_
  refine wp_put_7_7 (pc' := 95) (by omega) rfl me_X7_init_37 ic_X7_init_7 (fun _ _ _ q => q) rfl dX7_init_92 rfl ?_
  rw [rup_rL]
  refine wp_aload_n_0 (pc' := 96) dX7_init_95 rfl ?_
  refine wp_new_4 (pc' := 99) ic_X7_init_4 me_X7_init_38 me_X7_init_39 me_X7_init_40 rfl (fun _ => rfl) (rL_none rfl) ⟨Nat.le_of_ble_eq_true rfl, Nat.le_of_ble_eq_true rfl⟩ dX7_init_96 rfl ?_
  refine wp_dup (pc' := 100) dX7_init_99 rfl rfl ?_
  refine wp_callINn (pc' := 103) c_X4_init gX7_init_X4_init_n59 rfl rfl me_X7_init_42 (by decide +kernel) me_X7_init_41 rfl hz_X4_init ⟨Nat.le_of_ble_eq_true rfl, Nat.le_of_ble_eq_true rfl⟩ ⟨rfl, rfl⟩ (Nat.le_of_ble_eq_true rfl) ⟨Nat.le_of_ble_eq_true rfl, Nat.le_of_ble_eq_true rfl⟩ rfl dX7_init_100 rfl ?_
  refine wp_put_7_8 (pc' := 106) (by omega) rfl me_X7_init_43 ic_X7_init_7 (fun _ _ _ q => q) rfl dX7_init_103 rfl ?_
  rw [rup_rL]
  refine wp_iconst (pc' := 107) (0) dX7_init_106 rfl (by decide) ?_
  refine wp_istore_n_1 (pc' := 108) dX7_init_107 (by decide) rfl rfl ?_
  refine WP.same (r' := rf0 p0) (h' := Z0) (lg' := lg) (fun a ha => cLF_rf a ha) (fun _ _ => rfl) (Or.inl rfl) ?_
  refine lp_X7_init (fun h' a1 T e0 => ?_) 75 0 (by omega) Z0 ⟨rfl, by omega, fun i hi => absurd hi (Nat.not_lt_zero i)⟩ (fun _ _ _ => rfl)
  refine wp_aload_n_0 (pc' := 138) dX7_init_137 rfl ?_
  refine wp_callVq (pc' := 141) (c_X7_takeOver (Nat.le_refl 89) T) gX7_init_X7_takeOver rfl rfl hy_X7_takeOver ⟨Nat.le_of_ble_eq_true rfl, Nat.le_of_ble_eq_true rfl⟩ ⟨rfl, rfl⟩ (Nat.le_of_ble_eq_true rfl) ⟨Nat.le_of_ble_eq_true rfl, Nat.le_of_ble_eq_true rfl⟩ (by omega) (ce7 rfl) rfl rfl dX7_init_138 rfl (fun x138 h138 q138 => ?_)
  obtain ⟨g0, g1, g2⟩ := q138
  rw [lay0] at g2
  obtain ⟨g3, g4, g5, g6, g7⟩ := g2
  refine wp_pop (pc' := 142) dX7_init_141 rfl rfl ?_
  refine wp_aload_n_0 (pc' := 143) dX7_init_142 rfl ?_
  refine wp_get_7_0 (pc' := 146) (by omega) rfl rfl me_X7_init_0 ic_X7_init_7 dX7_init_143 rfl ?_
  refine wp_callVv (pc' := 149) (c_X3_clear (Nat.le_refl 89)) gX7_init_X3_clear rfl rfl hy_X3_clear ⟨Nat.le_of_ble_eq_true rfl, Nat.le_of_ble_eq_true rfl⟩ ⟨rfl, rfl⟩ (Nat.le_of_ble_eq_true rfl) ⟨Nat.le_of_ble_eq_true rfl, Nat.le_of_ble_eq_true rfl⟩ (by omega) (ce3 rfl) rfl rfl dX7_init_146 rfl (fun h146 q146 => ?_)
  subst q146
  refine wp_return dX7_init_149 rfl rfl (Nat.le_refl _) (Nat.le_refl _) ?_
  exact ⟨rfl, rfl, rfl, S0_XI (by rw [g1 28 (by omega)]; exact congrFun (e0 28 (by decide) (by decide)) 1) (by rw [g1 70 (by omega)]; exact congrFun (e0 70 (by decide) (by decide)) 1) g4 g5 g6 g7, fun a ha => by rw [hup_cell (by omega), g1 a (by omega)]; exact e0 a (by omega) (by omega)⟩
end VC3

