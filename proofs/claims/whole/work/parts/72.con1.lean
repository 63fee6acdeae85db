abbrev rmX0_init : Room := { frames := 2, cells := 7, slots := 60, locals := 32 }
theorem hy_X0_init : yX0_init.cls = RX0 ∧ yX0_init.cls ≠ "java/lang/invoke/MethodHandle" ∧ yX0_init.cls ≠ "java/lang/invoke/VarHandle" ∧ (parseMethodDescriptor yX0_init.desc).map (fun d => d.parameters.length) = some 0 := by decide +kernel
theorem hz_X0_init : yX0_init.cls ≠ "java/lang/invoke/MethodHandle" ∧ yX0_init.cls ≠ "java/lang/invoke/VarHandle" ∧ (parseMethodDescriptor yX0_init.desc).map (fun d => d.parameters.length) = some 0 := by decide +kernel
abbrev rmX1_init : Room := { frames := 1, cells := 1, slots := 6, locals := 12 }
theorem hy_X1_init : yX1_init.cls = RX1 ∧ yX1_init.cls ≠ "java/lang/invoke/MethodHandle" ∧ yX1_init.cls ≠ "java/lang/invoke/VarHandle" ∧ (parseMethodDescriptor yX1_init.desc).map (fun d => d.parameters.length) = some 0 := by decide +kernel
theorem hz_X1_init : yX1_init.cls ≠ "java/lang/invoke/MethodHandle" ∧ yX1_init.cls ≠ "java/lang/invoke/VarHandle" ∧ (parseMethodDescriptor yX1_init.desc).map (fun d => d.parameters.length) = some 0 := by decide +kernel
abbrev rmX3_init : Room := { frames := 2, cells := 8, slots := 268, locals := 32 }
theorem hy_X3_init : yX3_init.cls = RX3 ∧ yX3_init.cls ≠ "java/lang/invoke/MethodHandle" ∧ yX3_init.cls ≠ "java/lang/invoke/VarHandle" ∧ (parseMethodDescriptor yX3_init.desc).map (fun d => d.parameters.length) = some 0 := by decide +kernel
theorem hz_X3_init : yX3_init.cls ≠ "java/lang/invoke/MethodHandle" ∧ yX3_init.cls ≠ "java/lang/invoke/VarHandle" ∧ (parseMethodDescriptor yX3_init.desc).map (fun d => d.parameters.length) = some 0 := by decide +kernel
abbrev rmX4_init : Room := { frames := 1, cells := 2, slots := 8, locals := 12 }
theorem hy_X4_init : yX4_init.cls = RX4 ∧ yX4_init.cls ≠ "java/lang/invoke/MethodHandle" ∧ yX4_init.cls ≠ "java/lang/invoke/VarHandle" ∧ (parseMethodDescriptor yX4_init.desc).map (fun d => d.parameters.length) = some 0 := by decide +kernel
theorem hz_X4_init : yX4_init.cls ≠ "java/lang/invoke/MethodHandle" ∧ yX4_init.cls ≠ "java/lang/invoke/VarHandle" ∧ (parseMethodDescriptor yX4_init.desc).map (fun d => d.parameters.length) = some 0 := by decide +kernel
abbrev rmX5_init : Room := { frames := 1, cells := 4, slots := 51, locals := 12 }
theorem hy_X5_init : yX5_init.cls = RX5 ∧ yX5_init.cls ≠ "java/lang/invoke/MethodHandle" ∧ yX5_init.cls ≠ "java/lang/invoke/VarHandle" ∧ (parseMethodDescriptor yX5_init.desc).map (fun d => d.parameters.length) = some 0 := by decide +kernel
theorem hz_X5_init : yX5_init.cls ≠ "java/lang/invoke/MethodHandle" ∧ yX5_init.cls ≠ "java/lang/invoke/VarHandle" ∧ (parseMethodDescriptor yX5_init.desc).map (fun d => d.parameters.length) = some 0 := by decide +kernel
abbrev rmX6_init : Room := { frames := 1, cells := 3, slots := 48, locals := 12 }
theorem hy_X6_init : yX6_init.cls = RX6 ∧ yX6_init.cls ≠ "java/lang/invoke/MethodHandle" ∧ yX6_init.cls ≠ "java/lang/invoke/VarHandle" ∧ (parseMethodDescriptor yX6_init.desc).map (fun d => d.parameters.length) = some 0 := by decide +kernel
theorem hz_X6_init : yX6_init.cls ≠ "java/lang/invoke/MethodHandle" ∧ yX6_init.cls ≠ "java/lang/invoke/VarHandle" ∧ (parseMethodDescriptor yX6_init.desc).map (fun d => d.parameters.length) = some 0 := by decide +kernel
theorem me_X5_init_0 : Cond.methodLink RX5 3 Lib.objectInit ∈ wsX5_init := by decide +kernel
theorem me_X5_init_1 : Cond.instanceMethod Lib.objectInit ∈ wsX5_init := by decide +kernel
theorem me_X5_init_2 : Cond.code Lib.objectInit ⟨#[0xb1]⟩ 1 none ∈ wsX5_init := by decide +kernel
theorem me_X5_init_3 : Cond.arrayClass (newarray.typeOf .int) ∈ wsX5_init := by decide +kernel
theorem me_X5_init_4 : Cond.fieldLink RX5 9 "DrawnByLost$Story" "marks" "[I" ∈ wsX5_init := by decide +kernel
theorem me_X5_init_5 : Cond.fieldLink RX5 15 "DrawnByLost$Story" "kinds" "[I" ∈ wsX5_init := by decide +kernel
theorem me_X5_init_6 : Cond.fieldLink RX5 18 "DrawnByLost$Story" "sizes" "[I" ∈ wsX5_init := by decide +kernel
theorem me_X5_init_7 : Cond.fieldLink RX5 21 "DrawnByLost$Story" "told" "[I" ∈ wsX5_init := by decide +kernel
theorem me_X1_init_0 : Cond.methodLink RX1 3 Lib.objectInit ∈ wsX1_init := by decide +kernel
theorem me_X1_init_1 : Cond.instanceMethod Lib.objectInit ∈ wsX1_init := by decide +kernel
theorem me_X1_init_2 : Cond.code Lib.objectInit ⟨#[0xb1]⟩ 1 none ∈ wsX1_init := by decide +kernel
theorem me_X1_init_3 : Cond.arrayClass (newarray.typeOf .int) ∈ wsX1_init := by decide +kernel
theorem me_X1_init_4 : Cond.fieldLink RX1 9 "DrawnByLost$Land" "hunger" "[I" ∈ wsX1_init := by decide +kernel
theorem me_X4_init_0 : Cond.methodLink RX4 3 Lib.objectInit ∈ wsX4_init := by decide +kernel
theorem me_X4_init_1 : Cond.instanceMethod Lib.objectInit ∈ wsX4_init := by decide +kernel
theorem me_X4_init_2 : Cond.code Lib.objectInit ⟨#[0xb1]⟩ 1 none ∈ wsX4_init := by decide +kernel
theorem me_X4_init_3 : Cond.arrayClass (newarray.typeOf .int) ∈ wsX4_init := by decide +kernel
theorem me_X4_init_4 : Cond.fieldLink RX4 9 "DrawnByLost$Speller" "word" "[I" ∈ wsX4_init := by decide +kernel
theorem me_X4_init_5 : Cond.fieldLink RX4 15 "DrawnByLost$Speller" "ends" "[I" ∈ wsX4_init := by decide +kernel
theorem me_X6_init_0 : Cond.methodLink RX6 3 Lib.objectInit ∈ wsX6_init := by decide +kernel
theorem me_X6_init_1 : Cond.instanceMethod Lib.objectInit ∈ wsX6_init := by decide +kernel
theorem me_X6_init_2 : Cond.code Lib.objectInit ⟨#[0xb1]⟩ 1 none ∈ wsX6_init := by decide +kernel
theorem me_X6_init_3 : Cond.arrayClass (newarray.typeOf .int) ∈ wsX6_init := by decide +kernel
theorem me_X6_init_4 : Cond.fieldLink RX6 9 "DrawnByLost$Traveller" "left" "[I" ∈ wsX6_init := by decide +kernel
theorem me_X6_init_5 : Cond.fieldLink RX6 15 "DrawnByLost$Traveller" "odds" "[I" ∈ wsX6_init := by decide +kernel
theorem me_X6_init_6 : Cond.fieldLink RX6 18 "DrawnByLost$Traveller" "later" "[I" ∈ wsX6_init := by decide +kernel
theorem me_X3_init_0 : Cond.methodLink RX3 3 Lib.objectInit ∈ wsX3_init := by decide +kernel
theorem me_X3_init_1 : Cond.instanceMethod Lib.objectInit ∈ wsX3_init := by decide +kernel
theorem me_X3_init_2 : Cond.code Lib.objectInit ⟨#[0xb1]⟩ 1 none ∈ wsX3_init := by decide +kernel
theorem me_X3_init_3 : Cond.arrayClass (newarray.typeOf .char) ∈ wsX3_init := by decide +kernel
theorem me_X3_init_4 : Cond.fieldLink RX3 9 "DrawnByLost$Reader" "letters" "[C" ∈ wsX3_init := by decide +kernel
theorem me_X3_init_5 : Cond.classLink RX3 15 RX1 ∈ wsX3_init := by decide +kernel
theorem me_X3_init_6 : Cond.instantiable RX1 6 ∈ wsX3_init := by decide +kernel
theorem me_X3_init_7 : Cond.initialized RX1 ∈ wsX3_init := by decide +kernel
theorem me_X3_init_8 : Cond.instanceMethod yX1_init ∈ wsX3_init := by decide +kernel
theorem me_X3_init_9 : Cond.initialized yX1_init.cls ∈ wsX3_init := by decide +kernel
theorem me_X3_init_10 : Cond.fieldLink RX3 18 "DrawnByLost$Reader" "land" "LDrawnByLost$Land;" ∈ wsX3_init := by decide +kernel
theorem me_X3_init_11 : Cond.classLink RX3 22 RX5 ∈ wsX3_init := by decide +kernel
theorem me_X3_init_12 : Cond.instantiable RX5 5 ∈ wsX3_init := by decide +kernel
theorem me_X3_init_13 : Cond.initialized RX5 ∈ wsX3_init := by decide +kernel
theorem me_X3_init_14 : Cond.instanceMethod yX5_init ∈ wsX3_init := by decide +kernel
theorem me_X3_init_15 : Cond.initialized yX5_init.cls ∈ wsX3_init := by decide +kernel
theorem me_X3_init_16 : Cond.fieldLink RX3 25 "DrawnByLost$Reader" "story" "LDrawnByLost$Story;" ∈ wsX3_init := by decide +kernel
theorem me_X0_init_0 : Cond.methodLink RX0 3 Lib.objectInit ∈ wsX0_init := by decide +kernel
theorem me_X0_init_1 : Cond.instanceMethod Lib.objectInit ∈ wsX0_init := by decide +kernel
theorem me_X0_init_2 : Cond.code Lib.objectInit ⟨#[0xb1]⟩ 1 none ∈ wsX0_init := by decide +kernel
theorem me_X0_init_3 : Cond.classLink RX0 9 RX1 ∈ wsX0_init := by decide +kernel
theorem me_X0_init_4 : Cond.instantiable RX1 6 ∈ wsX0_init := by decide +kernel
theorem me_X0_init_5 : Cond.initialized RX1 ∈ wsX0_init := by decide +kernel
theorem me_X0_init_6 : Cond.instanceMethod yX1_init ∈ wsX0_init := by decide +kernel
theorem me_X0_init_7 : Cond.initialized yX1_init.cls ∈ wsX0_init := by decide +kernel
theorem me_X0_init_8 : Cond.fieldLink RX0 12 "DrawnByLost$Finder" "land" "LDrawnByLost$Land;" ∈ wsX0_init := by decide +kernel
theorem me_X0_init_9 : Cond.arrayClass (newarray.typeOf .int) ∈ wsX0_init := by decide +kernel
theorem me_X0_init_10 : Cond.fieldLink RX0 18 "DrawnByLost$Finder" "spots" "[I" ∈ wsX0_init := by decide +kernel
theorem me_X0_init_11 : Cond.fieldLink RX0 22 "DrawnByLost$Finder" "ahead" "[I" ∈ wsX0_init := by decide +kernel
theorem me_X0_init_12 : Cond.fieldLink RX0 25 "DrawnByLost$Finder" "behind" "[I" ∈ wsX0_init := by decide +kernel
theorem me_X0_init_13 : Cond.fieldLink RX0 28 "DrawnByLost$Finder" "tally" "[I" ∈ wsX0_init := by decide +kernel
theorem me_X0_init_14 : Cond.fieldLink RX0 31 "DrawnByLost$Finder" "later" "[I" ∈ wsX0_init := by decide +kernel
theorem ic_X5_init_5 : ∀ w ∈ wsX50, w ∈ wsX5_init := by decide +kernel
theorem ic_X1_init_1 : ∀ w ∈ wsX10, w ∈ wsX1_init := by decide +kernel
theorem ic_X4_init_4 : ∀ w ∈ wsX40, w ∈ wsX4_init := by decide +kernel
theorem ic_X6_init_6 : ∀ w ∈ wsX60, w ∈ wsX6_init := by decide +kernel
theorem ic_X3_init_3 : ∀ w ∈ wsX30, w ∈ wsX3_init := by decide +kernel
theorem ic_X3_init_1 : ∀ w ∈ wsX10, w ∈ wsX3_init := by decide +kernel
theorem ic_X3_init_5 : ∀ w ∈ wsX50, w ∈ wsX3_init := by decide +kernel
theorem ic_X0_init_1 : ∀ w ∈ wsX10, w ∈ wsX0_init := by decide +kernel
theorem ic_X0_init_0 : ∀ w ∈ wsX00, w ∈ wsX0_init := by decide +kernel
-- the small objects made
section VC1
variable {l : Launch} {D : va_G} {cy : CY} {B n : Nat} {h : Hp} {lg : Lg} {π : Nat → Nat}
abbrev RL3 : Type := List (Nat × Nat × Nat)
/-- references as a list of cell, field, what's there -/
def rL (L : RL3) : Rf := fun a j => (L.find? (fun q => q.1 == a && q.2.1 == j)).map (fun q => q.2.2)
theorem rup_rL {L : RL3} {k i j : Nat} : rup (rL L) k i (some j) = rL ((k, i, j) :: L) := by
  funext a b
  unfold rup rL
  by_cases e : a = k ∧ b = i
  · rw [if_pos e, List.find?_cons_of_pos (by simp [e.1, e.2])]
    rfl
  · rw [if_neg e, List.find?_cons_of_neg (by simp only [Bool.and_eq_true, beq_iff_eq]; exact fun z => e ⟨z.1.symm, z.2.symm⟩)]
theorem rL_none {L : RL3} {n : Nat} (hL : (L.all (fun q => q.1 != n)) = true) : ∀ j, rL L n j = none := by
  intro j
  unfold rL
  rw [List.find?_eq_none.mpr]
  · rfl
  · intro q hq
    have z := List.all_eq_true.mp hL q hq
    simp only [bne_iff_ne, ne_eq] at z
    simp only [Bool.and_eq_true, beq_iff_eq]
    exact fun y => z y.1
def Z0 : Hp := fun _ _ => 0
def sL (k : Nat) (L : RL3) : RL3 := (k, 3, k + 4) :: (k, 2, k + 3) :: (k, 1, k + 2) :: (k, 0, k + 1) :: L
theorem c_X5_init {k : Nat} {L : RL3} (hs : St k) : Ctr l D cy B yX5_init wsX5_init rmX5_init 4 51 (k + 1) (rL L) Z0 lg [.ref (B + k)] (qN (rL (sL k L)) Z0 lg) := by
  refine Ctr.ofi (cc := cX5_init) (nL := 1) (own := RX5) (rt := none) (ls := [some (.ref (B + k))]) (by decide) rfl rfl rfl (Nat.le_of_ble_eq_true rfl) rfl ?_
  refine wp_aload_n_0 (pc' := 1) dX5_init_0 rfl ?_
  refine wp_objInit (pc' := 4) me_X5_init_0 me_X5_init_1 me_X5_init_2 (Nat.le_of_ble_eq_true rfl) (Nat.le_of_ble_eq_true rfl) dX5_init_1 rfl ?_
  refine wp_aload_n_0 (pc' := 5) dX5_init_4 rfl ?_
  refine wp_bipush (pc' := 7) (16) dX5_init_5 rfl (by decide) ?_
  refine wp_newai (pc' := 9) (N := 16) hs.K1 hs.ln1 (fun _ => rfl) me_X5_init_3 (by decide) (by decide) (by decide) ⟨Nat.le_of_ble_eq_true rfl, Nat.le_of_ble_eq_true rfl⟩ dX5_init_7 rfl ?_
  refine wp_put_5_0 (pc' := 12) (by omega) hs.K me_X5_init_4 ic_X5_init_5 (fun _ _ _ q => q) rfl dX5_init_9 rfl ?_
  rw [rup_rL]
  refine wp_aload_n_0 (pc' := 13) dX5_init_12 rfl ?_
  refine wp_iconst (pc' := 14) (5) dX5_init_13 rfl (by decide) ?_
  refine wp_newai (pc' := 16) (N := 5) hs.K2 hs.ln2 (fun _ => rfl) me_X5_init_3 (by decide) (by decide) (by decide) ⟨Nat.le_of_ble_eq_true rfl, Nat.le_of_ble_eq_true rfl⟩ dX5_init_14 rfl ?_
  refine wp_put_5_1 (pc' := 19) (by omega) hs.K me_X5_init_5 ic_X5_init_5 (fun _ _ _ q => q) rfl dX5_init_16 rfl ?_
  rw [rup_rL]
  refine wp_aload_n_0 (pc' := 20) dX5_init_19 rfl ?_
  refine wp_iconst (pc' := 21) (5) dX5_init_20 rfl (by decide) ?_
  refine wp_newai (pc' := 23) (N := 5) hs.K3 hs.ln3 (fun _ => rfl) me_X5_init_3 (by decide) (by decide) (by decide) ⟨Nat.le_of_ble_eq_true rfl, Nat.le_of_ble_eq_true rfl⟩ dX5_init_21 rfl ?_
  refine wp_put_5_2 (pc' := 26) (by omega) hs.K me_X5_init_6 ic_X5_init_5 (fun _ _ _ q => q) rfl dX5_init_23 rfl ?_
  rw [rup_rL]
  refine wp_aload_n_0 (pc' := 27) dX5_init_26 rfl ?_
  refine wp_bipush (pc' := 29) (25) dX5_init_27 rfl (by decide) ?_
  refine wp_newai (pc' := 31) (N := 25) hs.K4 hs.ln4 (fun _ => rfl) me_X5_init_3 (by decide) (by decide) (by decide) ⟨Nat.le_of_ble_eq_true rfl, Nat.le_of_ble_eq_true rfl⟩ dX5_init_29 rfl ?_
  refine wp_put_5_3 (pc' := 34) (by omega) hs.K me_X5_init_7 ic_X5_init_5 (fun _ _ _ q => q) rfl dX5_init_31 rfl ?_
  rw [rup_rL]
  refine wp_return dX5_init_34 rfl rfl (Nat.le_refl _) (Nat.le_refl _) ?_
  exact ⟨rfl, rfl, rfl, rfl⟩
theorem c_X1_init {k : Nat} {L : RL3} (hs : La k) : Ctr l D cy B yX1_init wsX1_init rmX1_init 1 6 (k + 1) (rL L) Z0 lg [.ref (B + k)] (qN (rL ((k, 5, k + 1) :: L)) Z0 lg) := by
  refine Ctr.ofi (cc := cX1_init) (nL := 1) (own := RX1) (rt := none) (ls := [some (.ref (B + k))]) (by decide) rfl rfl rfl (Nat.le_of_ble_eq_true rfl) rfl ?_
  refine wp_aload_n_0 (pc' := 1) dX1_init_0 rfl ?_
  refine wp_objInit (pc' := 4) me_X1_init_0 me_X1_init_1 me_X1_init_2 (Nat.le_of_ble_eq_true rfl) (Nat.le_of_ble_eq_true rfl) dX1_init_1 rfl ?_
  refine wp_aload_n_0 (pc' := 5) dX1_init_4 rfl ?_
  refine wp_bipush (pc' := 7) (6) dX1_init_5 rfl (by decide) ?_
  refine wp_newai (pc' := 9) (N := 6) hs.K1 hs.ln1 (fun _ => rfl) me_X1_init_3 (by decide) (by decide) (by decide) ⟨Nat.le_of_ble_eq_true rfl, Nat.le_of_ble_eq_true rfl⟩ dX1_init_7 rfl ?_
  refine wp_put_1_5 (pc' := 12) (by omega) hs.K me_X1_init_4 ic_X1_init_1 (fun _ _ _ q => q) rfl dX1_init_9 rfl ?_
  rw [rup_rL]
  refine wp_return dX1_init_12 rfl rfl (Nat.le_refl _) (Nat.le_refl _) ?_
  exact ⟨rfl, rfl, rfl, rfl⟩
theorem c_X4_init {L : RL3} : Ctr l D cy B yX4_init wsX4_init rmX4_init 2 8 87 (rL L) Z0 lg [.ref (B + 86)] (qN (rL ((86, 1, 88) :: (86, 0, 87) :: L)) Z0 lg) := by
  refine Ctr.ofi (cc := cX4_init) (nL := 1) (own := RX4) (rt := none) (ls := [some (.ref (B + 86))]) (by decide) rfl rfl rfl (Nat.le_of_ble_eq_true rfl) rfl ?_
  refine wp_aload_n_0 (pc' := 1) dX4_init_0 rfl ?_
  refine wp_objInit (pc' := 4) me_X4_init_0 me_X4_init_1 me_X4_init_2 (Nat.le_of_ble_eq_true rfl) (Nat.le_of_ble_eq_true rfl) dX4_init_1 rfl ?_
  refine wp_aload_n_0 (pc' := 5) dX4_init_4 rfl ?_
  refine wp_iconst (pc' := 6) (4) dX4_init_5 rfl (by decide) ?_
  refine wp_newai (pc' := 8) (N := 4) rfl rfl (fun _ => rfl) me_X4_init_3 (by decide) (by decide) (by decide) ⟨Nat.le_of_ble_eq_true rfl, Nat.le_of_ble_eq_true rfl⟩ dX4_init_6 rfl ?_
  refine wp_put_4_0 (pc' := 11) (by omega) rfl me_X4_init_4 ic_X4_init_4 (fun _ _ _ q => q) rfl dX4_init_8 rfl ?_
  rw [rup_rL]
  refine wp_aload_n_0 (pc' := 12) dX4_init_11 rfl ?_
  refine wp_iconst (pc' := 13) (4) dX4_init_12 rfl (by decide) ?_
  refine wp_newai (pc' := 15) (N := 4) rfl rfl (fun _ => rfl) me_X4_init_3 (by decide) (by decide) (by decide) ⟨Nat.le_of_ble_eq_true rfl, Nat.le_of_ble_eq_true rfl⟩ dX4_init_13 rfl ?_
  refine wp_put_4_1 (pc' := 18) (by omega) rfl me_X4_init_5 ic_X4_init_4 (fun _ _ _ q => q) rfl dX4_init_15 rfl ?_
  rw [rup_rL]
  refine wp_return dX4_init_18 rfl rfl (Nat.le_refl _) (Nat.le_refl _) ?_
  exact ⟨rfl, rfl, rfl, rfl⟩
theorem c_X6_init {L : RL3} : Ctr l D cy B yX6_init wsX6_init rmX6_init 3 48 83 (rL L) Z0 lg [.ref (B + 82)] (qN (rL ((82, 2, 85) :: (82, 1, 84) :: (82, 0, 83) :: L)) Z0 lg) := by
  refine Ctr.ofi (cc := cX6_init) (nL := 1) (own := RX6) (rt := none) (ls := [some (.ref (B + 82))]) (by decide) rfl rfl rfl (Nat.le_of_ble_eq_true rfl) rfl ?_
  refine wp_aload_n_0 (pc' := 1) dX6_init_0 rfl ?_
  refine wp_objInit (pc' := 4) me_X6_init_0 me_X6_init_1 me_X6_init_2 (Nat.le_of_ble_eq_true rfl) (Nat.le_of_ble_eq_true rfl) dX6_init_1 rfl ?_
  refine wp_aload_n_0 (pc' := 5) dX6_init_4 rfl ?_
  refine wp_bipush (pc' := 7) (16) dX6_init_5 rfl (by decide) ?_
  refine wp_newai (pc' := 9) (N := 16) rfl rfl (fun _ => rfl) me_X6_init_3 (by decide) (by decide) (by decide) ⟨Nat.le_of_ble_eq_true rfl, Nat.le_of_ble_eq_true rfl⟩ dX6_init_7 rfl ?_
  refine wp_put_6_0 (pc' := 12) (by omega) rfl me_X6_init_4 ic_X6_init_6 (fun _ _ _ q => q) rfl dX6_init_9 rfl ?_
  rw [rup_rL]
  refine wp_aload_n_0 (pc' := 13) dX6_init_12 rfl ?_
  refine wp_bipush (pc' := 15) (16) dX6_init_13 rfl (by decide) ?_
  refine wp_newai (pc' := 17) (N := 16) rfl rfl (fun _ => rfl) me_X6_init_3 (by decide) (by decide) (by decide) ⟨Nat.le_of_ble_eq_true rfl, Nat.le_of_ble_eq_true rfl⟩ dX6_init_15 rfl ?_
  refine wp_put_6_1 (pc' := 20) (by omega) rfl me_X6_init_5 ic_X6_init_6 (fun _ _ _ q => q) rfl dX6_init_17 rfl ?_
  rw [rup_rL]
  refine wp_aload_n_0 (pc' := 21) dX6_init_20 rfl ?_
  refine wp_bipush (pc' := 23) (16) dX6_init_21 rfl (by decide) ?_
  refine wp_newai (pc' := 25) (N := 16) rfl rfl (fun _ => rfl) me_X6_init_3 (by decide) (by decide) (by decide) ⟨Nat.le_of_ble_eq_true rfl, Nat.le_of_ble_eq_true rfl⟩ dX6_init_23 rfl ?_
  refine wp_put_6_2 (pc' := 28) (by omega) rfl me_X6_init_6 ic_X6_init_6 (fun _ _ _ q => q) rfl dX6_init_25 rfl ?_
  rw [rup_rL]
  refine wp_return dX6_init_28 rfl rfl (Nat.le_refl _) (Nat.le_refl _) ?_
  exact ⟨rfl, rfl, rfl, rfl⟩
def cL3 : RL3 := (1, 7, 5) :: sL 5 ((1, 6, 3) :: (3, 5, 4) :: (1, 0, 2) :: [])
theorem c_X3_init : Ctr l D cy B yX3_init wsX3_init rmX3_init 8 268 2 (rL []) Z0 lg [.ref (B + 1)] (qN (rL cL3) Z0 lg) := by
  refine Ctr.ofi (cc := cX3_init) (nL := 1) (own := RX3) (rt := none) (ls := [some (.ref (B + 1))]) (by decide) rfl rfl rfl (Nat.le_of_ble_eq_true rfl) rfl ?_
  refine wp_aload_n_0 (pc' := 1) dX3_init_0 rfl ?_
  refine wp_objInit (pc' := 4) me_X3_init_0 me_X3_init_1 me_X3_init_2 (Nat.le_of_ble_eq_true rfl) (Nat.le_of_ble_eq_true rfl) dX3_init_1 rfl ?_
  refine wp_aload_n_0 (pc' := 5) dX3_init_4 rfl ?_
  refine wp_sipush (pc' := 8) (200) dX3_init_5 rfl (by decide) ?_
  refine wp_newac (pc' := 10) (N := 200) rfl rfl (fun _ => rfl) me_X3_init_3 (by decide) (by decide) (by decide) ⟨Nat.le_of_ble_eq_true rfl, Nat.le_of_ble_eq_true rfl⟩ dX3_init_8 rfl ?_
  refine wp_put_3_0 (pc' := 13) (by omega) rfl me_X3_init_4 ic_X3_init_3 (fun _ _ _ q => q) rfl dX3_init_10 rfl ?_
  rw [rup_rL]
  refine wp_aload_n_0 (pc' := 14) dX3_init_13 rfl ?_
  refine wp_new_1 (pc' := 17) ic_X3_init_1 me_X3_init_5 me_X3_init_6 me_X3_init_7 rfl (fun _ => rfl) (rL_none rfl) ⟨Nat.le_of_ble_eq_true rfl, Nat.le_of_ble_eq_true rfl⟩ dX3_init_14 rfl ?_
  refine wp_dup (pc' := 18) dX3_init_17 rfl rfl ?_
  refine wp_callINn (pc' := 21) (c_X1_init la3) gX3_init_X1_init_n17 rfl rfl me_X3_init_9 (by decide +kernel) me_X3_init_8 rfl hz_X1_init ⟨Nat.le_of_ble_eq_true rfl, Nat.le_of_ble_eq_true rfl⟩ ⟨rfl, rfl⟩ (Nat.le_of_ble_eq_true rfl) ⟨Nat.le_of_ble_eq_true rfl, Nat.le_of_ble_eq_true rfl⟩ rfl dX3_init_18 rfl ?_
  refine wp_put_3_6 (pc' := 24) (by omega) rfl me_X3_init_10 ic_X3_init_3 (fun _ _ _ q => q) rfl dX3_init_21 rfl ?_
  rw [rup_rL]
  refine wp_aload_n_0 (pc' := 25) dX3_init_24 rfl ?_
  refine wp_new_5 (pc' := 28) ic_X3_init_5 me_X3_init_11 me_X3_init_12 me_X3_init_13 rfl (fun _ => rfl) (rL_none rfl) ⟨Nat.le_of_ble_eq_true rfl, Nat.le_of_ble_eq_true rfl⟩ dX3_init_25 rfl ?_
  refine wp_dup (pc' := 29) dX3_init_28 rfl rfl ?_
  refine wp_callINn (pc' := 32) (c_X5_init st5) gX3_init_X5_init_n24 rfl rfl me_X3_init_15 (by decide +kernel) me_X3_init_14 rfl hz_X5_init ⟨Nat.le_of_ble_eq_true rfl, Nat.le_of_ble_eq_true rfl⟩ ⟨rfl, rfl⟩ (Nat.le_of_ble_eq_true rfl) ⟨Nat.le_of_ble_eq_true rfl, Nat.le_of_ble_eq_true rfl⟩ rfl dX3_init_29 rfl ?_
  refine wp_put_3_7 (pc' := 35) (by omega) rfl me_X3_init_16 ic_X3_init_3 (fun _ _ _ q => q) rfl dX3_init_32 rfl ?_
  rw [rup_rL]
  refine wp_return dX3_init_35 rfl rfl (Nat.le_refl _) (Nat.le_refl _) ?_
  exact ⟨rfl, rfl, rfl, rfl⟩
def cL0 : RL3 := (10, 5, 17) :: (10, 4, 16) :: (10, 3, 15) :: (10, 2, 14) :: (10, 1, 13) :: (10, 0, 11) :: (11, 5, 12) :: (0, 0, 1) :: cL3
theorem c_X0_init : Ctr l D cy B yX0_init wsX0_init rmX0_init 7 60 11 (rL ((0, 0, 1) :: cL3)) Z0 lg [.ref (B + 10)] (qN (rL cL0) Z0 lg) := by
  refine Ctr.ofi (cc := cX0_init) (nL := 1) (own := RX0) (rt := none) (ls := [some (.ref (B + 10))]) (by decide) rfl rfl rfl (Nat.le_of_ble_eq_true rfl) rfl ?_
  refine wp_aload_n_0 (pc' := 1) dX0_init_0 rfl ?_
  refine wp_objInit (pc' := 4) me_X0_init_0 me_X0_init_1 me_X0_init_2 (Nat.le_of_ble_eq_true rfl) (Nat.le_of_ble_eq_true rfl) dX0_init_1 rfl ?_
  refine wp_aload_n_0 (pc' := 5) dX0_init_4 rfl ?_
  refine wp_new_1 (pc' := 8) ic_X0_init_1 me_X0_init_3 me_X0_init_4 me_X0_init_5 rfl (fun _ => rfl) (rL_none rfl) ⟨Nat.le_of_ble_eq_true rfl, Nat.le_of_ble_eq_true rfl⟩ dX0_init_5 rfl ?_
  refine wp_dup (pc' := 9) dX0_init_8 rfl rfl ?_
  refine wp_callINn (pc' := 12) (c_X1_init la11) gX0_init_X1_init_n11 rfl rfl me_X0_init_7 (by decide +kernel) me_X0_init_6 rfl hz_X1_init ⟨Nat.le_of_ble_eq_true rfl, Nat.le_of_ble_eq_true rfl⟩ ⟨rfl, rfl⟩ (Nat.le_of_ble_eq_true rfl) ⟨Nat.le_of_ble_eq_true rfl, Nat.le_of_ble_eq_true rfl⟩ rfl dX0_init_9 rfl ?_
  refine wp_put_0_0 (pc' := 15) (by omega) rfl me_X0_init_8 ic_X0_init_0 (fun _ _ _ q => q) rfl dX0_init_12 rfl ?_
  rw [rup_rL]
  refine wp_aload_n_0 (pc' := 16) dX0_init_15 rfl ?_
  refine wp_bipush (pc' := 18) (6) dX0_init_16 rfl (by decide) ?_
  refine wp_newai (pc' := 20) (N := 6) rfl rfl (fun _ => rfl) me_X0_init_9 (by decide) (by decide) (by decide) ⟨Nat.le_of_ble_eq_true rfl, Nat.le_of_ble_eq_true rfl⟩ dX0_init_18 rfl ?_
  refine wp_put_0_1 (pc' := 23) (by omega) rfl me_X0_init_10 ic_X0_init_0 (fun _ _ _ q => q) rfl dX0_init_20 rfl ?_
  rw [rup_rL]
  refine wp_aload_n_0 (pc' := 24) dX0_init_23 rfl ?_
  refine wp_iconst (pc' := 25) (5) dX0_init_24 rfl (by decide) ?_
  refine wp_newai (pc' := 27) (N := 5) rfl rfl (fun _ => rfl) me_X0_init_9 (by decide) (by decide) (by decide) ⟨Nat.le_of_ble_eq_true rfl, Nat.le_of_ble_eq_true rfl⟩ dX0_init_25 rfl ?_
  refine wp_put_0_2 (pc' := 30) (by omega) rfl me_X0_init_11 ic_X0_init_0 (fun _ _ _ q => q) rfl dX0_init_27 rfl ?_
  rw [rup_rL]
  refine wp_aload_n_0 (pc' := 31) dX0_init_30 rfl ?_
  refine wp_iconst (pc' := 32) (5) dX0_init_31 rfl (by decide) ?_
  refine wp_newai (pc' := 34) (N := 5) rfl rfl (fun _ => rfl) me_X0_init_9 (by decide) (by decide) (by decide) ⟨Nat.le_of_ble_eq_true rfl, Nat.le_of_ble_eq_true rfl⟩ dX0_init_32 rfl ?_
  refine wp_put_0_3 (pc' := 37) (by omega) rfl me_X0_init_12 ic_X0_init_0 (fun _ _ _ q => q) rfl dX0_init_34 rfl ?_
  rw [rup_rL]
  refine wp_aload_n_0 (pc' := 38) dX0_init_37 rfl ?_
  refine wp_bipush (pc' := 40) (16) dX0_init_38 rfl (by decide) ?_
  refine wp_newai (pc' := 42) (N := 16) rfl rfl (fun _ => rfl) me_X0_init_9 (by decide) (by decide) (by decide) ⟨Nat.le_of_ble_eq_true rfl, Nat.le_of_ble_eq_true rfl⟩ dX0_init_40 rfl ?_
  refine wp_put_0_4 (pc' := 45) (by omega) rfl me_X0_init_13 ic_X0_init_0 (fun _ _ _ q => q) rfl dX0_init_42 rfl ?_
  rw [rup_rL]
  refine wp_aload_n_0 (pc' := 46) dX0_init_45 rfl ?_
  refine wp_bipush (pc' := 48) (16) dX0_init_46 rfl (by decide) ?_
  refine wp_newai (pc' := 50) (N := 16) rfl rfl (fun _ => rfl) me_X0_init_9 (by decide) (by decide) (by decide) ⟨Nat.le_of_ble_eq_true rfl, Nat.le_of_ble_eq_true rfl⟩ dX0_init_48 rfl ?_
  refine wp_put_0_5 (pc' := 53) (by omega) rfl me_X0_init_14 ic_X0_init_0 (fun _ _ _ q => q) rfl dX0_init_50 rfl ?_
  rw [rup_rL]
  refine wp_return dX0_init_53 rfl rfl (Nat.le_refl _) (Nat.le_refl _) ?_
  exact ⟨rfl, rfl, rfl, rfl⟩
end VC1

