abbrev rmX2_init : Room := { frames := 2, cells := 41, slots := 456, locals := 32 }
theorem hy_X2_init : yX2_init.cls = RX2 ∧ yX2_init.cls ≠ "java/lang/invoke/MethodHandle" ∧ yX2_init.cls ≠ "java/lang/invoke/VarHandle" ∧ (parseMethodDescriptor yX2_init.desc).map (fun d => d.parameters.length) = some 1 := by decide +kernel
theorem hz_X2_init : yX2_init.cls ≠ "java/lang/invoke/MethodHandle" ∧ yX2_init.cls ≠ "java/lang/invoke/VarHandle" ∧ (parseMethodDescriptor yX2_init.desc).map (fun d => d.parameters.length) = some 1 := by decide +kernel
theorem me_X2_init_0 : Cond.methodLink RX2 1 Lib.objectInit ∈ wsX2_init := by decide +kernel
theorem me_X2_init_1 : Cond.instanceMethod Lib.objectInit ∈ wsX2_init := by decide +kernel
theorem me_X2_init_2 : Cond.code Lib.objectInit ⟨#[0xb1]⟩ 1 none ∈ wsX2_init := by decide +kernel
theorem me_X2_init_3 : Cond.methodLink RX2 7 Lib.Math.max.name ∈ wsX2_init := by decide +kernel
theorem me_X2_init_4 : Cond.static Lib.Math.max.name ∈ wsX2_init := by decide +kernel
theorem me_X2_init_5 : Cond.initialized "java/lang/Math" ∈ wsX2_init := by decide +kernel
theorem me_X2_init_6 : Cond.code Lib.Math.max.name Lib.Math.max.code 2 (some .int) ∈ wsX2_init := by decide +kernel
theorem me_X2_init_7 : Cond.classLink RX2 13 RX5 ∈ wsX2_init := by decide +kernel
theorem me_X2_init_8 : Cond.fieldLink RX2 15 "DrawnByLost$Pile" "stories" "[LDrawnByLost$Story;" ∈ wsX2_init := by decide +kernel
theorem me_X2_init_9 : Cond.instantiable RX5 5 ∈ wsX2_init := by decide +kernel
theorem me_X2_init_10 : Cond.initialized RX5 ∈ wsX2_init := by decide +kernel
theorem me_X2_init_11 : Cond.instanceMethod yX5_init ∈ wsX2_init := by decide +kernel
theorem me_X2_init_12 : Cond.initialized yX5_init.cls ∈ wsX2_init := by decide +kernel
theorem ic_X2_init_2 : ∀ w ∈ wsX20, w ∈ wsX2_init := by decide +kernel
theorem ic_X2_init_5 : ∀ w ∈ wsX50, w ∈ wsX2_init := by decide +kernel
-- the piles made
section VC2
variable {l : Launch} {D : va_G} {cy : CY} {B n : Nat} {h : Hp} {lg : Lg} {π : Nat → Nat}
abbrev rmX2_initB : Room := { rmX2_init with cells := 11, slots := 114 }
def pS (a : Nat) : Nat → RL3 → RL3
  | 0, L => L
  | i + 1, L => (a, i, a + 1 + 5 * i) :: sL (a + 1 + 5 * i) (pS a i L)
theorem all_ne {L : RL3} {a n : Nat} (hL : (L.all (fun q => decide (q.1 < a))) = true) (hn : a ≤ n) : (L.all (fun q => q.1 != n)) = true := by
  rw [List.all_eq_true] at hL ⊢
  intro q hq
  have z := hL q hq
  simp only [decide_eq_true_eq] at z
  simp only [bne_iff_ne, ne_eq]
  omega
theorem c_X2_init28 {L : RL3} (hL : (L.all (fun q => decide (q.1 < 29))) = true) : Ctr l D cy B yX2_init wsX2_init rmX2_init 41 456 29 (rL L) Z0 lg [.ref (B + 28), .int 8] (qN (rL (pS 29 8 ((28, 0, 29) :: L))) Z0 lg) := by
  have nn : ∀ j, 29 ≤ j → (L.all (fun q => q.1 != j)) = true := fun j hj => all_ne hL hj
  refine Ctr.ofi (cc := cX2_init) (nL := 3) (own := RX2) (rt := none) (ls := [some (.ref (B + 28)), some (.int 8), none]) (by decide) rfl rfl rfl (Nat.le_of_ble_eq_true rfl) rfl ?_
  refine wp_aload_n_0 (pc' := 1) dX2_init_0 rfl ?_
  refine wp_objInit (pc' := 4) me_X2_init_0 me_X2_init_1 me_X2_init_2 (Nat.le_of_ble_eq_true rfl) (Nat.le_of_ble_eq_true rfl) dX2_init_1 rfl ?_
  refine wp_aload_n_0 (pc' := 5) dX2_init_4 rfl ?_
  refine wp_iload_n_1 (pc' := 6) dX2_init_5 rfl ?_
  refine wp_iconst (pc' := 7) (1) dX2_init_6 rfl (by decide) ?_
  refine wp_mmax (pc' := 10) me_X2_init_3 me_X2_init_4 me_X2_init_5 me_X2_init_6 (Nat.le_of_ble_eq_true rfl) (Nat.le_of_ble_eq_true rfl) ⟨Nat.le_of_ble_eq_true rfl, Nat.le_of_ble_eq_true rfl⟩ dX2_init_7 rfl ?_
  refine wp_newaq (pc' := 13) rfl rfl (rL_none (nn _ (by omega))) me_X2_init_7 (by decide) (by decide) (by decide) ⟨Nat.le_of_ble_eq_true rfl, Nat.le_of_ble_eq_true rfl⟩ dX2_init_10 rfl ?_
  refine wp_put_2_0 (pc' := 16) (by omega) rfl me_X2_init_8 ic_X2_init_2 (fun _ _ _ q => q) rfl dX2_init_13 rfl ?_
  rw [rup_rL]
  refine wp_iconst (pc' := 17) (0) dX2_init_16 rfl (by decide) ?_
  refine wp_istore_n_2 (pc' := 18) dX2_init_17 (by decide) rfl rfl ?_
  refine wp_iload_n_2 (pc' := 19) dX2_init_18 rfl ?_
  refine wp_aload_n_0 (pc' := 20) dX2_init_19 rfl ?_
  refine wp_get_2_0 (pc' := 23) (j := 29) (by omega) rfl rfl me_X2_init_8 ic_X2_init_2 dX2_init_20 rfl ?_
  refine wp_alenq (pc' := 24) (N := 8) (v := 8) (by omega) rfl rfl (by decide) dX2_init_23 rfl ?_
  refine wp_icmp_ge (pc' := 27) (tgt := 46) dX2_init_24 rfl rfl (fun c24 => by exfalso; exact absurd c24 (by decide)) (fun c24 => ?_)
  refine wp_aload_n_0 (pc' := 28) dX2_init_27 rfl ?_
  refine wp_get_2_0 (pc' := 31) (j := 29) (by omega) rfl rfl me_X2_init_8 ic_X2_init_2 dX2_init_28 rfl ?_
  refine wp_iload_n_2 (pc' := 32) dX2_init_31 rfl ?_
  refine wp_new_5 (pc' := 35) ic_X2_init_5 me_X2_init_7 me_X2_init_9 me_X2_init_10 rfl (fun _ => rfl) (rL_none (by simp only [sL, List.all_cons]; rw [nn]; decide; omega)) ⟨Nat.le_of_ble_eq_true rfl, Nat.le_of_ble_eq_true rfl⟩ dX2_init_32 rfl ?_
  refine wp_dup (pc' := 36) dX2_init_35 rfl rfl ?_
  refine wp_callINn (pc' := 39) (c_X5_init (k := 30) (by unfold St; decide)) gX2_init_X5_init_n21 rfl rfl me_X2_init_12 (by decide +kernel) me_X2_init_11 rfl hz_X5_init ⟨Nat.le_of_ble_eq_true rfl, Nat.le_of_ble_eq_true rfl⟩ ⟨rfl, rfl⟩ (Nat.le_of_ble_eq_true rfl) ⟨Nat.le_of_ble_eq_true rfl, Nat.le_of_ble_eq_true rfl⟩ rfl dX2_init_36 rfl ?_
  refine wp_aast (pc' := 40) (N := 8) (by omega) rfl (by omega) rfl rfl (by first | exact vp_in_nI (by omega) (by omega) | assumption | (unfold vp_in; decide)) dX2_init_39 rfl ?_
  rw [rup_rL]
  refine wp_iinc_2 (pc' := 43) (v := 1) dX2_init_40 (by first | rfl | exact nI_1 _) (by decide) rfl rfl ?_
  refine wp_goto (tgt := 18) dX2_init_43 rfl ?_
  refine wp_iload_n_2 (pc' := 19) dX2_init_18 rfl ?_
  refine wp_aload_n_0 (pc' := 20) dX2_init_19 rfl ?_
  refine wp_get_2_0 (pc' := 23) (j := 29) (by omega) rfl rfl me_X2_init_8 ic_X2_init_2 dX2_init_20 rfl ?_
  refine wp_alenq (pc' := 24) (N := 8) (v := 8) (by omega) rfl rfl (by decide) dX2_init_23 rfl ?_
  refine wp_icmp_ge (pc' := 27) (tgt := 46) dX2_init_24 rfl rfl (fun c24 => by exfalso; exact absurd c24 (by decide)) (fun c24 => ?_)
  refine wp_aload_n_0 (pc' := 28) dX2_init_27 rfl ?_
  refine wp_get_2_0 (pc' := 31) (j := 29) (by omega) rfl rfl me_X2_init_8 ic_X2_init_2 dX2_init_28 rfl ?_
  refine wp_iload_n_2 (pc' := 32) dX2_init_31 rfl ?_
  refine wp_new_5 (pc' := 35) ic_X2_init_5 me_X2_init_7 me_X2_init_9 me_X2_init_10 rfl (fun _ => rfl) (rL_none (by simp only [sL, List.all_cons]; rw [nn]; decide; omega)) ⟨Nat.le_of_ble_eq_true rfl, Nat.le_of_ble_eq_true rfl⟩ dX2_init_32 rfl ?_
  refine wp_dup (pc' := 36) dX2_init_35 rfl rfl ?_
  refine wp_callINn (pc' := 39) (c_X5_init (k := 35) (by unfold St; decide)) gX2_init_X5_init_n21 rfl rfl me_X2_init_12 (by decide +kernel) me_X2_init_11 rfl hz_X5_init ⟨Nat.le_of_ble_eq_true rfl, Nat.le_of_ble_eq_true rfl⟩ ⟨rfl, rfl⟩ (Nat.le_of_ble_eq_true rfl) ⟨Nat.le_of_ble_eq_true rfl, Nat.le_of_ble_eq_true rfl⟩ rfl dX2_init_36 rfl ?_
  refine wp_aast (pc' := 40) (N := 8) (by omega) rfl (by omega) rfl rfl (by first | exact vp_in_nI (by omega) (by omega) | assumption | (unfold vp_in; decide)) dX2_init_39 rfl ?_
  rw [rup_rL]
  refine wp_iinc_2 (pc' := 43) (v := 2) dX2_init_40 (by first | rfl | exact nI_1 _) (by decide) rfl rfl ?_
  refine wp_goto (tgt := 18) dX2_init_43 rfl ?_
  refine wp_iload_n_2 (pc' := 19) dX2_init_18 rfl ?_
  refine wp_aload_n_0 (pc' := 20) dX2_init_19 rfl ?_
  refine wp_get_2_0 (pc' := 23) (j := 29) (by omega) rfl rfl me_X2_init_8 ic_X2_init_2 dX2_init_20 rfl ?_
  refine wp_alenq (pc' := 24) (N := 8) (v := 8) (by omega) rfl rfl (by decide) dX2_init_23 rfl ?_
  refine wp_icmp_ge (pc' := 27) (tgt := 46) dX2_init_24 rfl rfl (fun c24 => by exfalso; exact absurd c24 (by decide)) (fun c24 => ?_)
  refine wp_aload_n_0 (pc' := 28) dX2_init_27 rfl ?_
  refine wp_get_2_0 (pc' := 31) (j := 29) (by omega) rfl rfl me_X2_init_8 ic_X2_init_2 dX2_init_28 rfl ?_
  refine wp_iload_n_2 (pc' := 32) dX2_init_31 rfl ?_
  refine wp_new_5 (pc' := 35) ic_X2_init_5 me_X2_init_7 me_X2_init_9 me_X2_init_10 rfl (fun _ => rfl) (rL_none (by simp only [sL, List.all_cons]; rw [nn]; decide; omega)) ⟨Nat.le_of_ble_eq_true rfl, Nat.le_of_ble_eq_true rfl⟩ dX2_init_32 rfl ?_
  refine wp_dup (pc' := 36) dX2_init_35 rfl rfl ?_
  refine wp_callINn (pc' := 39) (c_X5_init (k := 40) (by unfold St; decide)) gX2_init_X5_init_n21 rfl rfl me_X2_init_12 (by decide +kernel) me_X2_init_11 rfl hz_X5_init ⟨Nat.le_of_ble_eq_true rfl, Nat.le_of_ble_eq_true rfl⟩ ⟨rfl, rfl⟩ (Nat.le_of_ble_eq_true rfl) ⟨Nat.le_of_ble_eq_true rfl, Nat.le_of_ble_eq_true rfl⟩ rfl dX2_init_36 rfl ?_
  refine wp_aast (pc' := 40) (N := 8) (by omega) rfl (by omega) rfl rfl (by first | exact vp_in_nI (by omega) (by omega) | assumption | (unfold vp_in; decide)) dX2_init_39 rfl ?_
  rw [rup_rL]
  refine wp_iinc_2 (pc' := 43) (v := 3) dX2_init_40 (by first | rfl | exact nI_1 _) (by decide) rfl rfl ?_
  refine wp_goto (tgt := 18) dX2_init_43 rfl ?_
  refine wp_iload_n_2 (pc' := 19) dX2_init_18 rfl ?_
  refine wp_aload_n_0 (pc' := 20) dX2_init_19 rfl ?_
  refine wp_get_2_0 (pc' := 23) (j := 29) (by omega) rfl rfl me_X2_init_8 ic_X2_init_2 dX2_init_20 rfl ?_
  refine wp_alenq (pc' := 24) (N := 8) (v := 8) (by omega) rfl rfl (by decide) dX2_init_23 rfl ?_
  refine wp_icmp_ge (pc' := 27) (tgt := 46) dX2_init_24 rfl rfl (fun c24 => by exfalso; exact absurd c24 (by decide)) (fun c24 => ?_)
  refine wp_aload_n_0 (pc' := 28) dX2_init_27 rfl ?_
  refine wp_get_2_0 (pc' := 31) (j := 29) (by omega) rfl rfl me_X2_init_8 ic_X2_init_2 dX2_init_28 rfl ?_
  refine wp_iload_n_2 (pc' := 32) dX2_init_31 rfl ?_
  refine wp_new_5 (pc' := 35) ic_X2_init_5 me_X2_init_7 me_X2_init_9 me_X2_init_10 rfl (fun _ => rfl) (rL_none (by simp only [sL, List.all_cons]; rw [nn]; decide; omega)) ⟨Nat.le_of_ble_eq_true rfl, Nat.le_of_ble_eq_true rfl⟩ dX2_init_32 rfl ?_
  refine wp_dup (pc' := 36) dX2_init_35 rfl rfl ?_
  refine wp_callINn (pc' := 39) (c_X5_init (k := 45) (by unfold St; decide)) gX2_init_X5_init_n21 rfl rfl me_X2_init_12 (by decide +kernel) me_X2_init_11 rfl hz_X5_init ⟨Nat.le_of_ble_eq_true rfl, Nat.le_of_ble_eq_true rfl⟩ ⟨rfl, rfl⟩ (Nat.le_of_ble_eq_true rfl) ⟨Nat.le_of_ble_eq_true rfl, Nat.le_of_ble_eq_true rfl⟩ rfl dX2_init_36 rfl ?_
  refine wp_aast (pc' := 40) (N := 8) (by omega) rfl (by omega) rfl rfl (by first | exact vp_in_nI (by omega) (by omega) | assumption | (unfold vp_in; decide)) dX2_init_39 rfl ?_
  rw [rup_rL]
  refine wp_iinc_2 (pc' := 43) (v := 4) dX2_init_40 (by first | rfl | exact nI_1 _) (by decide) rfl rfl ?_
  refine wp_goto (tgt := 18) dX2_init_43 rfl ?_
  refine wp_iload_n_2 (pc' := 19) dX2_init_18 rfl ?_
  refine wp_aload_n_0 (pc' := 20) dX2_init_19 rfl ?_
  refine wp_get_2_0 (pc' := 23) (j := 29) (by omega) rfl rfl me_X2_init_8 ic_X2_init_2 dX2_init_20 rfl ?_
  refine wp_alenq (pc' := 24) (N := 8) (v := 8) (by omega) rfl rfl (by decide) dX2_init_23 rfl ?_
  refine wp_icmp_ge (pc' := 27) (tgt := 46) dX2_init_24 rfl rfl (fun c24 => by exfalso; exact absurd c24 (by decide)) (fun c24 => ?_)
  refine wp_aload_n_0 (pc' := 28) dX2_init_27 rfl ?_
  refine wp_get_2_0 (pc' := 31) (j := 29) (by omega) rfl rfl me_X2_init_8 ic_X2_init_2 dX2_init_28 rfl ?_
  refine wp_iload_n_2 (pc' := 32) dX2_init_31 rfl ?_
  refine wp_new_5 (pc' := 35) ic_X2_init_5 me_X2_init_7 me_X2_init_9 me_X2_init_10 rfl (fun _ => rfl) (rL_none (by simp only [sL, List.all_cons]; rw [nn]; decide; omega)) ⟨Nat.le_of_ble_eq_true rfl, Nat.le_of_ble_eq_true rfl⟩ dX2_init_32 rfl ?_
  refine wp_dup (pc' := 36) dX2_init_35 rfl rfl ?_
  refine wp_callINn (pc' := 39) (c_X5_init (k := 50) (by unfold St; decide)) gX2_init_X5_init_n21 rfl rfl me_X2_init_12 (by decide +kernel) me_X2_init_11 rfl hz_X5_init ⟨Nat.le_of_ble_eq_true rfl, Nat.le_of_ble_eq_true rfl⟩ ⟨rfl, rfl⟩ (Nat.le_of_ble_eq_true rfl) ⟨Nat.le_of_ble_eq_true rfl, Nat.le_of_ble_eq_true rfl⟩ rfl dX2_init_36 rfl ?_
  refine wp_aast (pc' := 40) (N := 8) (by omega) rfl (by omega) rfl rfl (by first | exact vp_in_nI (by omega) (by omega) | assumption | (unfold vp_in; decide)) dX2_init_39 rfl ?_
  rw [rup_rL]
  refine wp_iinc_2 (pc' := 43) (v := 5) dX2_init_40 (by first | rfl | exact nI_1 _) (by decide) rfl rfl ?_
  refine wp_goto (tgt := 18) dX2_init_43 rfl ?_
  refine wp_iload_n_2 (pc' := 19) dX2_init_18 rfl ?_
  refine wp_aload_n_0 (pc' := 20) dX2_init_19 rfl ?_
  refine wp_get_2_0 (pc' := 23) (j := 29) (by omega) rfl rfl me_X2_init_8 ic_X2_init_2 dX2_init_20 rfl ?_
  refine wp_alenq (pc' := 24) (N := 8) (v := 8) (by omega) rfl rfl (by decide) dX2_init_23 rfl ?_
  refine wp_icmp_ge (pc' := 27) (tgt := 46) dX2_init_24 rfl rfl (fun c24 => by exfalso; exact absurd c24 (by decide)) (fun c24 => ?_)
  refine wp_aload_n_0 (pc' := 28) dX2_init_27 rfl ?_
  refine wp_get_2_0 (pc' := 31) (j := 29) (by omega) rfl rfl me_X2_init_8 ic_X2_init_2 dX2_init_28 rfl ?_
  refine wp_iload_n_2 (pc' := 32) dX2_init_31 rfl ?_
  refine wp_new_5 (pc' := 35) ic_X2_init_5 me_X2_init_7 me_X2_init_9 me_X2_init_10 rfl (fun _ => rfl) (rL_none (by simp only [sL, List.all_cons]; rw [nn]; decide; omega)) ⟨Nat.le_of_ble_eq_true rfl, Nat.le_of_ble_eq_true rfl⟩ dX2_init_32 rfl ?_
  refine wp_dup (pc' := 36) dX2_init_35 rfl rfl ?_
  refine wp_callINn (pc' := 39) (c_X5_init (k := 55) (by unfold St; decide)) gX2_init_X5_init_n21 rfl rfl me_X2_init_12 (by decide +kernel) me_X2_init_11 rfl hz_X5_init ⟨Nat.le_of_ble_eq_true rfl, Nat.le_of_ble_eq_true rfl⟩ ⟨rfl, rfl⟩ (Nat.le_of_ble_eq_true rfl) ⟨Nat.le_of_ble_eq_true rfl, Nat.le_of_ble_eq_true rfl⟩ rfl dX2_init_36 rfl ?_
  refine wp_aast (pc' := 40) (N := 8) (by omega) rfl (by omega) rfl rfl (by first | exact vp_in_nI (by omega) (by omega) | assumption | (unfold vp_in; decide)) dX2_init_39 rfl ?_
  rw [rup_rL]
  refine wp_iinc_2 (pc' := 43) (v := 6) dX2_init_40 (by first | rfl | exact nI_1 _) (by decide) rfl rfl ?_
  refine wp_goto (tgt := 18) dX2_init_43 rfl ?_
  refine wp_iload_n_2 (pc' := 19) dX2_init_18 rfl ?_
  refine wp_aload_n_0 (pc' := 20) dX2_init_19 rfl ?_
  refine wp_get_2_0 (pc' := 23) (j := 29) (by omega) rfl rfl me_X2_init_8 ic_X2_init_2 dX2_init_20 rfl ?_
  refine wp_alenq (pc' := 24) (N := 8) (v := 8) (by omega) rfl rfl (by decide) dX2_init_23 rfl ?_
  refine wp_icmp_ge (pc' := 27) (tgt := 46) dX2_init_24 rfl rfl (fun c24 => by exfalso; exact absurd c24 (by decide)) (fun c24 => ?_)
  refine wp_aload_n_0 (pc' := 28) dX2_init_27 rfl ?_
  refine wp_get_2_0 (pc' := 31) (j := 29) (by omega) rfl rfl me_X2_init_8 ic_X2_init_2 dX2_init_28 rfl ?_
  refine wp_iload_n_2 (pc' := 32) dX2_init_31 rfl ?_
  refine wp_new_5 (pc' := 35) ic_X2_init_5 me_X2_init_7 me_X2_init_9 me_X2_init_10 rfl (fun _ => rfl) (rL_none (by simp only [sL, List.all_cons]; rw [nn]; decide; omega)) ⟨Nat.le_of_ble_eq_true rfl, Nat.le_of_ble_eq_true rfl⟩ dX2_init_32 rfl ?_
  refine wp_dup (pc' := 36) dX2_init_35 rfl rfl ?_
  refine wp_callINn (pc' := 39) (c_X5_init (k := 60) (by unfold St; decide)) gX2_init_X5_init_n21 rfl rfl me_X2_init_12 (by decide +kernel) me_X2_init_11 rfl hz_X5_init ⟨Nat.le_of_ble_eq_true rfl, Nat.le_of_ble_eq_true rfl⟩ ⟨rfl, rfl⟩ (Nat.le_of_ble_eq_true rfl) ⟨Nat.le_of_ble_eq_true rfl, Nat.le_of_ble_eq_true rfl⟩ rfl dX2_init_36 rfl ?_
  refine wp_aast (pc' := 40) (N := 8) (by omega) rfl (by omega) rfl rfl (by first | exact vp_in_nI (by omega) (by omega) | assumption | (unfold vp_in; decide)) dX2_init_39 rfl ?_
  rw [rup_rL]
  refine wp_iinc_2 (pc' := 43) (v := 7) dX2_init_40 (by first | rfl | exact nI_1 _) (by decide) rfl rfl ?_
  refine wp_goto (tgt := 18) dX2_init_43 rfl ?_
  refine wp_iload_n_2 (pc' := 19) dX2_init_18 rfl ?_
  refine wp_aload_n_0 (pc' := 20) dX2_init_19 rfl ?_
  refine wp_get_2_0 (pc' := 23) (j := 29) (by omega) rfl rfl me_X2_init_8 ic_X2_init_2 dX2_init_20 rfl ?_
  refine wp_alenq (pc' := 24) (N := 8) (v := 8) (by omega) rfl rfl (by decide) dX2_init_23 rfl ?_
  refine wp_icmp_ge (pc' := 27) (tgt := 46) dX2_init_24 rfl rfl (fun c24 => by exfalso; exact absurd c24 (by decide)) (fun c24 => ?_)
  refine wp_aload_n_0 (pc' := 28) dX2_init_27 rfl ?_
  refine wp_get_2_0 (pc' := 31) (j := 29) (by omega) rfl rfl me_X2_init_8 ic_X2_init_2 dX2_init_28 rfl ?_
  refine wp_iload_n_2 (pc' := 32) dX2_init_31 rfl ?_
  refine wp_new_5 (pc' := 35) ic_X2_init_5 me_X2_init_7 me_X2_init_9 me_X2_init_10 rfl (fun _ => rfl) (rL_none (by simp only [sL, List.all_cons]; rw [nn]; decide; omega)) ⟨Nat.le_of_ble_eq_true rfl, Nat.le_of_ble_eq_true rfl⟩ dX2_init_32 rfl ?_
  refine wp_dup (pc' := 36) dX2_init_35 rfl rfl ?_
  refine wp_callINn (pc' := 39) (c_X5_init (k := 65) (by unfold St; decide)) gX2_init_X5_init_n21 rfl rfl me_X2_init_12 (by decide +kernel) me_X2_init_11 rfl hz_X5_init ⟨Nat.le_of_ble_eq_true rfl, Nat.le_of_ble_eq_true rfl⟩ ⟨rfl, rfl⟩ (Nat.le_of_ble_eq_true rfl) ⟨Nat.le_of_ble_eq_true rfl, Nat.le_of_ble_eq_true rfl⟩ rfl dX2_init_36 rfl ?_
  refine wp_aast (pc' := 40) (N := 8) (by omega) rfl (by omega) rfl rfl (by first | exact vp_in_nI (by omega) (by omega) | assumption | (unfold vp_in; decide)) dX2_init_39 rfl ?_
  rw [rup_rL]
  refine wp_iinc_2 (pc' := 43) (v := 8) dX2_init_40 (by first | rfl | exact nI_1 _) (by decide) rfl rfl ?_
  refine wp_goto (tgt := 18) dX2_init_43 rfl ?_
  refine wp_iload_n_2 (pc' := 19) dX2_init_18 rfl ?_
  refine wp_aload_n_0 (pc' := 20) dX2_init_19 rfl ?_
  refine wp_get_2_0 (pc' := 23) (j := 29) (by omega) rfl rfl me_X2_init_8 ic_X2_init_2 dX2_init_20 rfl ?_
  refine wp_alenq (pc' := 24) (N := 8) (v := 8) (by omega) rfl rfl (by decide) dX2_init_23 rfl ?_
  refine wp_icmp_ge (pc' := 27) (tgt := 46) dX2_init_24 rfl rfl (fun c24 => ?_) (fun c24 => by exfalso; exact c24 (by decide))
  refine wp_return dX2_init_46 rfl rfl (Nat.le_refl _) (Nat.le_refl _) ?_
  exact ⟨rfl, rfl, rfl, rfl⟩
theorem c_X2_init70 {L : RL3} (hL : (L.all (fun q => decide (q.1 < 71))) = true) : Ctr l D cy B yX2_init wsX2_init rmX2_initB 11 114 71 (rL L) Z0 lg [.ref (B + 70), .int 2] (qN (rL (pS 71 2 ((70, 0, 71) :: L))) Z0 lg) := by
  have nn : ∀ j, 71 ≤ j → (L.all (fun q => q.1 != j)) = true := fun j hj => all_ne hL hj
  refine Ctr.ofi (cc := cX2_init) (nL := 3) (own := RX2) (rt := none) (ls := [some (.ref (B + 70)), some (.int 2), none]) (by decide) rfl rfl rfl (Nat.le_of_ble_eq_true rfl) rfl ?_
  refine wp_aload_n_0 (pc' := 1) dX2_init_0 rfl ?_
  refine wp_objInit (pc' := 4) me_X2_init_0 me_X2_init_1 me_X2_init_2 (Nat.le_of_ble_eq_true rfl) (Nat.le_of_ble_eq_true rfl) dX2_init_1 rfl ?_
  refine wp_aload_n_0 (pc' := 5) dX2_init_4 rfl ?_
  refine wp_iload_n_1 (pc' := 6) dX2_init_5 rfl ?_
  refine wp_iconst (pc' := 7) (1) dX2_init_6 rfl (by decide) ?_
  refine wp_mmax (pc' := 10) me_X2_init_3 me_X2_init_4 me_X2_init_5 me_X2_init_6 (Nat.le_of_ble_eq_true rfl) (Nat.le_of_ble_eq_true rfl) ⟨Nat.le_of_ble_eq_true rfl, Nat.le_of_ble_eq_true rfl⟩ dX2_init_7 rfl ?_
  refine wp_newaq (pc' := 13) rfl rfl (rL_none (nn _ (by omega))) me_X2_init_7 (by decide) (by decide) (by decide) ⟨Nat.le_of_ble_eq_true rfl, Nat.le_of_ble_eq_true rfl⟩ dX2_init_10 rfl ?_
  refine wp_put_2_0 (pc' := 16) (by omega) rfl me_X2_init_8 ic_X2_init_2 (fun _ _ _ q => q) rfl dX2_init_13 rfl ?_
  rw [rup_rL]
  refine wp_iconst (pc' := 17) (0) dX2_init_16 rfl (by decide) ?_
  refine wp_istore_n_2 (pc' := 18) dX2_init_17 (by decide) rfl rfl ?_
  refine wp_iload_n_2 (pc' := 19) dX2_init_18 rfl ?_
  refine wp_aload_n_0 (pc' := 20) dX2_init_19 rfl ?_
  refine wp_get_2_0 (pc' := 23) (j := 71) (by omega) rfl rfl me_X2_init_8 ic_X2_init_2 dX2_init_20 rfl ?_
  refine wp_alenq (pc' := 24) (N := 2) (v := 2) (by omega) rfl rfl (by decide) dX2_init_23 rfl ?_
  refine wp_icmp_ge (pc' := 27) (tgt := 46) dX2_init_24 rfl rfl (fun c24 => by exfalso; exact absurd c24 (by decide)) (fun c24 => ?_)
  refine wp_aload_n_0 (pc' := 28) dX2_init_27 rfl ?_
  refine wp_get_2_0 (pc' := 31) (j := 71) (by omega) rfl rfl me_X2_init_8 ic_X2_init_2 dX2_init_28 rfl ?_
  refine wp_iload_n_2 (pc' := 32) dX2_init_31 rfl ?_
  refine wp_new_5 (pc' := 35) ic_X2_init_5 me_X2_init_7 me_X2_init_9 me_X2_init_10 rfl (fun _ => rfl) (rL_none (by simp only [sL, List.all_cons]; rw [nn]; decide; omega)) ⟨Nat.le_of_ble_eq_true rfl, Nat.le_of_ble_eq_true rfl⟩ dX2_init_32 rfl ?_
  refine wp_dup (pc' := 36) dX2_init_35 rfl rfl ?_
  refine wp_callINn (pc' := 39) (c_X5_init (k := 72) (by unfold St; decide)) gX2_init_X5_init_n21 rfl rfl me_X2_init_12 (by decide +kernel) me_X2_init_11 rfl hz_X5_init ⟨Nat.le_of_ble_eq_true rfl, Nat.le_of_ble_eq_true rfl⟩ ⟨rfl, rfl⟩ (Nat.le_of_ble_eq_true rfl) ⟨Nat.le_of_ble_eq_true rfl, Nat.le_of_ble_eq_true rfl⟩ rfl dX2_init_36 rfl ?_
  refine wp_aast (pc' := 40) (N := 2) (by omega) rfl (by omega) rfl rfl (by first | exact vp_in_nI (by omega) (by omega) | assumption | (unfold vp_in; decide)) dX2_init_39 rfl ?_
  rw [rup_rL]
  refine wp_iinc_2 (pc' := 43) (v := 1) dX2_init_40 (by first | rfl | exact nI_1 _) (by decide) rfl rfl ?_
  refine wp_goto (tgt := 18) dX2_init_43 rfl ?_
  refine wp_iload_n_2 (pc' := 19) dX2_init_18 rfl ?_
  refine wp_aload_n_0 (pc' := 20) dX2_init_19 rfl ?_
  refine wp_get_2_0 (pc' := 23) (j := 71) (by omega) rfl rfl me_X2_init_8 ic_X2_init_2 dX2_init_20 rfl ?_
  refine wp_alenq (pc' := 24) (N := 2) (v := 2) (by omega) rfl rfl (by decide) dX2_init_23 rfl ?_
  refine wp_icmp_ge (pc' := 27) (tgt := 46) dX2_init_24 rfl rfl (fun c24 => by exfalso; exact absurd c24 (by decide)) (fun c24 => ?_)
  refine wp_aload_n_0 (pc' := 28) dX2_init_27 rfl ?_
  refine wp_get_2_0 (pc' := 31) (j := 71) (by omega) rfl rfl me_X2_init_8 ic_X2_init_2 dX2_init_28 rfl ?_
  refine wp_iload_n_2 (pc' := 32) dX2_init_31 rfl ?_
  refine wp_new_5 (pc' := 35) ic_X2_init_5 me_X2_init_7 me_X2_init_9 me_X2_init_10 rfl (fun _ => rfl) (rL_none (by simp only [sL, List.all_cons]; rw [nn]; decide; omega)) ⟨Nat.le_of_ble_eq_true rfl, Nat.le_of_ble_eq_true rfl⟩ dX2_init_32 rfl ?_
  refine wp_dup (pc' := 36) dX2_init_35 rfl rfl ?_
  refine wp_callINn (pc' := 39) (c_X5_init (k := 77) (by unfold St; decide)) gX2_init_X5_init_n21 rfl rfl me_X2_init_12 (by decide +kernel) me_X2_init_11 rfl hz_X5_init ⟨Nat.le_of_ble_eq_true rfl, Nat.le_of_ble_eq_true rfl⟩ ⟨rfl, rfl⟩ (Nat.le_of_ble_eq_true rfl) ⟨Nat.le_of_ble_eq_true rfl, Nat.le_of_ble_eq_true rfl⟩ rfl dX2_init_36 rfl ?_
  refine wp_aast (pc' := 40) (N := 2) (by omega) rfl (by omega) rfl rfl (by first | exact vp_in_nI (by omega) (by omega) | assumption | (unfold vp_in; decide)) dX2_init_39 rfl ?_
  rw [rup_rL]
  refine wp_iinc_2 (pc' := 43) (v := 2) dX2_init_40 (by first | rfl | exact nI_1 _) (by decide) rfl rfl ?_
  refine wp_goto (tgt := 18) dX2_init_43 rfl ?_
  refine wp_iload_n_2 (pc' := 19) dX2_init_18 rfl ?_
  refine wp_aload_n_0 (pc' := 20) dX2_init_19 rfl ?_
  refine wp_get_2_0 (pc' := 23) (j := 71) (by omega) rfl rfl me_X2_init_8 ic_X2_init_2 dX2_init_20 rfl ?_
  refine wp_alenq (pc' := 24) (N := 2) (v := 2) (by omega) rfl rfl (by decide) dX2_init_23 rfl ?_
  refine wp_icmp_ge (pc' := 27) (tgt := 46) dX2_init_24 rfl rfl (fun c24 => ?_) (fun c24 => by exfalso; exact c24 (by decide))
  refine wp_return dX2_init_46 rfl rfl (Nat.le_refl _) (Nat.le_refl _) ?_
  exact ⟨rfl, rfl, rfl, rfl⟩
end VC2

