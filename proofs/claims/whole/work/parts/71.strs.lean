abbrev rmJ0_charAt_5068e : Room := { frames := 3, cells := 0, slots := 0, locals := 64 }
theorem hy_J0_charAt_5068e : yJ0_charAt_5068e.cls = RJ0 ∧ yJ0_charAt_5068e.cls ≠ "java/lang/invoke/MethodHandle" ∧ yJ0_charAt_5068e.cls ≠ "java/lang/invoke/VarHandle" ∧ (parseMethodDescriptor yJ0_charAt_5068e.desc).map (fun d => d.parameters.length) = some 1 := by decide +kernel
theorem hz_J0_charAt_5068e : yJ0_charAt_5068e.cls ≠ "java/lang/invoke/MethodHandle" ∧ yJ0_charAt_5068e.cls ≠ "java/lang/invoke/VarHandle" ∧ (parseMethodDescriptor yJ0_charAt_5068e.desc).map (fun d => d.parameters.length) = some 1 := by decide +kernel
abbrev rmJ0_checkIndex_df160 : Room := { frames := 1, cells := 0, slots := 0, locals := 22 }
theorem hy_J0_checkIndex_df160 : yJ0_checkIndex_df160.cls = RJ0 ∧ yJ0_checkIndex_df160.cls ≠ "java/lang/invoke/MethodHandle" ∧ yJ0_checkIndex_df160.cls ≠ "java/lang/invoke/VarHandle" ∧ (parseMethodDescriptor yJ0_checkIndex_df160.desc).map (fun d => d.parameters.length) = some 2 := by decide +kernel
theorem hz_J0_checkIndex_df160 : yJ0_checkIndex_df160.cls ≠ "java/lang/invoke/MethodHandle" ∧ yJ0_checkIndex_df160.cls ≠ "java/lang/invoke/VarHandle" ∧ (parseMethodDescriptor yJ0_checkIndex_df160.desc).map (fun d => d.parameters.length) = some 2 := by decide +kernel
abbrev rmJ0_coder_7d493 : Room := { frames := 0, cells := 0, slots := 0, locals := 0 }
theorem hy_J0_coder_7d493 : yJ0_coder_7d493.cls = RJ0 ∧ yJ0_coder_7d493.cls ≠ "java/lang/invoke/MethodHandle" ∧ yJ0_coder_7d493.cls ≠ "java/lang/invoke/VarHandle" ∧ (parseMethodDescriptor yJ0_coder_7d493.desc).map (fun d => d.parameters.length) = some 0 := by decide +kernel
theorem hz_J0_coder_7d493 : yJ0_coder_7d493.cls ≠ "java/lang/invoke/MethodHandle" ∧ yJ0_coder_7d493.cls ≠ "java/lang/invoke/VarHandle" ∧ (parseMethodDescriptor yJ0_coder_7d493.desc).map (fun d => d.parameters.length) = some 0 := by decide +kernel
abbrev rmJ0_isLatin1_aae02 : Room := { frames := 0, cells := 0, slots := 0, locals := 0 }
theorem hy_J0_isLatin1_aae02 : yJ0_isLatin1_aae02.cls = RJ0 ∧ yJ0_isLatin1_aae02.cls ≠ "java/lang/invoke/MethodHandle" ∧ yJ0_isLatin1_aae02.cls ≠ "java/lang/invoke/VarHandle" ∧ (parseMethodDescriptor yJ0_isLatin1_aae02.desc).map (fun d => d.parameters.length) = some 0 := by decide +kernel
theorem hz_J0_isLatin1_aae02 : yJ0_isLatin1_aae02.cls ≠ "java/lang/invoke/MethodHandle" ∧ yJ0_isLatin1_aae02.cls ≠ "java/lang/invoke/VarHandle" ∧ (parseMethodDescriptor yJ0_isLatin1_aae02.desc).map (fun d => d.parameters.length) = some 0 := by decide +kernel
abbrev rmJ0_length_8abf5 : Room := { frames := 1, cells := 0, slots := 0, locals := 20 }
theorem hy_J0_length_8abf5 : yJ0_length_8abf5.cls = RJ0 ∧ yJ0_length_8abf5.cls ≠ "java/lang/invoke/MethodHandle" ∧ yJ0_length_8abf5.cls ≠ "java/lang/invoke/VarHandle" ∧ (parseMethodDescriptor yJ0_length_8abf5.desc).map (fun d => d.parameters.length) = some 0 := by decide +kernel
theorem hz_J0_length_8abf5 : yJ0_length_8abf5.cls ≠ "java/lang/invoke/MethodHandle" ∧ yJ0_length_8abf5.cls ≠ "java/lang/invoke/VarHandle" ∧ (parseMethodDescriptor yJ0_length_8abf5.desc).map (fun d => d.parameters.length) = some 0 := by decide +kernel
abbrev rmJ1_charAt_3b067 : Room := { frames := 2, cells := 0, slots := 0, locals := 43 }
theorem hy_J1_charAt_3b067 : yJ1_charAt_3b067.cls = RJ1 ∧ yJ1_charAt_3b067.cls ≠ "java/lang/invoke/MethodHandle" ∧ yJ1_charAt_3b067.cls ≠ "java/lang/invoke/VarHandle" ∧ (parseMethodDescriptor yJ1_charAt_3b067.desc).map (fun d => d.parameters.length) = some 2 := by decide +kernel
theorem hz_J1_charAt_3b067 : yJ1_charAt_3b067.cls ≠ "java/lang/invoke/MethodHandle" ∧ yJ1_charAt_3b067.cls ≠ "java/lang/invoke/VarHandle" ∧ (parseMethodDescriptor yJ1_charAt_3b067.desc).map (fun d => d.parameters.length) = some 2 := by decide +kernel
abbrev rmJ3_checkIndex_8e157 : Room := { frames := 0, cells := 0, slots := 0, locals := 0 }
theorem hy_J3_checkIndex_8e157 : yJ3_checkIndex_8e157.cls = RJ3 ∧ yJ3_checkIndex_8e157.cls ≠ "java/lang/invoke/MethodHandle" ∧ yJ3_checkIndex_8e157.cls ≠ "java/lang/invoke/VarHandle" ∧ (parseMethodDescriptor yJ3_checkIndex_8e157.desc).map (fun d => d.parameters.length) = some 3 := by decide +kernel
theorem hz_J3_checkIndex_8e157 : yJ3_checkIndex_8e157.cls ≠ "java/lang/invoke/MethodHandle" ∧ yJ3_checkIndex_8e157.cls ≠ "java/lang/invoke/VarHandle" ∧ (parseMethodDescriptor yJ3_checkIndex_8e157.desc).map (fun d => d.parameters.length) = some 3 := by decide +kernel
theorem me_J0_coder_7d493_0 : Cond.fieldLink RJ0 38 "java/lang/String" "COMPACT_STRINGS" "Z" ∈ wsJ0_coder_7d493 := by decide +kernel
theorem me_J0_coder_7d493_1 : Cond.fieldLink RJ0 15 "java/lang/String" "coder" "B" ∈ wsJ0_coder_7d493 := by decide +kernel
theorem me_J0_length_8abf5_0 : Cond.fieldLink RJ0 9 "java/lang/String" "value" "[B" ∈ wsJ0_length_8abf5 := by decide +kernel
theorem me_J0_isLatin1_aae02_0 : Cond.fieldLink RJ0 38 "java/lang/String" "COMPACT_STRINGS" "Z" ∈ wsJ0_isLatin1_aae02 := by decide +kernel
theorem me_J0_isLatin1_aae02_1 : Cond.fieldLink RJ0 15 "java/lang/String" "coder" "B" ∈ wsJ0_isLatin1_aae02 := by decide +kernel
theorem me_J0_charAt_5068e_0 : Cond.fieldLink RJ0 9 "java/lang/String" "value" "[B" ∈ wsJ0_charAt_5068e := by decide +kernel
-- the string constant: its length, its letters
section VSTR1
variable {l : Launch} {D : va_G} {cy : CY} {B n : Nat} {h : Hp} {lg : Lg} {π : Nat → Nat}
def txN : List Nat := txB.map (fun b => b.toInt.toNat)
def tX (i : Nat) : Nat := txN.getD i 0
theorem tX_all : ∀ i, i < 75 → ((txB.getD i 0 &&& 255).toUInt32 % 65536).toInt32 = nI (tX i) ∧ 32 ≤ tX i ∧ tX i ≤ 126 := by decide +kernel
theorem tX_nar : ∀ i, i < 75 → narrow .char (.int (nI (tX i))) = .int (nI (tX i)) := by decide +kernel
theorem c_J0_coder : Ctr l D cy B yJ0_coder_7d493 wsJ0_coder_7d493 rmJ0_coder_7d493 0 0 n (rf0 π) h lg [.ref cy.2.2.2.2.1] (uI (0) (rf0 π) h lg) := by
  refine Ctr.of (cc := cJ0_coder_7d493) (nL := 1) (own := RJ0) (rt := (some .byte)) (ls := [some (.ref cy.2.2.2.2.1)]) (by decide) rfl rfl (Nat.le_of_ble_eq_true rfl) rfl ?_
  refine wp_getsC (pc' := 3) me_J0_coder_7d493_0 dJ0_coder_7d493_0 rfl ?_
  refine wp_if_eq (pc' := 6) (tgt := 13) dJ0_coder_7d493_3 rfl rfl (fun c3 => by exfalso; exact absurd c3 (by decide)) (fun c3 => ?_)
  refine wp_aload_n_0 (pc' := 7) dJ0_coder_7d493_6 rfl ?_
  refine wp_getSc (pc' := 10) me_J0_coder_7d493_1 dJ0_coder_7d493_7 rfl ?_
  refine wp_goto (tgt := 14) dJ0_coder_7d493_10 rfl ?_
  refine wp_breturn (by decide) dJ0_coder_7d493_14 rfl rfl (Nat.le_refl _) (Nat.le_refl _) ?_
  exact uI_of rfl
theorem c_J0_length : Ctr l D cy B yJ0_length_8abf5 wsJ0_length_8abf5 rmJ0_length_8abf5 0 0 n (rf0 π) h lg [.ref cy.2.2.2.2.1] (uI (75) (rf0 π) h lg) := by
  refine Ctr.of (cc := cJ0_length_8abf5) (nL := 1) (own := RJ0) (rt := (some .int)) (ls := [some (.ref cy.2.2.2.2.1)]) (by decide) rfl rfl (Nat.le_of_ble_eq_true rfl) rfl ?_
  refine wp_aload_n_0 (pc' := 1) dJ0_length_8abf5_0 rfl ?_
  refine wp_getSv (pc' := 4) me_J0_length_8abf5_0 dJ0_length_8abf5_1 rfl ?_
  refine wp_alenS (pc' := 5) dJ0_length_8abf5_4 rfl ?_
  refine wp_aload_n_0 (pc' := 6) dJ0_length_8abf5_5 rfl ?_
  refine wp_callVS (pc' := 9) (mc := 0) (ms := 0) c_J0_coder gJ0_length_8abf5_J0_coder_7d493 rfl rfl hy_J0_coder_7d493 ⟨Nat.le_of_ble_eq_true rfl, Nat.le_of_ble_eq_true rfl⟩ ⟨rfl, rfl⟩ (Nat.le_of_ble_eq_true rfl) ⟨Nat.le_of_ble_eq_true rfl, Nat.le_of_ble_eq_true rfl⟩ rfl dJ0_length_8abf5_6 rfl ?_
  refine wp_ishr (pc' := 10) dJ0_length_8abf5_9 rfl ?_
  refine wp_ireturn dJ0_length_8abf5_10 rfl rfl (Nat.le_refl _) (Nat.le_refl _) ?_
  exact uI_of (by decide)
theorem c_J0_isLatin1 : Ctr l D cy B yJ0_isLatin1_aae02 wsJ0_isLatin1_aae02 rmJ0_isLatin1_aae02 0 0 n (rf0 π) h lg [.ref cy.2.2.2.2.1] (uI (1) (rf0 π) h lg) := by
  refine Ctr.of (cc := cJ0_isLatin1_aae02) (nL := 1) (own := RJ0) (rt := (some .boolean)) (ls := [some (.ref cy.2.2.2.2.1)]) (by decide) rfl rfl (Nat.le_of_ble_eq_true rfl) rfl ?_
  refine wp_getsC (pc' := 3) me_J0_isLatin1_aae02_0 dJ0_isLatin1_aae02_0 rfl ?_
  refine wp_if_eq (pc' := 6) (tgt := 17) dJ0_isLatin1_aae02_3 rfl rfl (fun c3 => by exfalso; exact absurd c3 (by decide)) (fun c3 => ?_)
  refine wp_aload_n_0 (pc' := 7) dJ0_isLatin1_aae02_6 rfl ?_
  refine wp_getSc (pc' := 10) me_J0_isLatin1_aae02_1 dJ0_isLatin1_aae02_7 rfl ?_
  refine wp_if_ne (pc' := 13) (tgt := 17) dJ0_isLatin1_aae02_10 rfl rfl (fun c10 => by exfalso; exact c10 rfl) (fun c10 => ?_)
  refine wp_iconst (pc' := 14) (1) dJ0_isLatin1_aae02_13 rfl (by decide) ?_
  refine wp_goto (tgt := 18) dJ0_isLatin1_aae02_14 rfl ?_
  refine wp_zreturn (by decide) dJ0_isLatin1_aae02_18 rfl rfl (Nat.le_refl _) (Nat.le_refl _) ?_
  exact uI_of rfl
theorem c_J3_checkIndex0 {i : Nat} (hi : i < 75) : Ctr l D cy B yJ3_checkIndex_8e157 wsJ3_checkIndex_8e157 rmJ3_checkIndex_8e157 0 0 n (rf0 π) h lg [.int (nI i), .int 75, .null] (uI (nI i) (rf0 π) h lg) := by
  refine Ctr.of (cc := cJ3_checkIndex_8e157) (nL := 3) (own := RJ3) (rt := (some .int)) (ls := [some (.int (nI i)), some (.int 75), some (.null)]) (by decide) rfl rfl (Nat.le_of_ble_eq_true rfl) rfl ?_
  refine wp_iload_n_0 (pc' := 1) dJ3_checkIndex_8e157_0 rfl ?_
  refine wp_if_lt (pc' := 4) (tgt := 9) dJ3_checkIndex_8e157_1 rfl rfl (fun c1 => by exfalso; exact nI_pos (by omega) c1) (fun c1 => ?_)
  refine wp_iload_n_0 (pc' := 5) dJ3_checkIndex_8e157_4 rfl ?_
  refine wp_iload_n_1 (pc' := 6) dJ3_checkIndex_8e157_5 rfl ?_
  refine wp_icmp_lt (pc' := 9) (tgt := 16) dJ3_checkIndex_8e157_6 rfl rfl (fun c6 => ?_) (fun c6 => by exfalso; exact c6 (nI_lt (b := 75) hi (by omega)))
  refine wp_iload_n_0 (pc' := 17) dJ3_checkIndex_8e157_16 rfl ?_
  refine wp_ireturn dJ3_checkIndex_8e157_17 rfl rfl (Nat.le_refl _) (Nat.le_refl _) ?_
  exact uI_of rfl
theorem c_J3_checkIndex1 {i q : Nat} (hi : i < 75) : Ctr l D cy B yJ3_checkIndex_8e157 wsJ3_checkIndex_8e157 rmJ3_checkIndex_8e157 0 0 n (rf0 π) h lg [.int (nI i), .int 75, .ref q] (uI (nI i) (rf0 π) h lg) := by
  refine Ctr.of (cc := cJ3_checkIndex_8e157) (nL := 3) (own := RJ3) (rt := (some .int)) (ls := [some (.int (nI i)), some (.int 75), some (.ref q)]) (by decide) rfl rfl (Nat.le_of_ble_eq_true rfl) rfl ?_
  refine wp_iload_n_0 (pc' := 1) dJ3_checkIndex_8e157_0 rfl ?_
  refine wp_if_lt (pc' := 4) (tgt := 9) dJ3_checkIndex_8e157_1 rfl rfl (fun c1 => by exfalso; exact nI_pos (by omega) c1) (fun c1 => ?_)
  refine wp_iload_n_0 (pc' := 5) dJ3_checkIndex_8e157_4 rfl ?_
  refine wp_iload_n_1 (pc' := 6) dJ3_checkIndex_8e157_5 rfl ?_
  refine wp_icmp_lt (pc' := 9) (tgt := 16) dJ3_checkIndex_8e157_6 rfl rfl (fun c6 => ?_) (fun c6 => by exfalso; exact c6 (nI_lt (b := 75) hi (by omega)))
  refine wp_iload_n_0 (pc' := 17) dJ3_checkIndex_8e157_16 rfl ?_
  refine wp_ireturn dJ3_checkIndex_8e157_17 rfl rfl (Nat.le_refl _) (Nat.le_refl _) ?_
  exact uI_of rfl
theorem me_J0_ci_F : Cond.fieldLink RJ0 1053 "jdk/internal/util/Preconditions" "SIOOBE_FORMATTER" "Ljava/util/function/BiFunction;" ∈ wsJ0_checkIndex_df160 := by decide +kernel
theorem c_J0_checkIndex {i : Nat} (hi : i < 75) : Ctr l D cy B yJ0_checkIndex_df160 wsJ0_checkIndex_df160 rmJ0_checkIndex_df160 0 0 n (rf0 π) h lg [.int (nI i), .int 75] (qV (fun h' => h' = h) (rf0 π) lg) := by
  refine Ctr.of (cc := cJ0_checkIndex_df160) (nL := 2) (own := RJ0) (rt := none) (ls := [some (.int (nI i)), some (.int 75)]) (by decide) rfl rfl (Nat.le_of_ble_eq_true rfl) rfl ?_
  refine wp_iload_n_0 (pc' := 1) dJ0_checkIndex_df160_0 rfl ?_
  refine wp_iload_n_1 (pc' := 2) dJ0_checkIndex_df160_1 rfl ?_
  refine wp_getsF (pc' := 5) me_J0_ci_F dJ0_checkIndex_df160_2 rfl ?_ (fun q => ?_)
  · skip
    refine wp_callSu (pc' := 8) (c_J3_checkIndex0 hi) gJ0_checkIndex_df160_J3_checkIndex_8e157 rfl rfl hz_J3_checkIndex_8e157 ⟨Nat.le_of_ble_eq_true rfl, Nat.le_of_ble_eq_true rfl⟩ ⟨rfl, rfl⟩ (Nat.le_of_ble_eq_true rfl) ⟨Nat.le_of_ble_eq_true rfl, Nat.le_of_ble_eq_true rfl⟩ rfl dJ0_checkIndex_df160_5 rfl ?_
    refine wp_pop (pc' := 9) dJ0_checkIndex_df160_8 rfl rfl ?_
    refine wp_return dJ0_checkIndex_df160_9 rfl rfl (Nat.le_refl _) (Nat.le_refl _) ?_
    exact qV_of rfl
  · skip
    refine wp_callSu (pc' := 8) (c_J3_checkIndex1 hi) gJ0_checkIndex_df160_J3_checkIndex_8e157 rfl rfl hz_J3_checkIndex_8e157 ⟨Nat.le_of_ble_eq_true rfl, Nat.le_of_ble_eq_true rfl⟩ ⟨rfl, rfl⟩ (Nat.le_of_ble_eq_true rfl) ⟨Nat.le_of_ble_eq_true rfl, Nat.le_of_ble_eq_true rfl⟩ rfl dJ0_checkIndex_df160_5 rfl ?_
    refine wp_pop (pc' := 9) dJ0_checkIndex_df160_8 rfl rfl ?_
    refine wp_return dJ0_checkIndex_df160_9 rfl rfl (Nat.le_refl _) (Nat.le_refl _) ?_
    exact qV_of rfl
theorem c_J1_charAt {i : Nat} (hi : i < 75) : Ctr l D cy B yJ1_charAt_3b067 wsJ1_charAt_3b067 rmJ1_charAt_3b067 0 0 n (rf0 π) h lg [.ref cy.2.2.2.2.2, .int (nI i)] (uI (nI (tX i)) (rf0 π) h lg) := by
  have e := (tX_all i hi).1
  refine Ctr.of (cc := cJ1_charAt_3b067) (nL := 2) (own := RJ1) (rt := (some .char)) (ls := [some (.ref cy.2.2.2.2.2), some (.int (nI i))]) (by decide) rfl rfl (Nat.le_of_ble_eq_true rfl) rfl ?_
  refine wp_iload_n_1 (pc' := 1) dJ1_charAt_3b067_0 rfl ?_
  refine wp_aload_n_0 (pc' := 2) dJ1_charAt_3b067_1 rfl ?_
  refine wp_alenS (pc' := 3) dJ1_charAt_3b067_2 rfl ?_
  refine wp_callSv (pc' := 6) (c_J0_checkIndex hi) gJ1_charAt_3b067_J0_checkIndex_df160 rfl rfl hz_J0_checkIndex_df160 ⟨Nat.le_of_ble_eq_true rfl, Nat.le_of_ble_eq_true rfl⟩ ⟨rfl, rfl⟩ (Nat.le_of_ble_eq_true rfl) ⟨Nat.le_of_ble_eq_true rfl, Nat.le_of_ble_eq_true rfl⟩ rfl dJ1_charAt_3b067_3 rfl (fun h3 q3 => ?_)
  subst q3
  refine wp_aload_n_0 (pc' := 7) dJ1_charAt_3b067_6 rfl ?_
  refine wp_iload_n_1 (pc' := 8) dJ1_charAt_3b067_7 rfl ?_
  refine wp_baldS (pc' := 9) (vp_in_nI hi (by omega)) dJ1_charAt_3b067_8 rfl ?_
  refine wp_sipush (pc' := 12) (255) dJ1_charAt_3b067_9 rfl (by decide) ?_
  refine wp_iand (pc' := 13) dJ1_charAt_3b067_12 rfl ?_
  refine wp_i2c (pc' := 14) dJ1_charAt_3b067_13 rfl ?_
  rw [nI_clamp (by omega), e]
  refine wp_creturn (tX_nar i hi) dJ1_charAt_3b067_14 rfl rfl (Nat.le_refl _) (Nat.le_refl _) ?_
  exact uI_of rfl
theorem c_J0_charAt {i : Nat} (hi : i < 75) : Ctr l D cy B yJ0_charAt_5068e wsJ0_charAt_5068e rmJ0_charAt_5068e 0 0 n (rf0 π) h lg [.ref cy.2.2.2.2.1, .int (nI i)] (uI (nI (tX i)) (rf0 π) h lg) := by
  refine Ctr.of (cc := cJ0_charAt_5068e) (nL := 2) (own := RJ0) (rt := (some .char)) (ls := [some (.ref cy.2.2.2.2.1), some (.int (nI i))]) (by decide) rfl rfl (Nat.le_of_ble_eq_true rfl) rfl ?_
  refine wp_aload_n_0 (pc' := 1) dJ0_charAt_5068e_0 rfl ?_
  refine wp_callVS (pc' := 4) (mc := 0) (ms := 0) c_J0_isLatin1 gJ0_charAt_5068e_J0_isLatin1_aae02 rfl rfl hy_J0_isLatin1_aae02 ⟨Nat.le_of_ble_eq_true rfl, Nat.le_of_ble_eq_true rfl⟩ ⟨rfl, rfl⟩ (Nat.le_of_ble_eq_true rfl) ⟨Nat.le_of_ble_eq_true rfl, Nat.le_of_ble_eq_true rfl⟩ rfl dJ0_charAt_5068e_1 rfl ?_
  refine wp_if_eq (pc' := 7) (tgt := 16) dJ0_charAt_5068e_4 rfl rfl (fun c4 => by exfalso; exact absurd c4 (by decide)) (fun c4 => ?_)
  refine wp_aload_n_0 (pc' := 8) dJ0_charAt_5068e_7 rfl ?_
  refine wp_getSv (pc' := 11) me_J0_charAt_5068e_0 dJ0_charAt_5068e_8 rfl ?_
  refine wp_iload_n_1 (pc' := 12) dJ0_charAt_5068e_11 rfl ?_
  refine wp_callSu (pc' := 15) (c_J1_charAt hi) gJ0_charAt_5068e_J1_charAt_3b067 rfl rfl hz_J1_charAt_3b067 ⟨Nat.le_of_ble_eq_true rfl, Nat.le_of_ble_eq_true rfl⟩ ⟨rfl, rfl⟩ (Nat.le_of_ble_eq_true rfl) ⟨Nat.le_of_ble_eq_true rfl, Nat.le_of_ble_eq_true rfl⟩ rfl dJ0_charAt_5068e_12 rfl ?_
  refine wp_creturn (tX_nar i hi) dJ0_charAt_5068e_15 rfl rfl (Nat.le_refl _) (Nat.le_refl _) ?_
  exact uI_of rfl
end VSTR1

