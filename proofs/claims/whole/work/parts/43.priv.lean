abbrev rmX7_allCanLie : Room := { frames := 4, cells := 0, slots := 0, locals := 94 }
theorem hy_X7_allCanLie : yX7_allCanLie.cls = RX7 ∧ yX7_allCanLie.cls ≠ "java/lang/invoke/MethodHandle" ∧ yX7_allCanLie.cls ≠ "java/lang/invoke/VarHandle" ∧ (parseMethodDescriptor yX7_allCanLie.desc).map (fun d => d.parameters.length) = some 1 := by decide +kernel
theorem hz_X7_allCanLie : yX7_allCanLie.cls ≠ "java/lang/invoke/MethodHandle" ∧ yX7_allCanLie.cls ≠ "java/lang/invoke/VarHandle" ∧ (parseMethodDescriptor yX7_allCanLie.desc).map (fun d => d.parameters.length) = some 1 := by decide +kernel
abbrev rmX7_isPlace : Room := { frames := 1, cells := 0, slots := 0, locals := 20 }
theorem hy_X7_isPlace : yX7_isPlace.cls = RX7 ∧ yX7_isPlace.cls ≠ "java/lang/invoke/MethodHandle" ∧ yX7_isPlace.cls ≠ "java/lang/invoke/VarHandle" ∧ (parseMethodDescriptor yX7_isPlace.desc).map (fun d => d.parameters.length) = some 1 := by decide +kernel
theorem hz_X7_isPlace : yX7_isPlace.cls ≠ "java/lang/invoke/MethodHandle" ∧ yX7_isPlace.cls ≠ "java/lang/invoke/VarHandle" ∧ (parseMethodDescriptor yX7_isPlace.desc).map (fun d => d.parameters.length) = some 1 := by decide +kernel
abbrev rmX7_isWalk : Room := { frames := 0, cells := 0, slots := 0, locals := 0 }
theorem hy_X7_isWalk : yX7_isWalk.cls = RX7 ∧ yX7_isWalk.cls ≠ "java/lang/invoke/MethodHandle" ∧ yX7_isWalk.cls ≠ "java/lang/invoke/VarHandle" ∧ (parseMethodDescriptor yX7_isWalk.desc).map (fun d => d.parameters.length) = some 1 := by decide +kernel
theorem hz_X7_isWalk : yX7_isWalk.cls ≠ "java/lang/invoke/MethodHandle" ∧ yX7_isWalk.cls ≠ "java/lang/invoke/VarHandle" ∧ (parseMethodDescriptor yX7_isWalk.desc).map (fun d => d.parameters.length) = some 1 := by decide +kernel
abbrev rmX7_present : Room := { frames := 2, cells := 0, slots := 0, locals := 42 }
theorem hy_X7_present : yX7_present.cls = RX7 ∧ yX7_present.cls ≠ "java/lang/invoke/MethodHandle" ∧ yX7_present.cls ≠ "java/lang/invoke/VarHandle" ∧ (parseMethodDescriptor yX7_present.desc).map (fun d => d.parameters.length) = some 0 := by decide +kernel
theorem hz_X7_present : yX7_present.cls ≠ "java/lang/invoke/MethodHandle" ∧ yX7_present.cls ≠ "java/lang/invoke/VarHandle" ∧ (parseMethodDescriptor yX7_present.desc).map (fun d => d.parameters.length) = some 0 := by decide +kernel
abbrev rmX7_takeOver : Room := { frames := 5, cells := 0, slots := 0, locals := 108 }
theorem hy_X7_takeOver : yX7_takeOver.cls = RX7 ∧ yX7_takeOver.cls ≠ "java/lang/invoke/MethodHandle" ∧ yX7_takeOver.cls ≠ "java/lang/invoke/VarHandle" ∧ (parseMethodDescriptor yX7_takeOver.desc).map (fun d => d.parameters.length) = some 0 := by decide +kernel
theorem hz_X7_takeOver : yX7_takeOver.cls ≠ "java/lang/invoke/MethodHandle" ∧ yX7_takeOver.cls ≠ "java/lang/invoke/VarHandle" ∧ (parseMethodDescriptor yX7_takeOver.desc).map (fun d => d.parameters.length) = some 0 := by decide +kernel
abbrev rmX7_wouldMend : Room := { frames := 5, cells := 0, slots := 0, locals := 116 }
theorem hy_X7_wouldMend : yX7_wouldMend.cls = RX7 ∧ yX7_wouldMend.cls ≠ "java/lang/invoke/MethodHandle" ∧ yX7_wouldMend.cls ≠ "java/lang/invoke/VarHandle" ∧ (parseMethodDescriptor yX7_wouldMend.desc).map (fun d => d.parameters.length) = some 2 := by decide +kernel
theorem hz_X7_wouldMend : yX7_wouldMend.cls ≠ "java/lang/invoke/MethodHandle" ∧ yX7_wouldMend.cls ≠ "java/lang/invoke/VarHandle" ∧ (parseMethodDescriptor yX7_wouldMend.desc).map (fun d => d.parameters.length) = some 2 := by decide +kernel
theorem me_X7_isPlace_0 : Cond.fieldLink RX7 27 "DrawnByLost" "land" "LDrawnByLost$Land;" ∈ wsX7_isPlace := by decide +kernel
theorem me_X7_isWalk_0 : Cond.fieldLink RX7 31 "DrawnByLost" "now" "LDrawnByLost$Story;" ∈ wsX7_isWalk := by decide +kernel
theorem me_X7_isWalk_1 : Cond.fieldLink RX7 148 "DrawnByLost$Story" "walks" "I" ∈ wsX7_isWalk := by decide +kernel
theorem me_X7_present_0 : Cond.fieldLink RX7 19 "DrawnByLost" "finder" "LDrawnByLost$Finder;" ∈ wsX7_present := by decide +kernel
theorem me_X7_present_1 : Cond.fieldLink RX7 31 "DrawnByLost" "now" "LDrawnByLost$Story;" ∈ wsX7_present := by decide +kernel
theorem me_X7_present_2 : Cond.fieldLink RX7 106 "DrawnByLost$Story" "marks" "[I" ∈ wsX7_present := by decide +kernel
theorem me_X7_allCanLie_0 : Cond.fieldLink RX7 148 "DrawnByLost$Story" "walks" "I" ∈ wsX7_allCanLie := by decide +kernel
theorem me_X7_allCanLie_1 : Cond.fieldLink RX7 19 "DrawnByLost" "finder" "LDrawnByLost$Finder;" ∈ wsX7_allCanLie := by decide +kernel
theorem me_X7_allCanLie_2 : Cond.fieldLink RX7 27 "DrawnByLost" "land" "LDrawnByLost$Land;" ∈ wsX7_allCanLie := by decide +kernel
theorem me_X7_allCanLie_3 : Cond.fieldLink RX7 182 "DrawnByLost$Land" "all" "I" ∈ wsX7_allCanLie := by decide +kernel
theorem me_X7_allCanLie_4 : Cond.fieldLink RX7 106 "DrawnByLost$Story" "marks" "[I" ∈ wsX7_allCanLie := by decide +kernel
theorem me_X7_wouldMend_0 : Cond.fieldLink RX7 35 "DrawnByLost" "trial" "LDrawnByLost$Story;" ∈ wsX7_wouldMend := by decide +kernel
theorem me_X7_wouldMend_1 : Cond.fieldLink RX7 106 "DrawnByLost$Story" "marks" "[I" ∈ wsX7_wouldMend := by decide +kernel
theorem me_X7_takeOver_0 : Cond.fieldLink RX7 10 "DrawnByLost" "reader" "LDrawnByLost$Reader;" ∈ wsX7_takeOver := by decide +kernel
theorem me_X7_takeOver_1 : Cond.fieldLink RX7 251 "DrawnByLost$Reader" "story" "LDrawnByLost$Story;" ∈ wsX7_takeOver := by decide +kernel
theorem me_X7_takeOver_2 : Cond.fieldLink RX7 148 "DrawnByLost$Story" "walks" "I" ∈ wsX7_takeOver := by decide +kernel
theorem me_X7_takeOver_3 : Cond.fieldLink RX7 27 "DrawnByLost" "land" "LDrawnByLost$Land;" ∈ wsX7_takeOver := by decide +kernel
theorem me_X7_takeOver_4 : Cond.fieldLink RX7 254 "DrawnByLost$Reader" "land" "LDrawnByLost$Land;" ∈ wsX7_takeOver := by decide +kernel
theorem me_X7_takeOver_5 : Cond.fieldLink RX7 31 "DrawnByLost" "now" "LDrawnByLost$Story;" ∈ wsX7_takeOver := by decide +kernel
theorem ic_X7_isPlace_7 : ∀ w ∈ wsX70, w ∈ wsX7_isPlace := by decide +kernel
theorem ic_X7_isWalk_7 : ∀ w ∈ wsX70, w ∈ wsX7_isWalk := by decide +kernel
theorem ic_X7_isWalk_5 : ∀ w ∈ wsX50, w ∈ wsX7_isWalk := by decide +kernel
theorem ic_X7_present_7 : ∀ w ∈ wsX70, w ∈ wsX7_present := by decide +kernel
theorem ic_X7_present_5 : ∀ w ∈ wsX50, w ∈ wsX7_present := by decide +kernel
theorem ic_X7_allCanLie_5 : ∀ w ∈ wsX50, w ∈ wsX7_allCanLie := by decide +kernel
theorem ic_X7_allCanLie_7 : ∀ w ∈ wsX70, w ∈ wsX7_allCanLie := by decide +kernel
theorem ic_X7_allCanLie_1 : ∀ w ∈ wsX10, w ∈ wsX7_allCanLie := by decide +kernel
theorem ic_X7_wouldMend_7 : ∀ w ∈ wsX70, w ∈ wsX7_wouldMend := by decide +kernel
theorem ic_X7_wouldMend_5 : ∀ w ∈ wsX50, w ∈ wsX7_wouldMend := by decide +kernel
theorem ic_X7_takeOver_7 : ∀ w ∈ wsX70, w ∈ wsX7_takeOver := by decide +kernel
theorem ic_X7_takeOver_3 : ∀ w ∈ wsX30, w ∈ wsX7_takeOver := by decide +kernel
theorem ic_X7_takeOver_5 : ∀ w ∈ wsX50, w ∈ wsX7_takeOver := by decide +kernel
-- the class's own helpers
section VPV
variable {l : Launch} {D : va_G} {cy : CY} {B n : Nat} {h : Hp} {lg : Lg} {π : Nat → Nat}
theorem ix_dec {x : Int32} {P : Nat} (hP : P ≤ 1000) : (ix x P).isSome = decide (0 ≤ x ∧ x < nI P) := by
  rw [Bool.eq_iff_iff, ix_iff, decide_eq_true_eq]
  constructor
  · intro z; exact ⟨by (simp (disch := omega) only [Int32.lt_iff_toInt_lt, Int32.le_iff_toInt_le, ← Int32.toInt_inj, nI_toInt, il_0, il_1, il_2, il_3, il_4, il_5, il_6, il_8, il_9, il_10, il_16, il_26, il_32, il_40, il_n4, il_n1, il_n2, il_11, il_48, il_57, il_59, il_44, il_126, il_200, il_9999, il_66666, il_10000, il_1000000, il_15, il_12, il_256, il_4096, il_53, il_52] at *; omega), by (simp (disch := omega) only [Int32.lt_iff_toInt_lt, Int32.le_iff_toInt_le, ← Int32.toInt_inj, nI_toInt, il_0, il_1, il_2, il_3, il_4, il_5, il_6, il_8, il_9, il_10, il_16, il_26, il_32, il_40, il_n4, il_n1, il_n2, il_11, il_48, il_57, il_59, il_44, il_126, il_200, il_9999, il_66666, il_10000, il_1000000, il_15, il_12, il_256, il_4096, il_53, il_52] at *; omega)⟩
  · rintro ⟨z1, z2⟩; exact ⟨by (simp (disch := omega) only [Int32.lt_iff_toInt_lt, Int32.le_iff_toInt_le, ← Int32.toInt_inj, nI_toInt, il_0, il_1, il_2, il_3, il_4, il_5, il_6, il_8, il_9, il_10, il_16, il_26, il_32, il_40, il_n4, il_n1, il_n2, il_11, il_48, il_57, il_59, il_44, il_126, il_200, il_9999, il_66666, il_10000, il_1000000, il_15, il_12, il_256, il_4096, il_53, il_52] at *; omega), by (simp (disch := omega) only [Int32.lt_iff_toInt_lt, Int32.le_iff_toInt_le, ← Int32.toInt_inj, nI_toInt, il_0, il_1, il_2, il_3, il_4, il_5, il_6, il_8, il_9, il_10, il_16, il_26, il_32, il_40, il_n4, il_n1, il_n2, il_11, il_48, il_57, il_59, il_44, il_126, il_200, il_9999, il_66666, il_10000, il_1000000, il_15, il_12, il_256, il_4096, il_53, il_52] at *; omega)⟩
theorem c_X7_isPlace {R C : Nat} (hn : 89 ≤ n) (q : ShL h 11 R C) (x : Int32) : Ctr l D cy B yX7_isPlace wsX7_isPlace rmX7_isPlace 0 0 n (rf0 π) h lg [.ref (B + 0), .int x] (uI (b2i (ix x (R * C)).isSome) (rf0 π) h lg) := by
  have hl := q.1.le
  rw [ix_dec (by omega)]
  refine Ctr.of (cc := cX7_isPlace) (nL := 2) (own := RX7) (rt := (some .boolean)) (ls := [some (.ref (B + 0)), some (.int x)]) (by decide) rfl rfl (Nat.le_of_ble_eq_true rfl) rfl ?_
  refine wp_iload_n_1 (pc' := 1) dX7_isPlace_0 rfl ?_
  refine wp_if_lt (pc' := 4) (tgt := 25) dX7_isPlace_1 rfl rfl (fun c1 => ?_) (fun c1 => ?_)
  · skip -- 1 taken
    refine wp_iconst (pc' := 26) (0) dX7_isPlace_25 rfl (by decide) ?_
    refine wp_zreturn (by decide) dX7_isPlace_26 rfl rfl (Nat.le_refl _) (Nat.le_refl _) ?_
    exact uI_of (by first | exact b2i_t (by (simp (disch := omega) only [Int32.lt_iff_toInt_lt, Int32.le_iff_toInt_le, ← Int32.toInt_inj, nI_toInt, il_0, il_1, il_2, il_3, il_4, il_5, il_6, il_8, il_9, il_10, il_16, il_26, il_32, il_40, il_n4, il_n1, il_n2, il_11, il_48, il_57, il_59, il_44, il_126, il_200, il_9999, il_66666, il_10000, il_1000000, il_15, il_12, il_256, il_4096, il_53, il_52] at *; omega)) | exact b2i_f (by (simp (disch := omega) only [Int32.lt_iff_toInt_lt, Int32.le_iff_toInt_le, ← Int32.toInt_inj, nI_toInt, il_0, il_1, il_2, il_3, il_4, il_5, il_6, il_8, il_9, il_10, il_16, il_26, il_32, il_40, il_n4, il_n1, il_n2, il_11, il_48, il_57, il_59, il_44, il_126, il_200, il_9999, il_66666, il_10000, il_1000000, il_15, il_12, il_256, il_4096, il_53, il_52] at *; omega)))
  · skip -- 1 not taken
    refine wp_iload_n_1 (pc' := 5) dX7_isPlace_4 rfl ?_
    refine wp_aload_n_0 (pc' := 6) dX7_isPlace_5 rfl ?_
    refine wp_get_7_2 (pc' := 9) (by omega) rfl rfl me_X7_isPlace_0 ic_X7_isPlace_7 dX7_isPlace_6 rfl ?_
    refine wp_callVu (pc' := 12) (c_X1_places hn la11) gX7_isPlace_X1_places rfl rfl hy_X1_places ⟨Nat.le_of_ble_eq_true rfl, Nat.le_of_ble_eq_true rfl⟩ ⟨rfl, rfl⟩ (Nat.le_of_ble_eq_true rfl) ⟨Nat.le_of_ble_eq_true rfl, Nat.le_of_ble_eq_true rfl⟩ (by omega) (ce1 rfl) rfl rfl dX7_isPlace_9 rfl ?_
    rw [q.places]
    refine wp_icmp_ge (pc' := 15) (tgt := 25) dX7_isPlace_12 rfl rfl (fun c12 => ?_) (fun c12 => ?_)
    · skip -- 12 taken
      refine wp_iconst (pc' := 26) (0) dX7_isPlace_25 rfl (by decide) ?_
      refine wp_zreturn (by decide) dX7_isPlace_26 rfl rfl (Nat.le_refl _) (Nat.le_refl _) ?_
      exact uI_of (by first | exact b2i_t (by (simp (disch := omega) only [Int32.lt_iff_toInt_lt, Int32.le_iff_toInt_le, ← Int32.toInt_inj, nI_toInt, il_0, il_1, il_2, il_3, il_4, il_5, il_6, il_8, il_9, il_10, il_16, il_26, il_32, il_40, il_n4, il_n1, il_n2, il_11, il_48, il_57, il_59, il_44, il_126, il_200, il_9999, il_66666, il_10000, il_1000000, il_15, il_12, il_256, il_4096, il_53, il_52] at *; omega)) | exact b2i_f (by (simp (disch := omega) only [Int32.lt_iff_toInt_lt, Int32.le_iff_toInt_le, ← Int32.toInt_inj, nI_toInt, il_0, il_1, il_2, il_3, il_4, il_5, il_6, il_8, il_9, il_10, il_16, il_26, il_32, il_40, il_n4, il_n1, il_n2, il_11, il_48, il_57, il_59, il_44, il_126, il_200, il_9999, il_66666, il_10000, il_1000000, il_15, il_12, il_256, il_4096, il_53, il_52] at *; omega)))
    · skip -- 12 not taken
      refine wp_iload_n_1 (pc' := 16) dX7_isPlace_15 rfl ?_
      refine wp_bipush (pc' := 18) (16) dX7_isPlace_16 rfl (by decide) ?_
      refine wp_icmp_ge (pc' := 21) (tgt := 25) dX7_isPlace_18 rfl rfl (fun c18 => ?_) (fun c18 => ?_)
      · skip -- 18 taken
        refine wp_iconst (pc' := 26) (0) dX7_isPlace_25 rfl (by decide) ?_
        refine wp_zreturn (by decide) dX7_isPlace_26 rfl rfl (Nat.le_refl _) (Nat.le_refl _) ?_
        exact uI_of (by first | exact b2i_t (by (simp (disch := omega) only [Int32.lt_iff_toInt_lt, Int32.le_iff_toInt_le, ← Int32.toInt_inj, nI_toInt, il_0, il_1, il_2, il_3, il_4, il_5, il_6, il_8, il_9, il_10, il_16, il_26, il_32, il_40, il_n4, il_n1, il_n2, il_11, il_48, il_57, il_59, il_44, il_126, il_200, il_9999, il_66666, il_10000, il_1000000, il_15, il_12, il_256, il_4096, il_53, il_52] at *; omega)) | exact b2i_f (by (simp (disch := omega) only [Int32.lt_iff_toInt_lt, Int32.le_iff_toInt_le, ← Int32.toInt_inj, nI_toInt, il_0, il_1, il_2, il_3, il_4, il_5, il_6, il_8, il_9, il_10, il_16, il_26, il_32, il_40, il_n4, il_n1, il_n2, il_11, il_48, il_57, il_59, il_44, il_126, il_200, il_9999, il_66666, il_10000, il_1000000, il_15, il_12, il_256, il_4096, il_53, il_52] at *; omega)))
      · skip -- 18 not taken
        refine wp_iconst (pc' := 22) (1) dX7_isPlace_21 rfl (by decide) ?_
        refine wp_goto (tgt := 26) dX7_isPlace_22 rfl ?_
        refine wp_zreturn (by decide) dX7_isPlace_26 rfl rfl (Nat.le_refl _) (Nat.le_refl _) ?_
        exact uI_of (by first | exact b2i_t (by (simp (disch := omega) only [Int32.lt_iff_toInt_lt, Int32.le_iff_toInt_le, ← Int32.toInt_inj, nI_toInt, il_0, il_1, il_2, il_3, il_4, il_5, il_6, il_8, il_9, il_10, il_16, il_26, il_32, il_40, il_n4, il_n1, il_n2, il_11, il_48, il_57, il_59, il_44, il_126, il_200, il_9999, il_66666, il_10000, il_1000000, il_15, il_12, il_256, il_4096, il_53, il_52] at *; omega)) | exact b2i_f (by (simp (disch := omega) only [Int32.lt_iff_toInt_lt, Int32.le_iff_toInt_le, ← Int32.toInt_inj, nI_toInt, il_0, il_1, il_2, il_3, il_4, il_5, il_6, il_8, il_9, il_10, il_16, il_26, il_32, il_40, il_n4, il_n1, il_n2, il_11, il_48, il_57, il_59, il_44, il_126, il_200, il_9999, il_66666, il_10000, il_1000000, il_15, il_12, il_256, il_4096, il_53, il_52] at *; omega)))
theorem c_X7_isWalk {W : Nat} (hn : 89 ≤ n) (hw : h 18 4 = nI W) (h5 : W ≤ 5) (x : Int32) : Ctr l D cy B yX7_isWalk wsX7_isWalk rmX7_isWalk 0 0 n (rf0 π) h lg [.ref (B + 0), .int x] (uI (b2i (ix x W).isSome) (rf0 π) h lg) := by
  rw [ix_dec (by omega)]
  refine Ctr.of (cc := cX7_isWalk) (nL := 2) (own := RX7) (rt := (some .boolean)) (ls := [some (.ref (B + 0)), some (.int x)]) (by decide) rfl rfl (Nat.le_of_ble_eq_true rfl) rfl ?_
  refine wp_iload_n_1 (pc' := 1) dX7_isWalk_0 rfl ?_
  refine wp_if_lt (pc' := 4) (tgt := 24) dX7_isWalk_1 rfl rfl (fun c1 => ?_) (fun c1 => ?_)
  · skip -- 1 taken
    refine wp_iconst (pc' := 25) (0) dX7_isWalk_24 rfl (by decide) ?_
    refine wp_zreturn (by decide) dX7_isWalk_25 rfl rfl (Nat.le_refl _) (Nat.le_refl _) ?_
    exact uI_of (by first | exact b2i_t (by (simp (disch := omega) only [Int32.lt_iff_toInt_lt, Int32.le_iff_toInt_le, ← Int32.toInt_inj, nI_toInt, il_0, il_1, il_2, il_3, il_4, il_5, il_6, il_8, il_9, il_10, il_16, il_26, il_32, il_40, il_n4, il_n1, il_n2, il_11, il_48, il_57, il_59, il_44, il_126, il_200, il_9999, il_66666, il_10000, il_1000000, il_15, il_12, il_256, il_4096, il_53, il_52] at *; omega)) | exact b2i_f (by (simp (disch := omega) only [Int32.lt_iff_toInt_lt, Int32.le_iff_toInt_le, ← Int32.toInt_inj, nI_toInt, il_0, il_1, il_2, il_3, il_4, il_5, il_6, il_8, il_9, il_10, il_16, il_26, il_32, il_40, il_n4, il_n1, il_n2, il_11, il_48, il_57, il_59, il_44, il_126, il_200, il_9999, il_66666, il_10000, il_1000000, il_15, il_12, il_256, il_4096, il_53, il_52] at *; omega)))
  · skip -- 1 not taken
    refine wp_iload_n_1 (pc' := 5) dX7_isWalk_4 rfl ?_
    refine wp_aload_n_0 (pc' := 6) dX7_isWalk_5 rfl ?_
    refine wp_get_7_3 (pc' := 9) (by omega) rfl rfl me_X7_isWalk_0 ic_X7_isWalk_7 dX7_isWalk_6 rfl ?_
    refine wp_get_5_4 (pc' := 12) (by omega) rfl me_X7_isWalk_1 ic_X7_isWalk_5 dX7_isWalk_9 rfl ?_
    rw [hw]
    refine wp_icmp_ge (pc' := 15) (tgt := 24) dX7_isWalk_12 rfl rfl (fun c12 => ?_) (fun c12 => ?_)
    · skip -- 12 taken
      refine wp_iconst (pc' := 25) (0) dX7_isWalk_24 rfl (by decide) ?_
      refine wp_zreturn (by decide) dX7_isWalk_25 rfl rfl (Nat.le_refl _) (Nat.le_refl _) ?_
      exact uI_of (by first | exact b2i_t (by (simp (disch := omega) only [Int32.lt_iff_toInt_lt, Int32.le_iff_toInt_le, ← Int32.toInt_inj, nI_toInt, il_0, il_1, il_2, il_3, il_4, il_5, il_6, il_8, il_9, il_10, il_16, il_26, il_32, il_40, il_n4, il_n1, il_n2, il_11, il_48, il_57, il_59, il_44, il_126, il_200, il_9999, il_66666, il_10000, il_1000000, il_15, il_12, il_256, il_4096, il_53, il_52] at *; omega)) | exact b2i_f (by (simp (disch := omega) only [Int32.lt_iff_toInt_lt, Int32.le_iff_toInt_le, ← Int32.toInt_inj, nI_toInt, il_0, il_1, il_2, il_3, il_4, il_5, il_6, il_8, il_9, il_10, il_16, il_26, il_32, il_40, il_n4, il_n1, il_n2, il_11, il_48, il_57, il_59, il_44, il_126, il_200, il_9999, il_66666, il_10000, il_1000000, il_15, il_12, il_256, il_4096, il_53, il_52] at *; omega)))
    · skip -- 12 not taken
      refine wp_iload_n_1 (pc' := 16) dX7_isWalk_15 rfl ?_
      refine wp_iconst (pc' := 17) (5) dX7_isWalk_16 rfl (by decide) ?_
      refine wp_icmp_ge (pc' := 20) (tgt := 24) dX7_isWalk_17 rfl rfl (fun c17 => ?_) (fun c17 => ?_)
      · skip -- 17 taken
        refine wp_iconst (pc' := 25) (0) dX7_isWalk_24 rfl (by decide) ?_
        refine wp_zreturn (by decide) dX7_isWalk_25 rfl rfl (Nat.le_refl _) (Nat.le_refl _) ?_
        exact uI_of (by first | exact b2i_t (by (simp (disch := omega) only [Int32.lt_iff_toInt_lt, Int32.le_iff_toInt_le, ← Int32.toInt_inj, nI_toInt, il_0, il_1, il_2, il_3, il_4, il_5, il_6, il_8, il_9, il_10, il_16, il_26, il_32, il_40, il_n4, il_n1, il_n2, il_11, il_48, il_57, il_59, il_44, il_126, il_200, il_9999, il_66666, il_10000, il_1000000, il_15, il_12, il_256, il_4096, il_53, il_52] at *; omega)) | exact b2i_f (by (simp (disch := omega) only [Int32.lt_iff_toInt_lt, Int32.le_iff_toInt_le, ← Int32.toInt_inj, nI_toInt, il_0, il_1, il_2, il_3, il_4, il_5, il_6, il_8, il_9, il_10, il_16, il_26, il_32, il_40, il_n4, il_n1, il_n2, il_11, il_48, il_57, il_59, il_44, il_126, il_200, il_9999, il_66666, il_10000, il_1000000, il_15, il_12, il_256, il_4096, il_53, il_52] at *; omega)))
      · skip -- 17 not taken
        refine wp_iconst (pc' := 21) (1) dX7_isWalk_20 rfl (by decide) ?_
        refine wp_goto (tgt := 25) dX7_isWalk_21 rfl ?_
        refine wp_zreturn (by decide) dX7_isWalk_25 rfl rfl (Nat.le_refl _) (Nat.le_refl _) ?_
        exact uI_of (by first | exact b2i_t (by (simp (disch := omega) only [Int32.lt_iff_toInt_lt, Int32.le_iff_toInt_le, ← Int32.toInt_inj, nI_toInt, il_0, il_1, il_2, il_3, il_4, il_5, il_6, il_8, il_9, il_10, il_16, il_26, il_32, il_40, il_n4, il_n1, il_n2, il_11, il_48, il_57, il_59, il_44, il_126, il_200, il_9999, il_66666, il_10000, il_1000000, il_15, il_12, il_256, il_4096, il_53, il_52] at *; omega)) | exact b2i_f (by (simp (disch := omega) only [Int32.lt_iff_toInt_lt, Int32.le_iff_toInt_le, ← Int32.toInt_inj, nI_toInt, il_0, il_1, il_2, il_3, il_4, il_5, il_6, il_8, il_9, il_10, il_16, il_26, il_32, il_40, il_n4, il_n1, il_n2, il_11, il_48, il_57, il_59, il_44, il_126, il_200, il_9999, il_66666, il_10000, il_1000000, il_15, il_12, il_256, il_4096, il_53, il_52] at *; omega)))
theorem c_X7_present {R C : Nat} {ρ : Nat → Nat} (hn : 89 ≤ n) (q : ShL h 11 R C) (xr : XR h 18 ρ) (ok : RowOK ρ) : Ctr l D cy B yX7_present wsX7_present rmX7_present 0 0 n (rf0 π) h lg [.ref (B + 0)] (qR B 10 (fun h' => (∀ a, a ≠ 13 → h' a = h a) ∧ Sp h' R C ρ) (rf0 π) lg) := by
  refine Ctr.of (cc := cX7_present) (nL := 1) (own := RX7) (rt := (some (.object "DrawnByLost$Finder"))) (ls := [some (.ref (B + 0))]) (by decide) rfl rfl (Nat.le_of_ble_eq_true rfl) rfl ?_
  refine wp_aload_n_0 (pc' := 1) dX7_present_0 rfl ?_
  refine wp_get_7_1 (pc' := 4) (by omega) rfl rfl me_X7_present_0 ic_X7_present_7 dX7_present_1 rfl ?_
  refine wp_aload_n_0 (pc' := 5) dX7_present_4 rfl ?_
  refine wp_get_7_3 (pc' := 8) (by omega) rfl rfl me_X7_present_1 ic_X7_present_7 dX7_present_5 rfl ?_
  refine wp_get_5_0 (pc' := 11) (by omega) rfl rfl me_X7_present_2 ic_X7_present_5 dX7_present_8 rfl ?_
  refine wp_callVv (pc' := 14) (c_X0_look (s := 18) hn st18 q xr.1 ok.1) gX7_present_X0_look rfl rfl hy_X0_look ⟨Nat.le_of_ble_eq_true rfl, Nat.le_of_ble_eq_true rfl⟩ ⟨rfl, rfl⟩ (Nat.le_of_ble_eq_true rfl) ⟨Nat.le_of_ble_eq_true rfl, Nat.le_of_ble_eq_true rfl⟩ (by omega) (ce0 rfl) rfl rfl dX7_present_11 rfl (fun h11 q11 => ?_)
  refine wp_aload_n_0 (pc' := 15) dX7_present_14 rfl ?_
  refine wp_get_7_1 (pc' := 18) (by omega) rfl rfl me_X7_present_0 ic_X7_present_7 dX7_present_15 rfl ?_
  refine wp_areturn dX7_present_18 rfl rfl (Nat.le_refl _) (Nat.le_refl _) ?_
  exact ⟨rfl, rfl, rfl, q11⟩
theorem lp_X7_allCanLie {s R C : Nat} {ρ : Nat → Nat} {post : PO} (hn : 89 ≤ n) (hs : St s) (H0 : Hp) (q0 : ShL H0 11 R C) (sp0 : Sp H0 R C ρ) (xr0 : XR H0 s ρ) (ok : RowOK ρ)
    (K : ∀ h', (∀ a, a ≠ 14 → h' a = H0 a) → post (some (.int (b2i (!anyL R C ρ)))) (rf0 π) h' lg) :
    ∀ d w : Nat, w + d = ρ 16 → (∀ v, v < w → lieB R C ρ v = false) → ∀ h', (∀ a, a ≠ 14 → h' a = H0 a) → WP l D cy B cX7_allCanLie 3 RX7 wsX7_allCanLie rmX7_allCanLie (some .boolean) (QE0 D cy B n 0 0 (post)) EX0 n (rf0 π) h' lg 0 0 13 [some (.ref (B + 0)), some (.ref (B + s)), some (.int (nI w))] [] := by
  have hl := q0.1.le
  have h5 := ok.2.1
  intro d
  induction d with
  | zero =>
    intro w hw hv h' e0
    have xr := xr0.congr (h' := h') (fun a h1 h2 => e0 a (by have := hs.zone h1 h2; omega))
    have : w = ρ 16 := by omega
    subst this
    have z : anyL R C ρ = false := by
      unfold anyL
      rw [Bool.eq_false_iff]
      intro q
      obtain ⟨v, h1, h2⟩ := anyB_iff.mp q
      rw [hv v h1] at h2; cases h2
    rw [z] at K
    refine wp_iload_n_2 (pc' := 14) dX7_allCanLie_13 rfl ?_
    refine wp_aload_n_1 (pc' := 15) dX7_allCanLie_14 rfl ?_
    refine wp_get_5_4 (pc' := 18) (hs.lt (by omega)) hs.K me_X7_allCanLie_0 ic_X7_allCanLie_5 dX7_allCanLie_15 rfl ?_
    refine wp_icmp_ge (pc' := 21) (tgt := 48) dX7_allCanLie_18 rfl rfl (fun c18 => ?_) (fun c18 => by exfalso; rw [xr.2.1] at c18; exact c18 (nI_le (by omega) (by omega)))
    refine wp_iconst (pc' := 49) (1) dX7_allCanLie_48 rfl (by decide) ?_
    refine wp_zreturn (by decide) dX7_allCanLie_49 rfl rfl (Nat.le_refl _) (Nat.le_refl _) ?_
    exact K h' e0
  | succ d ih =>
    intro w hwd hv h' e0
    have q := q0.of_eq (e0 11 (by decide))
    have sp := sp0.of_eq (e0 13 (by decide))
    have xr := xr0.congr (h' := h') (fun a h1 h2 => e0 a (by have := hs.zone h1 h2; omega))
    have hw : w < ρ 16 := by omega
    refine wp_iload_n_2 (pc' := 14) dX7_allCanLie_13 rfl ?_
    refine wp_aload_n_1 (pc' := 15) dX7_allCanLie_14 rfl ?_
    refine wp_get_5_4 (pc' := 18) (hs.lt (by omega)) hs.K me_X7_allCanLie_0 ic_X7_allCanLie_5 dX7_allCanLie_15 rfl ?_
    refine wp_icmp_ge (pc' := 21) (tgt := 48) dX7_allCanLie_18 rfl rfl (fun c18 => by exfalso; rw [xr.2.1] at c18; exact nI_ge (by omega) (by omega) c18) (fun c18 => ?_)
    refine wp_aload_n_0 (pc' := 22) dX7_allCanLie_21 rfl ?_
    refine wp_get_7_1 (pc' := 25) (by omega) rfl rfl me_X7_allCanLie_1 ic_X7_allCanLie_7 dX7_allCanLie_22 rfl ?_
    refine wp_aload_n_1 (pc' := 26) dX7_allCanLie_25 rfl ?_
    refine wp_iload_n_2 (pc' := 27) dX7_allCanLie_26 rfl ?_
    refine wp_aload_n_0 (pc' := 28) dX7_allCanLie_27 rfl ?_
    refine wp_get_7_2 (pc' := 31) (by omega) rfl rfl me_X7_allCanLie_2 ic_X7_allCanLie_7 dX7_allCanLie_28 rfl ?_
    refine wp_get_1_2 (pc' := 34) (by omega) rfl me_X7_allCanLie_3 ic_X7_allCanLie_1 dX7_allCanLie_31 rfl ?_
    rw [q.all]
    refine wp_callVq (pc' := 37) (c_X0_goFrom (mk := ρ) hn hs q sp xr ok hw) gX7_allCanLie_X0_goFrom rfl rfl hy_X0_goFrom ⟨Nat.le_of_ble_eq_true rfl, Nat.le_of_ble_eq_true rfl⟩ ⟨rfl, rfl⟩ (Nat.le_of_ble_eq_true rfl) ⟨Nat.le_of_ble_eq_true rfl, Nat.le_of_ble_eq_true rfl⟩ (by omega) (ce0 rfl) rfl rfl dX7_allCanLie_34 rfl (fun x34 h34 q34 => ?_)
    obtain ⟨g0, g1, _⟩ := q34
    subst g0
    rw [fw_all]
    refine wp_if_ne (pc' := 40) (tgt := 42) dX7_allCanLie_37 rfl rfl (fun c37 => ?_) (fun c37 => ?_)
    · skip -- 37 taken
      refine wp_iinc_2 (pc' := 45) (v := nI (w + 1)) dX7_allCanLie_42 (by first | rfl | exact nI_1 _) (by decide) rfl rfl ?_
      refine wp_goto (tgt := 13) dX7_allCanLie_45 rfl ?_
      refine ih (w + 1) (by omega) (fun v hv2 => ?_) h34 (fun a ha => by rw [g1 a ha]; exact e0 a ha)
      by_cases e : v = w
      · subst e; unfold lieB; exact decide_eq_false (fun z => c37 ((fw_ways hl).mpr z))
      · exact hv v (by omega)
    · skip -- 37 not taken
      refine wp_iconst (pc' := 41) (0) dX7_allCanLie_40 rfl (by decide) ?_
      refine wp_zreturn (by decide) dX7_allCanLie_41 rfl rfl (Nat.le_refl _) (Nat.le_refl _) ?_
      have z := (fw_ways hl).mp c37
      have z1 : anyL R C ρ = true := anyB_iff.mpr ⟨w, hw, by unfold lieB; exact decide_eq_true z⟩
      rw [z1] at K
      exact K h34 (fun a ha => by rw [g1 a ha]; exact e0 a ha)
theorem c_X7_allCanLie {s R C : Nat} {ρ : Nat → Nat} (hn : 89 ≤ n) (hs : St s) (q : ShL h 11 R C) (xr : XR h s ρ) (ok : RowOK ρ) : Ctr l D cy B yX7_allCanLie wsX7_allCanLie rmX7_allCanLie 0 0 n (rf0 π) h lg [.ref (B + 0), .ref (B + s)] (qI (fun x h' => x = b2i (!anyL R C ρ) ∧ (∀ a, a ≠ 13 → a ≠ 14 → h' a = h a)) (rf0 π) lg) := by
  refine Ctr.of (cc := cX7_allCanLie) (nL := 3) (own := RX7) (rt := (some .boolean)) (ls := [some (.ref (B + 0)), some (.ref (B + s)), none]) (by decide) rfl rfl (Nat.le_of_ble_eq_true rfl) rfl ?_
  refine wp_aload_n_0 (pc' := 1) dX7_allCanLie_0 rfl ?_
  refine wp_get_7_1 (pc' := 4) (by omega) rfl rfl me_X7_allCanLie_1 ic_X7_allCanLie_7 dX7_allCanLie_1 rfl ?_
  refine wp_aload_n_1 (pc' := 5) dX7_allCanLie_4 rfl ?_
  refine wp_get_5_0 (pc' := 8) (hs.lt (by omega)) hs.K (hs.r0) me_X7_allCanLie_4 ic_X7_allCanLie_5 dX7_allCanLie_5 rfl ?_
  refine wp_callVv (pc' := 11) (c_X0_look hn hs q xr.1 ok.1) gX7_allCanLie_X0_look rfl rfl hy_X0_look ⟨Nat.le_of_ble_eq_true rfl, Nat.le_of_ble_eq_true rfl⟩ ⟨rfl, rfl⟩ (Nat.le_of_ble_eq_true rfl) ⟨Nat.le_of_ble_eq_true rfl, Nat.le_of_ble_eq_true rfl⟩ (by omega) (ce0 rfl) rfl rfl dX7_allCanLie_8 rfl (fun h8 q8 => ?_)
  refine wp_iconst (pc' := 12) (0) dX7_allCanLie_11 rfl (by decide) ?_
  refine wp_istore_n_2 (pc' := 13) dX7_allCanLie_12 (by decide) rfl rfl ?_
  obtain ⟨g0, g1⟩ := q8
  exact lp_X7_allCanLie hn hs h8 (q.of_eq (g0 11 (by decide))) g1 (xr.congr (fun a h1 h2 => g0 a (by have := hs.zone h1 h2; omega))) ok (fun h' e0 => qI_of ⟨rfl, fun a h1 h2 => by rw [e0 a h2]; exact g0 a h1⟩) (ρ 16) 0 (by omega) (fun v hv => by omega) h8 (fun _ _ => rfl)
theorem c_X7_wouldMend {R C x y : Nat} {ρ : Nat → Nat} (hn : 89 ≤ n) (q : ShL h 11 R C) (xr : XR h 23 ρ) (ok : RowOK ρ) (hx0 : x < R * C) (hy0 : y < R * C) : Ctr l D cy B yX7_wouldMend wsX7_wouldMend rmX7_wouldMend 0 0 n (rf0 π) h lg [.ref (B + 0), .int (nI x), .int (nI y)] (qI (fun b h' => b = b2i (decide (ρ x ≠ ρ y) && !anyL R C (swapR ρ x y)) ∧ (∀ a, a ≠ 13 → a ≠ 14 → a ≠ 24 → h' a = h a) ∧ XR h' 23 ρ) (rf0 π) lg) := by
  have hl := q.1.le
  have hx : x < 16 := by omega
  have hy : y < 16 := by omega
  have ex : b2i (ix (nI x) (R * C)).isSome = 1 := by rw [ix_nI hx0 (by omega)]; rfl
  have ey : b2i (ix (nI y) (R * C)).isSome = 1 := by rw [ix_nI hy0 (by omega)]; rfl
  have ok2 := swapR_ok ok hx hy
  have xr2 := xr.swap hx hy
  have x5 := ok.1 x hx
  have y5 := ok.1 y hy
  refine Ctr.of (cc := cX7_wouldMend) (nL := 4) (own := RX7) (rt := (some .boolean)) (ls := [some (.ref (B + 0)), some (.int (nI x)), some (.int (nI y)), none]) (by decide) rfl rfl (Nat.le_of_ble_eq_true rfl) rfl ?_
  refine wp_aload_n_0 (pc' := 1) dX7_wouldMend_0 rfl ?_
  refine wp_iload_n_1 (pc' := 2) dX7_wouldMend_1 rfl ?_
  refine wp_callVu (pc' := 5) (c_X7_isPlace hn q _) gX7_wouldMend_X7_isPlace rfl rfl hy_X7_isPlace ⟨Nat.le_of_ble_eq_true rfl, Nat.le_of_ble_eq_true rfl⟩ ⟨rfl, rfl⟩ (Nat.le_of_ble_eq_true rfl) ⟨Nat.le_of_ble_eq_true rfl, Nat.le_of_ble_eq_true rfl⟩ (by omega) (ce7 rfl) rfl rfl dX7_wouldMend_2 rfl ?_
  rw [ex]
  refine wp_if_eq (pc' := 8) (tgt := 37) dX7_wouldMend_5 rfl rfl (fun c5 => by exfalso; exact absurd c5 (by decide)) (fun c5 => ?_)
  refine wp_aload_n_0 (pc' := 9) dX7_wouldMend_8 rfl ?_
  refine wp_iload_n_2 (pc' := 10) dX7_wouldMend_9 rfl ?_
  refine wp_callVu (pc' := 13) (c_X7_isPlace hn q _) gX7_wouldMend_X7_isPlace rfl rfl hy_X7_isPlace ⟨Nat.le_of_ble_eq_true rfl, Nat.le_of_ble_eq_true rfl⟩ ⟨rfl, rfl⟩ (Nat.le_of_ble_eq_true rfl) ⟨Nat.le_of_ble_eq_true rfl, Nat.le_of_ble_eq_true rfl⟩ (by omega) (ce7 rfl) rfl rfl dX7_wouldMend_10 rfl ?_
  rw [ey]
  refine wp_if_eq (pc' := 16) (tgt := 37) dX7_wouldMend_13 rfl rfl (fun c13 => by exfalso; exact absurd c13 (by decide)) (fun c13 => ?_)
  refine wp_aload_n_0 (pc' := 17) dX7_wouldMend_16 rfl ?_
  refine wp_get_7_4 (pc' := 20) (by omega) rfl rfl me_X7_wouldMend_0 ic_X7_wouldMend_7 dX7_wouldMend_17 rfl ?_
  refine wp_get_5_0 (pc' := 23) (by omega) rfl rfl me_X7_wouldMend_1 ic_X7_wouldMend_5 dX7_wouldMend_20 rfl ?_
  refine wp_iload_n_1 (pc' := 24) dX7_wouldMend_23 rfl ?_
  refine wp_iald (pc' := 25) (N := 16) (by omega) rfl rfl (by first | exact vp_in_nI (by omega) (by omega) | assumption | (unfold vp_in; decide)) dX7_wouldMend_24 rfl ?_
  rw [nI_clamp (by omega), show h 24 x = nI (ρ x) from xr.1 x hx]
  refine wp_aload_n_0 (pc' := 26) dX7_wouldMend_25 rfl ?_
  refine wp_get_7_4 (pc' := 29) (by omega) rfl rfl me_X7_wouldMend_0 ic_X7_wouldMend_7 dX7_wouldMend_26 rfl ?_
  refine wp_get_5_0 (pc' := 32) (by omega) rfl rfl me_X7_wouldMend_1 ic_X7_wouldMend_5 dX7_wouldMend_29 rfl ?_
  refine wp_iload_n_2 (pc' := 33) dX7_wouldMend_32 rfl ?_
  refine wp_iald (pc' := 34) (N := 16) (by omega) rfl rfl (by first | exact vp_in_nI (by omega) (by omega) | assumption | (unfold vp_in; decide)) dX7_wouldMend_33 rfl ?_
  rw [nI_clamp (by omega), show h 24 y = nI (ρ y) from xr.1 y hy]
  refine wp_icmp_ne (pc' := 37) (tgt := 39) dX7_wouldMend_34 rfl rfl (fun c34 => ?_) (fun c34 => ?_)
  · skip -- 34 taken
    refine wp_aload_n_0 (pc' := 40) dX7_wouldMend_39 rfl ?_
    refine wp_get_7_4 (pc' := 43) (by omega) rfl rfl me_X7_wouldMend_0 ic_X7_wouldMend_7 dX7_wouldMend_40 rfl ?_
    refine wp_iload_n_1 (pc' := 44) dX7_wouldMend_43 rfl ?_
    refine wp_iload_n_2 (pc' := 45) dX7_wouldMend_44 rfl ?_
    refine wp_callVv (pc' := 48) (c_X5_trade hn st23 hx hy) gX7_wouldMend_X5_trade rfl rfl hy_X5_trade ⟨Nat.le_of_ble_eq_true rfl, Nat.le_of_ble_eq_true rfl⟩ ⟨rfl, rfl⟩ (Nat.le_of_ble_eq_true rfl) ⟨Nat.le_of_ble_eq_true rfl, Nat.le_of_ble_eq_true rfl⟩ (by omega) (ce5 rfl) rfl rfl dX7_wouldMend_45 rfl (fun h45 q45 => ?_)
    subst q45
    refine wp_aload_n_0 (pc' := 49) dX7_wouldMend_48 rfl ?_
    refine wp_aload_n_0 (pc' := 50) dX7_wouldMend_49 rfl ?_
    refine wp_get_7_4 (pc' := 53) (by omega) rfl rfl me_X7_wouldMend_0 ic_X7_wouldMend_7 dX7_wouldMend_50 rfl ?_
    refine wp_callVq (pc' := 56) (c_X7_allCanLie hn st23 (q.of_eq (by rw [hup_cell (by decide), hup_cell (by decide)])) xr2 ok2) gX7_wouldMend_X7_allCanLie rfl rfl hy_X7_allCanLie ⟨Nat.le_of_ble_eq_true rfl, Nat.le_of_ble_eq_true rfl⟩ ⟨rfl, rfl⟩ (Nat.le_of_ble_eq_true rfl) ⟨Nat.le_of_ble_eq_true rfl, Nat.le_of_ble_eq_true rfl⟩ (by omega) (ce7 rfl) rfl rfl dX7_wouldMend_53 rfl (fun x53 h53 q53 => ?_)
    obtain ⟨g0, g1⟩ := q53
    subst g0
    have xr3 := xr2.congr (h' := h53) (fun a h1 h2 => g1 a (by omega) (by omega))
    have xr4 := xr3.swap hx hy
    rw [swapR_swap] at xr4
    refine wp_istore_n_3 (pc' := 57) dX7_wouldMend_56 (by decide) rfl rfl ?_
    refine wp_aload_n_0 (pc' := 58) dX7_wouldMend_57 rfl ?_
    refine wp_get_7_4 (pc' := 61) (by omega) rfl rfl me_X7_wouldMend_0 ic_X7_wouldMend_7 dX7_wouldMend_58 rfl ?_
    refine wp_iload_n_1 (pc' := 62) dX7_wouldMend_61 rfl ?_
    refine wp_iload_n_2 (pc' := 63) dX7_wouldMend_62 rfl ?_
    refine wp_callVv (pc' := 66) (c_X5_trade hn st23 hx hy) gX7_wouldMend_X5_trade rfl rfl hy_X5_trade ⟨Nat.le_of_ble_eq_true rfl, Nat.le_of_ble_eq_true rfl⟩ ⟨rfl, rfl⟩ (Nat.le_of_ble_eq_true rfl) ⟨Nat.le_of_ble_eq_true rfl, Nat.le_of_ble_eq_true rfl⟩ (by omega) (ce5 rfl) rfl rfl dX7_wouldMend_63 rfl (fun h63 q63 => ?_)
    subst q63
    refine wp_iload_n_3 (pc' := 67) dX7_wouldMend_66 rfl ?_
    refine wp_zreturn (b2i_nar _) dX7_wouldMend_67 rfl rfl (Nat.le_refl _) (Nat.le_refl _) ?_
    exact qI_of ⟨by rw [decide_eq_true (p := ρ x ≠ ρ y) (fun z => c34 (by rw [z]))]; rfl, fun a h1 h2 h3 => by rw [hup_cell h3, hup_cell h3, g1 a h1 h2, hup_cell h3, hup_cell h3], xr4⟩
  · skip -- 34 not taken
    refine wp_iconst (pc' := 38) (0) dX7_wouldMend_37 rfl (by decide) ?_
    refine wp_zreturn (by decide) dX7_wouldMend_38 rfl rfl (Nat.le_refl _) (Nat.le_refl _) ?_
    exact qI_of ⟨by rw [decide_eq_false (p := ρ x ≠ ρ y) (fun z => z ((nI_eq (by omega) (by omega)).mp c34))]; rfl, fun _ _ _ _ => rfl, xr⟩
/-- THE TEXT laid: what stands then -/
def layO (len : Nat) (tx : Nat → Nat) : Option PSt := if (prs len tx 200 0 ps0).1 = -4 ∧ (prs len tx 200 0 ps0).2.2.2.2.2 16 ≠ 0 then some (prs len tx 200 0 ps0).2 else none
theorem c_X7_takeOver {len : Nat} {tx : Nat → Nat} (hn : 89 ≤ n) (T : TX h len tx) : Ctr l D cy B yX7_takeOver wsX7_takeOver rmX7_takeOver 0 0 n (rf0 π) h lg [.ref (B + 0)] (qI (fun x h' => h' 1 1 = h 1 1 ∧ (∀ a, a = 0 ∨ a = 2 ∨ a = 10 ∨ (13 ≤ a ∧ a ≤ 17) ∨ 23 ≤ a → h' a = h a) ∧ match layO len tx with
    | none => x = 0 ∧ ∀ a, 10 ≤ a → h' a = h a
    | some s => x = 1 ∧ PSok s ∧ ShL h' 11 s.1 s.2.1 ∧ HU h' s.2.2.2.1 ∧ XR h' 18 s.2.2.2.2) (rf0 π) lg) := by
  refine Ctr.of (cc := cX7_takeOver) (nL := 1) (own := RX7) (rt := (some .boolean)) (ls := [some (.ref (B + 0))]) (by decide) rfl rfl (Nat.le_of_ble_eq_true rfl) rfl ?_
  refine wp_aload_n_0 (pc' := 1) dX7_takeOver_0 rfl ?_
  refine wp_get_7_0 (pc' := 4) (by omega) rfl rfl me_X7_takeOver_0 ic_X7_takeOver_7 dX7_takeOver_1 rfl ?_
  refine wp_callVq (pc' := 7) (c_X3_read hn T) gX7_takeOver_X3_read rfl rfl hy_X3_read ⟨Nat.le_of_ble_eq_true rfl, Nat.le_of_ble_eq_true rfl⟩ ⟨rfl, rfl⟩ (Nat.le_of_ble_eq_true rfl) ⟨Nat.le_of_ble_eq_true rfl, Nat.le_of_ble_eq_true rfl⟩ (by omega) (ce3 rfl) rfl rfl dX7_takeOver_4 rfl (fun x4 h4 q4 => ?_)
  obtain ⟨g0, g1, g2, g3⟩ := q4
  subst g0
  refine wp_bipush (pc' := 9) (-4) dX7_takeOver_7 rfl (by decide) ?_
  refine wp_icmp_ne (pc' := 12) (tgt := 25) dX7_takeOver_9 rfl rfl (fun c9 => ?_) (fun c9 => ?_)
  · skip -- 9 taken
    refine wp_iconst (pc' := 26) (0) dX7_takeOver_25 rfl (by decide) ?_
    refine wp_zreturn (by decide) dX7_takeOver_26 rfl rfl (Nat.le_refl _) (Nat.le_refl _) ?_
    refine qI_of ⟨g2, fun a ha => g1 a (by omega), ?_⟩
    rw [show layO len tx = none from if_neg (fun z => c9 z.1)]
    exact ⟨rfl, fun a ha => g1 a (by omega)⟩
  · skip -- 9 not taken
    obtain ⟨rs, ps⟩ := g3 c9
    obtain ⟨r1, r2, r3, r4⟩ := rs
    refine wp_aload_n_0 (pc' := 13) dX7_takeOver_12 rfl ?_
    refine wp_get_7_0 (pc' := 16) (by omega) rfl rfl me_X7_takeOver_0 ic_X7_takeOver_7 dX7_takeOver_13 rfl ?_
    refine wp_get_3_7 (pc' := 19) (by omega) rfl rfl me_X7_takeOver_1 ic_X7_takeOver_3 dX7_takeOver_16 rfl ?_
    refine wp_get_5_4 (pc' := 22) (by omega) rfl me_X7_takeOver_2 ic_X7_takeOver_5 dX7_takeOver_19 rfl ?_
    rw [r3.2.1]
    refine wp_if_ne (pc' := 25) (tgt := 27) dX7_takeOver_22 rfl rfl (fun c22 => ?_) (fun c22 => ?_)
    · skip -- 22 taken
      refine wp_aload_n_0 (pc' := 28) dX7_takeOver_27 rfl ?_
      refine wp_get_7_2 (pc' := 31) (by omega) rfl rfl me_X7_takeOver_3 ic_X7_takeOver_7 dX7_takeOver_28 rfl ?_
      refine wp_aload_n_0 (pc' := 32) dX7_takeOver_31 rfl ?_
      refine wp_get_7_0 (pc' := 35) (by omega) rfl rfl me_X7_takeOver_0 ic_X7_takeOver_7 dX7_takeOver_32 rfl ?_
      refine wp_get_3_6 (pc' := 38) (by omega) rfl rfl me_X7_takeOver_4 ic_X7_takeOver_3 dX7_takeOver_35 rfl ?_
      refine wp_callVv (pc' := 41) (c_X1_copy hn la11 la3 (by decide) ps.1 r1.2.1 r1.2.2.1) gX7_takeOver_X1_copy rfl rfl hy_X1_copy ⟨Nat.le_of_ble_eq_true rfl, Nat.le_of_ble_eq_true rfl⟩ ⟨rfl, rfl⟩ (Nat.le_of_ble_eq_true rfl) ⟨Nat.le_of_ble_eq_true rfl, Nat.le_of_ble_eq_true rfl⟩ (by omega) (ce1 rfl) rfl rfl dX7_takeOver_38 rfl (fun h38 q38 => ?_)
      obtain ⟨f1, f2, f3⟩ := q38
      refine wp_aload_n_0 (pc' := 42) dX7_takeOver_41 rfl ?_
      refine wp_get_7_3 (pc' := 45) (by omega) rfl rfl me_X7_takeOver_5 ic_X7_takeOver_7 dX7_takeOver_42 rfl ?_
      refine wp_aload_n_0 (pc' := 46) dX7_takeOver_45 rfl ?_
      refine wp_get_7_0 (pc' := 49) (by omega) rfl rfl me_X7_takeOver_0 ic_X7_takeOver_7 dX7_takeOver_46 rfl ?_
      refine wp_get_3_7 (pc' := 52) (by omega) rfl rfl me_X7_takeOver_1 ic_X7_takeOver_3 dX7_takeOver_49 rfl ?_
      refine wp_callVv (pc' := 55) (c_X5_copy hn st18 st5 (by decide)) gX7_takeOver_X5_copy rfl rfl hy_X5_copy ⟨Nat.le_of_ble_eq_true rfl, Nat.le_of_ble_eq_true rfl⟩ ⟨rfl, rfl⟩ (Nat.le_of_ble_eq_true rfl) ⟨Nat.le_of_ble_eq_true rfl, Nat.le_of_ble_eq_true rfl⟩ (by omega) (ce5 rfl) rfl rfl dX7_takeOver_52 rfl (fun h52 q52 => ?_)
      refine wp_iconst (pc' := 56) (1) dX7_takeOver_55 rfl (by decide) ?_
      refine wp_zreturn (by decide) dX7_takeOver_56 rfl rfl (Nat.le_refl _) (Nat.le_refl _) ?_
      refine qI_of ⟨by rw [q52.1 1 (by omega), f1 1 (by decide) (by decide)]; exact g2, fun a ha => by rw [q52.1 a (by omega), f1 a (by omega) (by omega)]; exact g1 a (by omega), ?_⟩
      rw [show layO len tx = some (prs len tx 200 0 ps0).2 from if_pos ⟨c9, fun z => c22 (by rw [z]; rfl)⟩]
      refine ⟨rfl, ps, f2.of_eq (q52.1 11 (by omega)), fun m hm => ?_, ?_⟩
      · rw [q52.1 12 (by omega)]
        exact ⟨(f3 m hm).trans (r2 m hm), ps.2.2 m hm⟩
      · exact XR.of_copy ps.2.1 (r3.congr (fun a h1 h2 => f1 a (by omega) (by omega))) q52
    · skip -- 22 not taken
      refine wp_iconst (pc' := 26) (0) dX7_takeOver_25 rfl (by decide) ?_
      refine wp_zreturn (by decide) dX7_takeOver_26 rfl rfl (Nat.le_refl _) (Nat.le_refl _) ?_
      refine qI_of ⟨g2, fun a ha => g1 a (by omega), ?_⟩
      rw [show layO len tx = none from if_neg (fun z => z.2 (by have := ps.2.1.2.1; (simp (disch := omega) only [Int32.lt_iff_toInt_lt, Int32.le_iff_toInt_le, ← Int32.toInt_inj, nI_toInt, il_0, il_1, il_2, il_3, il_4, il_5, il_6, il_8, il_9, il_10, il_16, il_26, il_32, il_40, il_n4, il_n1, il_n2, il_11, il_48, il_57, il_59, il_44, il_126, il_200, il_9999, il_66666, il_10000, il_1000000, il_15, il_12, il_256, il_4096, il_53, il_52] at c22; omega)))]
      exact ⟨rfl, fun a ha => g1 a (by omega)⟩
end VPV

