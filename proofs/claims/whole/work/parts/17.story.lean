abbrev rmX5_append : Room := { frames := 0, cells := 0, slots := 0, locals := 0 }
theorem hy_X5_append : yX5_append.cls = RX5 ∧ yX5_append.cls ≠ "java/lang/invoke/MethodHandle" ∧ yX5_append.cls ≠ "java/lang/invoke/VarHandle" ∧ (parseMethodDescriptor yX5_append.desc).map (fun d => d.parameters.length) = some 1 := by decide +kernel
theorem hz_X5_append : yX5_append.cls ≠ "java/lang/invoke/MethodHandle" ∧ yX5_append.cls ≠ "java/lang/invoke/VarHandle" ∧ (parseMethodDescriptor yX5_append.desc).map (fun d => d.parameters.length) = some 1 := by decide +kernel
abbrev rmX5_begin : Room := { frames := 0, cells := 0, slots := 0, locals := 0 }
theorem hy_X5_begin : yX5_begin.cls = RX5 ∧ yX5_begin.cls ≠ "java/lang/invoke/MethodHandle" ∧ yX5_begin.cls ≠ "java/lang/invoke/VarHandle" ∧ (parseMethodDescriptor yX5_begin.desc).map (fun d => d.parameters.length) = some 1 := by decide +kernel
theorem hz_X5_begin : yX5_begin.cls ≠ "java/lang/invoke/MethodHandle" ∧ yX5_begin.cls ≠ "java/lang/invoke/VarHandle" ∧ (parseMethodDescriptor yX5_begin.desc).map (fun d => d.parameters.length) = some 1 := by decide +kernel
abbrev rmX5_clear : Room := { frames := 0, cells := 0, slots := 0, locals := 0 }
theorem hy_X5_clear : yX5_clear.cls = RX5 ∧ yX5_clear.cls ≠ "java/lang/invoke/MethodHandle" ∧ yX5_clear.cls ≠ "java/lang/invoke/VarHandle" ∧ (parseMethodDescriptor yX5_clear.desc).map (fun d => d.parameters.length) = some 0 := by decide +kernel
theorem hz_X5_clear : yX5_clear.cls ≠ "java/lang/invoke/MethodHandle" ∧ yX5_clear.cls ≠ "java/lang/invoke/VarHandle" ∧ (parseMethodDescriptor yX5_clear.desc).map (fun d => d.parameters.length) = some 0 := by decide +kernel
abbrev rmX5_copy : Room := { frames := 1, cells := 0, slots := 0, locals := 40 }
theorem hy_X5_copy : yX5_copy.cls = RX5 ∧ yX5_copy.cls ≠ "java/lang/invoke/MethodHandle" ∧ yX5_copy.cls ≠ "java/lang/invoke/VarHandle" ∧ (parseMethodDescriptor yX5_copy.desc).map (fun d => d.parameters.length) = some 1 := by decide +kernel
theorem hz_X5_copy : yX5_copy.cls ≠ "java/lang/invoke/MethodHandle" ∧ yX5_copy.cls ≠ "java/lang/invoke/VarHandle" ∧ (parseMethodDescriptor yX5_copy.desc).map (fun d => d.parameters.length) = some 1 := by decide +kernel
abbrev rmX5_kindOf : Room := { frames := 0, cells := 0, slots := 0, locals := 0 }
theorem hy_X5_kindOf : yX5_kindOf.cls = RX5 ∧ yX5_kindOf.cls ≠ "java/lang/invoke/MethodHandle" ∧ yX5_kindOf.cls ≠ "java/lang/invoke/VarHandle" ∧ (parseMethodDescriptor yX5_kindOf.desc).map (fun d => d.parameters.length) = some 1 := by decide +kernel
theorem hz_X5_kindOf : yX5_kindOf.cls ≠ "java/lang/invoke/MethodHandle" ∧ yX5_kindOf.cls ≠ "java/lang/invoke/VarHandle" ∧ (parseMethodDescriptor yX5_kindOf.desc).map (fun d => d.parameters.length) = some 1 := by decide +kernel
abbrev rmX5_rowMark : Room := { frames := 1, cells := 0, slots := 0, locals := 22 }
theorem hy_X5_rowMark : yX5_rowMark.cls = RX5 ∧ yX5_rowMark.cls ≠ "java/lang/invoke/MethodHandle" ∧ yX5_rowMark.cls ≠ "java/lang/invoke/VarHandle" ∧ (parseMethodDescriptor yX5_rowMark.desc).map (fun d => d.parameters.length) = some 2 := by decide +kernel
theorem hz_X5_rowMark : yX5_rowMark.cls ≠ "java/lang/invoke/MethodHandle" ∧ yX5_rowMark.cls ≠ "java/lang/invoke/VarHandle" ∧ (parseMethodDescriptor yX5_rowMark.desc).map (fun d => d.parameters.length) = some 2 := by decide +kernel
abbrev rmX5_sizeOf : Room := { frames := 0, cells := 0, slots := 0, locals := 0 }
theorem hy_X5_sizeOf : yX5_sizeOf.cls = RX5 ∧ yX5_sizeOf.cls ≠ "java/lang/invoke/MethodHandle" ∧ yX5_sizeOf.cls ≠ "java/lang/invoke/VarHandle" ∧ (parseMethodDescriptor yX5_sizeOf.desc).map (fun d => d.parameters.length) = some 1 := by decide +kernel
theorem hz_X5_sizeOf : yX5_sizeOf.cls ≠ "java/lang/invoke/MethodHandle" ∧ yX5_sizeOf.cls ≠ "java/lang/invoke/VarHandle" ∧ (parseMethodDescriptor yX5_sizeOf.desc).map (fun d => d.parameters.length) = some 1 := by decide +kernel
abbrev rmX5_toldMark : Room := { frames := 0, cells := 0, slots := 0, locals := 0 }
theorem hy_X5_toldMark : yX5_toldMark.cls = RX5 ∧ yX5_toldMark.cls ≠ "java/lang/invoke/MethodHandle" ∧ yX5_toldMark.cls ≠ "java/lang/invoke/VarHandle" ∧ (parseMethodDescriptor yX5_toldMark.desc).map (fun d => d.parameters.length) = some 2 := by decide +kernel
theorem hz_X5_toldMark : yX5_toldMark.cls ≠ "java/lang/invoke/MethodHandle" ∧ yX5_toldMark.cls ≠ "java/lang/invoke/VarHandle" ∧ (parseMethodDescriptor yX5_toldMark.desc).map (fun d => d.parameters.length) = some 2 := by decide +kernel
abbrev rmX5_trade : Room := { frames := 0, cells := 0, slots := 0, locals := 0 }
theorem hy_X5_trade : yX5_trade.cls = RX5 ∧ yX5_trade.cls ≠ "java/lang/invoke/MethodHandle" ∧ yX5_trade.cls ≠ "java/lang/invoke/VarHandle" ∧ (parseMethodDescriptor yX5_trade.desc).map (fun d => d.parameters.length) = some 2 := by decide +kernel
theorem hz_X5_trade : yX5_trade.cls ≠ "java/lang/invoke/MethodHandle" ∧ yX5_trade.cls ≠ "java/lang/invoke/VarHandle" ∧ (parseMethodDescriptor yX5_trade.desc).map (fun d => d.parameters.length) = some 2 := by decide +kernel
abbrev rmX7_isChoice : Room := { frames := 0, cells := 0, slots := 0, locals := 0 }
theorem hy_X7_isChoice : yX7_isChoice.cls = RX7 ∧ yX7_isChoice.cls ≠ "java/lang/invoke/MethodHandle" ∧ yX7_isChoice.cls ≠ "java/lang/invoke/VarHandle" ∧ (parseMethodDescriptor yX7_isChoice.desc).map (fun d => d.parameters.length) = some 1 := by decide +kernel
theorem hz_X7_isChoice : yX7_isChoice.cls ≠ "java/lang/invoke/MethodHandle" ∧ yX7_isChoice.cls ≠ "java/lang/invoke/VarHandle" ∧ (parseMethodDescriptor yX7_isChoice.desc).map (fun d => d.parameters.length) = some 1 := by decide +kernel
abbrev rmX7_isKind : Room := { frames := 0, cells := 0, slots := 0, locals := 0 }
theorem hy_X7_isKind : yX7_isKind.cls = RX7 ∧ yX7_isKind.cls ≠ "java/lang/invoke/MethodHandle" ∧ yX7_isKind.cls ≠ "java/lang/invoke/VarHandle" ∧ (parseMethodDescriptor yX7_isKind.desc).map (fun d => d.parameters.length) = some 1 := by decide +kernel
theorem hz_X7_isKind : yX7_isKind.cls ≠ "java/lang/invoke/MethodHandle" ∧ yX7_isKind.cls ≠ "java/lang/invoke/VarHandle" ∧ (parseMethodDescriptor yX7_isKind.desc).map (fun d => d.parameters.length) = some 1 := by decide +kernel
abbrev rmX7_isMark : Room := { frames := 0, cells := 0, slots := 0, locals := 0 }
theorem hy_X7_isMark : yX7_isMark.cls = RX7 ∧ yX7_isMark.cls ≠ "java/lang/invoke/MethodHandle" ∧ yX7_isMark.cls ≠ "java/lang/invoke/VarHandle" ∧ (parseMethodDescriptor yX7_isMark.desc).map (fun d => d.parameters.length) = some 1 := by decide +kernel
theorem hz_X7_isMark : yX7_isMark.cls ≠ "java/lang/invoke/MethodHandle" ∧ yX7_isMark.cls ≠ "java/lang/invoke/VarHandle" ∧ (parseMethodDescriptor yX7_isMark.desc).map (fun d => d.parameters.length) = some 1 := by decide +kernel
theorem me_X5_kindOf_0 : Cond.fieldLink RX5 15 "DrawnByLost$Story" "kinds" "[I" ∈ wsX5_kindOf := by decide +kernel
theorem me_X5_sizeOf_0 : Cond.fieldLink RX5 18 "DrawnByLost$Story" "sizes" "[I" ∈ wsX5_sizeOf := by decide +kernel
theorem me_X5_toldMark_0 : Cond.fieldLink RX5 21 "DrawnByLost$Story" "told" "[I" ∈ wsX5_toldMark := by decide +kernel
theorem me_X5_copy_0 : Cond.fieldLink RX5 9 "DrawnByLost$Story" "marks" "[I" ∈ wsX5_copy := by decide +kernel
theorem me_X5_copy_1 : Cond.methodLink RX5 28 arraycopyName ∈ wsX5_copy := by decide +kernel
theorem me_X5_copy_2 : Cond.native arraycopyName ∈ wsX5_copy := by decide +kernel
theorem me_X5_copy_3 : Cond.static arraycopyName ∈ wsX5_copy := by decide +kernel
theorem me_X5_copy_4 : Cond.initialized "java/lang/System" ∈ wsX5_copy := by decide +kernel
theorem me_X5_copy_5 : Cond.fieldLink RX5 15 "DrawnByLost$Story" "kinds" "[I" ∈ wsX5_copy := by decide +kernel
theorem me_X5_copy_6 : Cond.fieldLink RX5 18 "DrawnByLost$Story" "sizes" "[I" ∈ wsX5_copy := by decide +kernel
theorem me_X5_copy_7 : Cond.fieldLink RX5 21 "DrawnByLost$Story" "told" "[I" ∈ wsX5_copy := by decide +kernel
theorem me_X5_copy_8 : Cond.fieldLink RX5 24 "DrawnByLost$Story" "walks" "I" ∈ wsX5_copy := by decide +kernel
theorem me_X5_trade_0 : Cond.fieldLink RX5 9 "DrawnByLost$Story" "marks" "[I" ∈ wsX5_trade := by decide +kernel
theorem me_X5_begin_0 : Cond.fieldLink RX5 24 "DrawnByLost$Story" "walks" "I" ∈ wsX5_begin := by decide +kernel
theorem me_X5_begin_1 : Cond.fieldLink RX5 15 "DrawnByLost$Story" "kinds" "[I" ∈ wsX5_begin := by decide +kernel
theorem me_X5_begin_2 : Cond.fieldLink RX5 18 "DrawnByLost$Story" "sizes" "[I" ∈ wsX5_begin := by decide +kernel
theorem me_X5_append_0 : Cond.fieldLink RX5 24 "DrawnByLost$Story" "walks" "I" ∈ wsX5_append := by decide +kernel
theorem me_X5_append_1 : Cond.fieldLink RX5 18 "DrawnByLost$Story" "sizes" "[I" ∈ wsX5_append := by decide +kernel
theorem me_X5_append_2 : Cond.fieldLink RX5 21 "DrawnByLost$Story" "told" "[I" ∈ wsX5_append := by decide +kernel
theorem me_X5_clear_0 : Cond.fieldLink RX5 9 "DrawnByLost$Story" "marks" "[I" ∈ wsX5_clear := by decide +kernel
theorem me_X5_clear_1 : Cond.fieldLink RX5 24 "DrawnByLost$Story" "walks" "I" ∈ wsX5_clear := by decide +kernel
theorem ic_X5_kindOf_5 : ∀ w ∈ wsX50, w ∈ wsX5_kindOf := by decide +kernel
theorem ic_X5_sizeOf_5 : ∀ w ∈ wsX50, w ∈ wsX5_sizeOf := by decide +kernel
theorem ic_X5_toldMark_5 : ∀ w ∈ wsX50, w ∈ wsX5_toldMark := by decide +kernel
theorem ic_X5_copy_5 : ∀ w ∈ wsX50, w ∈ wsX5_copy := by decide +kernel
theorem ic_X5_trade_5 : ∀ w ∈ wsX50, w ∈ wsX5_trade := by decide +kernel
theorem ic_X5_begin_5 : ∀ w ∈ wsX50, w ∈ wsX5_begin := by decide +kernel
theorem ic_X5_append_5 : ∀ w ∈ wsX50, w ∈ wsX5_append := by decide +kernel
theorem ic_X5_clear_5 : ∀ w ∈ wsX50, w ∈ wsX5_clear := by decide +kernel
-- Story: what acts change
section VST
variable {l : Launch} {D : va_G} {cy : CY} {B n : Nat} {h : Hp} {lg : Lg} {π : Nat → Nat}
theorem c_X7_isMark (m : Int32) : Ctr l D cy B yX7_isMark wsX7_isMark rmX7_isMark 0 0 n (rf0 π) h lg [.int m] (uI (b2i (decide (0 ≤ m ∧ m < 6))) (rf0 π) h lg) := by
  refine Ctr.of (cc := cX7_isMark) (nL := 1) (own := RX7) (rt := (some .boolean)) (ls := [some (.int m)]) (by decide) rfl rfl (Nat.le_of_ble_eq_true rfl) rfl ?_
  refine wp_iload_n_0 (pc' := 1) dX7_isMark_0 rfl ?_
  refine wp_if_lt (pc' := 4) (tgt := 14) dX7_isMark_1 rfl rfl (fun c1 => ?_) (fun c1 => ?_)
  · skip -- 1 taken
    refine wp_iconst (pc' := 15) (0) dX7_isMark_14 rfl (by decide) ?_
    refine wp_zreturn (by decide) dX7_isMark_15 rfl rfl (Nat.le_refl _) (Nat.le_refl _) ?_
    exact uI_of (by first | exact b2i_t (by (simp (disch := omega) only [Int32.lt_iff_toInt_lt, Int32.le_iff_toInt_le, ← Int32.toInt_inj, nI_toInt, il_0, il_1, il_2, il_3, il_4, il_5, il_6, il_8, il_9, il_10, il_16, il_26, il_32, il_40, il_n4, il_n1, il_n2, il_11, il_48, il_57, il_59, il_44, il_126, il_200, il_9999, il_66666, il_10000, il_1000000, il_15, il_12, il_256, il_4096, il_53, il_52] at *; omega)) | exact b2i_f (by (simp (disch := omega) only [Int32.lt_iff_toInt_lt, Int32.le_iff_toInt_le, ← Int32.toInt_inj, nI_toInt, il_0, il_1, il_2, il_3, il_4, il_5, il_6, il_8, il_9, il_10, il_16, il_26, il_32, il_40, il_n4, il_n1, il_n2, il_11, il_48, il_57, il_59, il_44, il_126, il_200, il_9999, il_66666, il_10000, il_1000000, il_15, il_12, il_256, il_4096, il_53, il_52] at *; omega)))
  · skip -- 1 not taken
    refine wp_iload_n_0 (pc' := 5) dX7_isMark_4 rfl ?_
    refine wp_bipush (pc' := 7) (6) dX7_isMark_5 rfl (by decide) ?_
    refine wp_icmp_ge (pc' := 10) (tgt := 14) dX7_isMark_7 rfl rfl (fun c7 => ?_) (fun c7 => ?_)
    · skip -- 7 taken
      refine wp_iconst (pc' := 15) (0) dX7_isMark_14 rfl (by decide) ?_
      refine wp_zreturn (by decide) dX7_isMark_15 rfl rfl (Nat.le_refl _) (Nat.le_refl _) ?_
      exact uI_of (by first | exact b2i_t (by (simp (disch := omega) only [Int32.lt_iff_toInt_lt, Int32.le_iff_toInt_le, ← Int32.toInt_inj, nI_toInt, il_0, il_1, il_2, il_3, il_4, il_5, il_6, il_8, il_9, il_10, il_16, il_26, il_32, il_40, il_n4, il_n1, il_n2, il_11, il_48, il_57, il_59, il_44, il_126, il_200, il_9999, il_66666, il_10000, il_1000000, il_15, il_12, il_256, il_4096, il_53, il_52] at *; omega)) | exact b2i_f (by (simp (disch := omega) only [Int32.lt_iff_toInt_lt, Int32.le_iff_toInt_le, ← Int32.toInt_inj, nI_toInt, il_0, il_1, il_2, il_3, il_4, il_5, il_6, il_8, il_9, il_10, il_16, il_26, il_32, il_40, il_n4, il_n1, il_n2, il_11, il_48, il_57, il_59, il_44, il_126, il_200, il_9999, il_66666, il_10000, il_1000000, il_15, il_12, il_256, il_4096, il_53, il_52] at *; omega)))
    · skip -- 7 not taken
      refine wp_iconst (pc' := 11) (1) dX7_isMark_10 rfl (by decide) ?_
      refine wp_goto (tgt := 15) dX7_isMark_11 rfl ?_
      refine wp_zreturn (by decide) dX7_isMark_15 rfl rfl (Nat.le_refl _) (Nat.le_refl _) ?_
      exact uI_of (by first | exact b2i_t (by (simp (disch := omega) only [Int32.lt_iff_toInt_lt, Int32.le_iff_toInt_le, ← Int32.toInt_inj, nI_toInt, il_0, il_1, il_2, il_3, il_4, il_5, il_6, il_8, il_9, il_10, il_16, il_26, il_32, il_40, il_n4, il_n1, il_n2, il_11, il_48, il_57, il_59, il_44, il_126, il_200, il_9999, il_66666, il_10000, il_1000000, il_15, il_12, il_256, il_4096, il_53, il_52] at *; omega)) | exact b2i_f (by (simp (disch := omega) only [Int32.lt_iff_toInt_lt, Int32.le_iff_toInt_le, ← Int32.toInt_inj, nI_toInt, il_0, il_1, il_2, il_3, il_4, il_5, il_6, il_8, il_9, il_10, il_16, il_26, il_32, il_40, il_n4, il_n1, il_n2, il_11, il_48, il_57, il_59, il_44, il_126, il_200, il_9999, il_66666, il_10000, il_1000000, il_15, il_12, il_256, il_4096, il_53, il_52] at *; omega)))
theorem c_X7_isKind (m : Int32) : Ctr l D cy B yX7_isKind wsX7_isKind rmX7_isKind 0 0 n (rf0 π) h lg [.int m] (uI (b2i (decide (0 ≤ m ∧ m ≤ 3))) (rf0 π) h lg) := by
  refine Ctr.of (cc := cX7_isKind) (nL := 1) (own := RX7) (rt := (some .boolean)) (ls := [some (.int m)]) (by decide) rfl rfl (Nat.le_of_ble_eq_true rfl) rfl ?_
  refine wp_iload_n_0 (pc' := 1) dX7_isKind_0 rfl ?_
  refine wp_if_lt (pc' := 4) (tgt := 13) dX7_isKind_1 rfl rfl (fun c1 => ?_) (fun c1 => ?_)
  · skip -- 1 taken
    refine wp_iconst (pc' := 14) (0) dX7_isKind_13 rfl (by decide) ?_
    refine wp_zreturn (by decide) dX7_isKind_14 rfl rfl (Nat.le_refl _) (Nat.le_refl _) ?_
    exact uI_of (by first | exact b2i_t (by (simp (disch := omega) only [Int32.lt_iff_toInt_lt, Int32.le_iff_toInt_le, ← Int32.toInt_inj, nI_toInt, il_0, il_1, il_2, il_3, il_4, il_5, il_6, il_8, il_9, il_10, il_16, il_26, il_32, il_40, il_n4, il_n1, il_n2, il_11, il_48, il_57, il_59, il_44, il_126, il_200, il_9999, il_66666, il_10000, il_1000000, il_15, il_12, il_256, il_4096, il_53, il_52] at *; omega)) | exact b2i_f (by (simp (disch := omega) only [Int32.lt_iff_toInt_lt, Int32.le_iff_toInt_le, ← Int32.toInt_inj, nI_toInt, il_0, il_1, il_2, il_3, il_4, il_5, il_6, il_8, il_9, il_10, il_16, il_26, il_32, il_40, il_n4, il_n1, il_n2, il_11, il_48, il_57, il_59, il_44, il_126, il_200, il_9999, il_66666, il_10000, il_1000000, il_15, il_12, il_256, il_4096, il_53, il_52] at *; omega)))
  · skip -- 1 not taken
    refine wp_iload_n_0 (pc' := 5) dX7_isKind_4 rfl ?_
    refine wp_iconst (pc' := 6) (3) dX7_isKind_5 rfl (by decide) ?_
    refine wp_icmp_gt (pc' := 9) (tgt := 13) dX7_isKind_6 rfl rfl (fun c6 => ?_) (fun c6 => ?_)
    · skip -- 6 taken
      refine wp_iconst (pc' := 14) (0) dX7_isKind_13 rfl (by decide) ?_
      refine wp_zreturn (by decide) dX7_isKind_14 rfl rfl (Nat.le_refl _) (Nat.le_refl _) ?_
      exact uI_of (by first | exact b2i_t (by (simp (disch := omega) only [Int32.lt_iff_toInt_lt, Int32.le_iff_toInt_le, ← Int32.toInt_inj, nI_toInt, il_0, il_1, il_2, il_3, il_4, il_5, il_6, il_8, il_9, il_10, il_16, il_26, il_32, il_40, il_n4, il_n1, il_n2, il_11, il_48, il_57, il_59, il_44, il_126, il_200, il_9999, il_66666, il_10000, il_1000000, il_15, il_12, il_256, il_4096, il_53, il_52] at *; omega)) | exact b2i_f (by (simp (disch := omega) only [Int32.lt_iff_toInt_lt, Int32.le_iff_toInt_le, ← Int32.toInt_inj, nI_toInt, il_0, il_1, il_2, il_3, il_4, il_5, il_6, il_8, il_9, il_10, il_16, il_26, il_32, il_40, il_n4, il_n1, il_n2, il_11, il_48, il_57, il_59, il_44, il_126, il_200, il_9999, il_66666, il_10000, il_1000000, il_15, il_12, il_256, il_4096, il_53, il_52] at *; omega)))
    · skip -- 6 not taken
      refine wp_iconst (pc' := 10) (1) dX7_isKind_9 rfl (by decide) ?_
      refine wp_goto (tgt := 14) dX7_isKind_10 rfl ?_
      refine wp_zreturn (by decide) dX7_isKind_14 rfl rfl (Nat.le_refl _) (Nat.le_refl _) ?_
      exact uI_of (by first | exact b2i_t (by (simp (disch := omega) only [Int32.lt_iff_toInt_lt, Int32.le_iff_toInt_le, ← Int32.toInt_inj, nI_toInt, il_0, il_1, il_2, il_3, il_4, il_5, il_6, il_8, il_9, il_10, il_16, il_26, il_32, il_40, il_n4, il_n1, il_n2, il_11, il_48, il_57, il_59, il_44, il_126, il_200, il_9999, il_66666, il_10000, il_1000000, il_15, il_12, il_256, il_4096, il_53, il_52] at *; omega)) | exact b2i_f (by (simp (disch := omega) only [Int32.lt_iff_toInt_lt, Int32.le_iff_toInt_le, ← Int32.toInt_inj, nI_toInt, il_0, il_1, il_2, il_3, il_4, il_5, il_6, il_8, il_9, il_10, il_16, il_26, il_32, il_40, il_n4, il_n1, il_n2, il_11, il_48, il_57, il_59, il_44, il_126, il_200, il_9999, il_66666, il_10000, il_1000000, il_15, il_12, il_256, il_4096, il_53, il_52] at *; omega)))
theorem c_X7_isChoice (m : Int32) : Ctr l D cy B yX7_isChoice wsX7_isChoice rmX7_isChoice 0 0 n (rf0 π) h lg [.int m] (uI (b2i (decide (m = 0 ∨ m = 1))) (rf0 π) h lg) := by
  refine Ctr.of (cc := cX7_isChoice) (nL := 1) (own := RX7) (rt := (some .boolean)) (ls := [some (.int m)]) (by decide) rfl rfl (Nat.le_of_ble_eq_true rfl) rfl ?_
  refine wp_iload_n_0 (pc' := 1) dX7_isChoice_0 rfl ?_
  refine wp_if_eq (pc' := 4) (tgt := 9) dX7_isChoice_1 rfl rfl (fun c1 => ?_) (fun c1 => ?_)
  · skip -- 1 taken
    refine wp_iconst (pc' := 10) (1) dX7_isChoice_9 rfl (by decide) ?_
    refine wp_goto (tgt := 14) dX7_isChoice_10 rfl ?_
    refine wp_zreturn (by decide) dX7_isChoice_14 rfl rfl (Nat.le_refl _) (Nat.le_refl _) ?_
    exact uI_of (by first | exact b2i_t (by (simp (disch := omega) only [Int32.lt_iff_toInt_lt, Int32.le_iff_toInt_le, ← Int32.toInt_inj, nI_toInt, il_0, il_1, il_2, il_3, il_4, il_5, il_6, il_8, il_9, il_10, il_16, il_26, il_32, il_40, il_n4, il_n1, il_n2, il_11, il_48, il_57, il_59, il_44, il_126, il_200, il_9999, il_66666, il_10000, il_1000000, il_15, il_12, il_256, il_4096, il_53, il_52] at *; omega)) | exact b2i_f (by (simp (disch := omega) only [Int32.lt_iff_toInt_lt, Int32.le_iff_toInt_le, ← Int32.toInt_inj, nI_toInt, il_0, il_1, il_2, il_3, il_4, il_5, il_6, il_8, il_9, il_10, il_16, il_26, il_32, il_40, il_n4, il_n1, il_n2, il_11, il_48, il_57, il_59, il_44, il_126, il_200, il_9999, il_66666, il_10000, il_1000000, il_15, il_12, il_256, il_4096, il_53, il_52] at *; omega)))
  · skip -- 1 not taken
    refine wp_iload_n_0 (pc' := 5) dX7_isChoice_4 rfl ?_
    refine wp_iconst (pc' := 6) (1) dX7_isChoice_5 rfl (by decide) ?_
    refine wp_icmp_ne (pc' := 9) (tgt := 13) dX7_isChoice_6 rfl rfl (fun c6 => ?_) (fun c6 => ?_)
    · skip -- 6 taken
      refine wp_iconst (pc' := 14) (0) dX7_isChoice_13 rfl (by decide) ?_
      refine wp_zreturn (by decide) dX7_isChoice_14 rfl rfl (Nat.le_refl _) (Nat.le_refl _) ?_
      exact uI_of (by first | exact b2i_t (by (simp (disch := omega) only [Int32.lt_iff_toInt_lt, Int32.le_iff_toInt_le, ← Int32.toInt_inj, nI_toInt, il_0, il_1, il_2, il_3, il_4, il_5, il_6, il_8, il_9, il_10, il_16, il_26, il_32, il_40, il_n4, il_n1, il_n2, il_11, il_48, il_57, il_59, il_44, il_126, il_200, il_9999, il_66666, il_10000, il_1000000, il_15, il_12, il_256, il_4096, il_53, il_52] at *; omega)) | exact b2i_f (by (simp (disch := omega) only [Int32.lt_iff_toInt_lt, Int32.le_iff_toInt_le, ← Int32.toInt_inj, nI_toInt, il_0, il_1, il_2, il_3, il_4, il_5, il_6, il_8, il_9, il_10, il_16, il_26, il_32, il_40, il_n4, il_n1, il_n2, il_11, il_48, il_57, il_59, il_44, il_126, il_200, il_9999, il_66666, il_10000, il_1000000, il_15, il_12, il_256, il_4096, il_53, il_52] at *; omega)))
    · skip -- 6 not taken
      refine wp_iconst (pc' := 10) (1) dX7_isChoice_9 rfl (by decide) ?_
      refine wp_goto (tgt := 14) dX7_isChoice_10 rfl ?_
      refine wp_zreturn (by decide) dX7_isChoice_14 rfl rfl (Nat.le_refl _) (Nat.le_refl _) ?_
      exact uI_of (by first | exact b2i_t (by (simp (disch := omega) only [Int32.lt_iff_toInt_lt, Int32.le_iff_toInt_le, ← Int32.toInt_inj, nI_toInt, il_0, il_1, il_2, il_3, il_4, il_5, il_6, il_8, il_9, il_10, il_16, il_26, il_32, il_40, il_n4, il_n1, il_n2, il_11, il_48, il_57, il_59, il_44, il_126, il_200, il_9999, il_66666, il_10000, il_1000000, il_15, il_12, il_256, il_4096, il_53, il_52] at *; omega)) | exact b2i_f (by (simp (disch := omega) only [Int32.lt_iff_toInt_lt, Int32.le_iff_toInt_le, ← Int32.toInt_inj, nI_toInt, il_0, il_1, il_2, il_3, il_4, il_5, il_6, il_8, il_9, il_10, il_16, il_26, il_32, il_40, il_n4, il_n1, il_n2, il_11, il_48, il_57, il_59, il_44, il_126, il_200, il_9999, il_66666, il_10000, il_1000000, il_15, il_12, il_256, il_4096, il_53, il_52] at *; omega)))
theorem c_X5_kindOf {k w : Nat} (hn : 89 ≤ n) (hs : St k) (hw : w < 5) : Ctr l D cy B yX5_kindOf wsX5_kindOf rmX5_kindOf 0 0 n (rf0 π) h lg [.ref (B + k), .int (nI w)] (uI (h (k + 2) w) (rf0 π) h lg) := by
  refine Ctr.of (cc := cX5_kindOf) (nL := 2) (own := RX5) (rt := (some .int)) (ls := [some (.ref (B + k)), some (.int (nI w))]) (by decide) rfl rfl (Nat.le_of_ble_eq_true rfl) rfl ?_
  refine wp_iload_n_1 (pc' := 1) dX5_kindOf_0 rfl ?_
  refine wp_if_lt (pc' := 4) (tgt := 18) dX5_kindOf_1 rfl rfl (fun c1 => by exfalso; exact absurd c1 (nI_pos (by omega))) (fun c1 => ?_)
  refine wp_iload_n_1 (pc' := 5) dX5_kindOf_4 rfl ?_
  refine wp_iconst (pc' := 6) (5) dX5_kindOf_5 rfl (by decide) ?_
  refine wp_icmp_ge (pc' := 9) (tgt := 18) dX5_kindOf_6 rfl rfl (fun c6 => by exfalso; (simp (disch := omega) only [Int32.lt_iff_toInt_lt, Int32.le_iff_toInt_le, ← Int32.toInt_inj, nI_toInt, il_0, il_1, il_2, il_3, il_4, il_5, il_6, il_8, il_9, il_10, il_16, il_26, il_32, il_40, il_n4, il_n1, il_n2, il_11, il_48, il_57, il_59, il_44, il_126, il_200, il_9999, il_66666, il_10000, il_1000000, il_15, il_12, il_256, il_4096, il_53, il_52] at c6; omega)) (fun c6 => ?_)
  refine wp_aload_n_0 (pc' := 10) dX5_kindOf_9 rfl ?_
  refine wp_get_5_1 (pc' := 13) (hs.lt hn) hs.K (hs.r1) me_X5_kindOf_0 ic_X5_kindOf_5 dX5_kindOf_10 rfl ?_
  refine wp_iload_n_1 (pc' := 14) dX5_kindOf_13 rfl ?_
  refine wp_iald (pc' := 15) (N := 5) (hs.lt2 hn) hs.K2 hs.ln2 (by first | exact vp_in_nI (by omega) (by omega) | assumption | (unfold vp_in; decide)) dX5_kindOf_14 rfl ?_
  refine wp_goto (tgt := 19) dX5_kindOf_15 rfl ?_
  refine wp_ireturn dX5_kindOf_19 rfl rfl (Nat.le_refl _) (Nat.le_refl _) ?_
  exact uI_of (by rw [nI_clamp (by omega)])
theorem c_X5_sizeOf {k w : Nat} (hn : 89 ≤ n) (hs : St k) (hw : w < 5) : Ctr l D cy B yX5_sizeOf wsX5_sizeOf rmX5_sizeOf 0 0 n (rf0 π) h lg [.ref (B + k), .int (nI w)] (uI (h (k + 3) w) (rf0 π) h lg) := by
  refine Ctr.of (cc := cX5_sizeOf) (nL := 2) (own := RX5) (rt := (some .int)) (ls := [some (.ref (B + k)), some (.int (nI w))]) (by decide) rfl rfl (Nat.le_of_ble_eq_true rfl) rfl ?_
  refine wp_iload_n_1 (pc' := 1) dX5_sizeOf_0 rfl ?_
  refine wp_if_lt (pc' := 4) (tgt := 18) dX5_sizeOf_1 rfl rfl (fun c1 => by exfalso; exact absurd c1 (nI_pos (by omega))) (fun c1 => ?_)
  refine wp_iload_n_1 (pc' := 5) dX5_sizeOf_4 rfl ?_
  refine wp_iconst (pc' := 6) (5) dX5_sizeOf_5 rfl (by decide) ?_
  refine wp_icmp_ge (pc' := 9) (tgt := 18) dX5_sizeOf_6 rfl rfl (fun c6 => by exfalso; (simp (disch := omega) only [Int32.lt_iff_toInt_lt, Int32.le_iff_toInt_le, ← Int32.toInt_inj, nI_toInt, il_0, il_1, il_2, il_3, il_4, il_5, il_6, il_8, il_9, il_10, il_16, il_26, il_32, il_40, il_n4, il_n1, il_n2, il_11, il_48, il_57, il_59, il_44, il_126, il_200, il_9999, il_66666, il_10000, il_1000000, il_15, il_12, il_256, il_4096, il_53, il_52] at c6; omega)) (fun c6 => ?_)
  refine wp_aload_n_0 (pc' := 10) dX5_sizeOf_9 rfl ?_
  refine wp_get_5_2 (pc' := 13) (hs.lt hn) hs.K (hs.r2) me_X5_sizeOf_0 ic_X5_sizeOf_5 dX5_sizeOf_10 rfl ?_
  refine wp_iload_n_1 (pc' := 14) dX5_sizeOf_13 rfl ?_
  refine wp_iald (pc' := 15) (N := 5) (hs.lt3 hn) hs.K3 hs.ln3 (by first | exact vp_in_nI (by omega) (by omega) | assumption | (unfold vp_in; decide)) dX5_sizeOf_14 rfl ?_
  refine wp_goto (tgt := 19) dX5_sizeOf_15 rfl ?_
  refine wp_ireturn dX5_sizeOf_19 rfl rfl (Nat.le_refl _) (Nat.le_refl _) ?_
  exact uI_of (by rw [nI_clamp (by omega)])
theorem nI_5w {w j : Nat} : nI w * 5 + nI j = nI (5 * w + j) := by
  rw [show (5 : Int32) = nI 5 from rfl, nI_mul, nI_add, Nat.mul_comm]
theorem c_X5_toldMark {k w j : Nat} (hn : 89 ≤ n) (hs : St k) (hw : w < 5) (hj : j < 5) : Ctr l D cy B yX5_toldMark wsX5_toldMark rmX5_toldMark 0 0 n (rf0 π) h lg [.ref (B + k), .int (nI w), .int (nI j)] (uI (h (k + 4) (5 * w + j)) (rf0 π) h lg) := by
  refine Ctr.of (cc := cX5_toldMark) (nL := 3) (own := RX5) (rt := (some .int)) (ls := [some (.ref (B + k)), some (.int (nI w)), some (.int (nI j))]) (by decide) rfl rfl (Nat.le_of_ble_eq_true rfl) rfl ?_
  refine wp_iload_n_1 (pc' := 1) dX5_toldMark_0 rfl ?_
  refine wp_if_lt (pc' := 4) (tgt := 18) dX5_toldMark_1 rfl rfl (fun c1 => by exfalso; exact absurd c1 (nI_pos (by omega))) (fun c1 => ?_)
  refine wp_iload_n_1 (pc' := 5) dX5_toldMark_4 rfl ?_
  refine wp_iconst (pc' := 6) (5) dX5_toldMark_5 rfl (by decide) ?_
  refine wp_icmp_ge (pc' := 9) (tgt := 18) dX5_toldMark_6 rfl rfl (fun c6 => by exfalso; (simp (disch := omega) only [Int32.lt_iff_toInt_lt, Int32.le_iff_toInt_le, ← Int32.toInt_inj, nI_toInt, il_0, il_1, il_2, il_3, il_4, il_5, il_6, il_8, il_9, il_10, il_16, il_26, il_32, il_40, il_n4, il_n1, il_n2, il_11, il_48, il_57, il_59, il_44, il_126, il_200, il_9999, il_66666, il_10000, il_1000000, il_15, il_12, il_256, il_4096, il_53, il_52] at c6; omega)) (fun c6 => ?_)
  refine wp_iload_n_2 (pc' := 10) dX5_toldMark_9 rfl ?_
  refine wp_if_lt (pc' := 13) (tgt := 18) dX5_toldMark_10 rfl rfl (fun c10 => by exfalso; exact absurd c10 (nI_pos (by omega))) (fun c10 => ?_)
  refine wp_iload_n_2 (pc' := 14) dX5_toldMark_13 rfl ?_
  refine wp_iconst (pc' := 15) (5) dX5_toldMark_14 rfl (by decide) ?_
  refine wp_icmp_lt (pc' := 18) (tgt := 21) dX5_toldMark_15 rfl rfl (fun c15 => ?_) (fun c15 => by exfalso; (simp (disch := omega) only [Int32.lt_iff_toInt_lt, Int32.le_iff_toInt_le, ← Int32.toInt_inj, nI_toInt, il_0, il_1, il_2, il_3, il_4, il_5, il_6, il_8, il_9, il_10, il_16, il_26, il_32, il_40, il_n4, il_n1, il_n2, il_11, il_48, il_57, il_59, il_44, il_126, il_200, il_9999, il_66666, il_10000, il_1000000, il_15, il_12, il_256, il_4096, il_53, il_52] at c15; omega))
  refine wp_aload_n_0 (pc' := 22) dX5_toldMark_21 rfl ?_
  refine wp_get_5_3 (pc' := 25) (hs.lt hn) hs.K (hs.r3) me_X5_toldMark_0 ic_X5_toldMark_5 dX5_toldMark_22 rfl ?_
  refine wp_iload_n_1 (pc' := 26) dX5_toldMark_25 rfl ?_
  refine wp_iconst (pc' := 27) (5) dX5_toldMark_26 rfl (by decide) ?_
  refine wp_imul (pc' := 28) dX5_toldMark_27 rfl ?_
  refine wp_iload_n_2 (pc' := 29) dX5_toldMark_28 rfl ?_
  refine wp_iadd (pc' := 30) dX5_toldMark_29 rfl ?_
  rw [nI_5w]
  refine wp_iald (pc' := 31) (N := 25) (hs.lt4 hn) hs.K4 hs.ln4 (by first | exact vp_in_nI (by omega) (by omega) | assumption | (unfold vp_in; decide)) dX5_toldMark_30 rfl ?_
  refine wp_ireturn dX5_toldMark_31 rfl rfl (Nat.le_refl _) (Nat.le_refl _) ?_
  exact uI_of (by rw [nI_clamp (by omega)])
theorem c_X5_rowMark {k w i s κ : Nat} (hn : 89 ≤ n) (hs : St k) (hw : w < 5) (hk : h (k + 2) w = nI κ) (hκ : κ ≤ 3) (hz : h (k + 3) w = nI s) (hz5 : s ≤ 5) (hi : i < s) : Ctr l D cy B yX5_rowMark wsX5_rowMark rmX5_rowMark 0 0 n (rf0 π) h lg [.ref (B + k), .int (nI w), .int (nI i)] (uI (if κ = 1 then h (k + 4) (5 * w + (s - 1 - i)) else h (k + 4) (5 * w + i)) (rf0 π) h lg) := by
  refine Ctr.of (cc := cX5_rowMark) (nL := 3) (own := RX5) (rt := (some .int)) (ls := [some (.ref (B + k)), some (.int (nI w)), some (.int (nI i))]) (by decide) rfl rfl (Nat.le_of_ble_eq_true rfl) rfl ?_
  refine wp_aload_n_0 (pc' := 1) dX5_rowMark_0 rfl ?_
  refine wp_iload_n_1 (pc' := 2) dX5_rowMark_1 rfl ?_
  refine wp_callVu (pc' := 5) (c_X5_kindOf hn hs (by omega)) gX5_rowMark_X5_kindOf rfl rfl hy_X5_kindOf ⟨Nat.le_of_ble_eq_true rfl, Nat.le_of_ble_eq_true rfl⟩ ⟨rfl, rfl⟩ (Nat.le_of_ble_eq_true rfl) ⟨Nat.le_of_ble_eq_true rfl, Nat.le_of_ble_eq_true rfl⟩ (hs.lt hn) (ce5 hs.K) rfl rfl dX5_rowMark_2 rfl ?_
  refine wp_iconst (pc' := 6) (1) dX5_rowMark_5 rfl (by decide) ?_
  refine wp_icmp_ne (pc' := 9) (tgt := 26) dX5_rowMark_6 rfl rfl (fun c6 => ?_) (fun c6 => ?_)
  · skip -- 6 taken
    rw [hk] at c6
    refine wp_aload_n_0 (pc' := 27) dX5_rowMark_26 rfl ?_
    refine wp_iload_n_1 (pc' := 28) dX5_rowMark_27 rfl ?_
    refine wp_iload_n_2 (pc' := 29) dX5_rowMark_28 rfl ?_
    refine wp_callVu (pc' := 32) (c_X5_toldMark hn hs (by omega) (by omega)) gX5_rowMark_X5_toldMark rfl rfl hy_X5_toldMark ⟨Nat.le_of_ble_eq_true rfl, Nat.le_of_ble_eq_true rfl⟩ ⟨rfl, rfl⟩ (Nat.le_of_ble_eq_true rfl) ⟨Nat.le_of_ble_eq_true rfl, Nat.le_of_ble_eq_true rfl⟩ (hs.lt hn) (ce5 hs.K) rfl rfl dX5_rowMark_29 rfl ?_
    refine wp_ireturn dX5_rowMark_32 rfl rfl (Nat.le_refl _) (Nat.le_refl _) ?_
    exact uI_of (by rw [if_neg (by intro q; subst q; exact c6 rfl)])
  · skip -- 6 not taken
    rw [hk] at c6
    refine wp_aload_n_0 (pc' := 10) dX5_rowMark_9 rfl ?_
    refine wp_iload_n_1 (pc' := 11) dX5_rowMark_10 rfl ?_
    refine wp_aload_n_0 (pc' := 12) dX5_rowMark_11 rfl ?_
    refine wp_iload_n_1 (pc' := 13) dX5_rowMark_12 rfl ?_
    refine wp_callVu (pc' := 16) (c_X5_sizeOf hn hs (by omega)) gX5_rowMark_X5_sizeOf rfl rfl hy_X5_sizeOf ⟨Nat.le_of_ble_eq_true rfl, Nat.le_of_ble_eq_true rfl⟩ ⟨rfl, rfl⟩ (Nat.le_of_ble_eq_true rfl) ⟨Nat.le_of_ble_eq_true rfl, Nat.le_of_ble_eq_true rfl⟩ (hs.lt hn) (ce5 hs.K) rfl rfl dX5_rowMark_13 rfl ?_
    refine wp_iconst (pc' := 17) (1) dX5_rowMark_16 rfl (by decide) ?_
    refine wp_isub (pc' := 18) dX5_rowMark_17 rfl ?_
    refine wp_iload_n_2 (pc' := 19) dX5_rowMark_18 rfl ?_
    refine wp_isub (pc' := 20) dX5_rowMark_19 rfl ?_
    rw [hz, show nI s - 1 - nI i = nI (s - 1 - i) by rw [← nI_lit1, nI_sub (by omega), nI_sub (by omega)]]
    refine wp_callVu (pc' := 23) (c_X5_toldMark hn hs (by omega) (by omega)) gX5_rowMark_X5_toldMark rfl rfl hy_X5_toldMark ⟨Nat.le_of_ble_eq_true rfl, Nat.le_of_ble_eq_true rfl⟩ ⟨rfl, rfl⟩ (Nat.le_of_ble_eq_true rfl) ⟨Nat.le_of_ble_eq_true rfl, Nat.le_of_ble_eq_true rfl⟩ (hs.lt hn) (ce5 hs.K) rfl rfl dX5_rowMark_20 rfl ?_
    refine wp_goto (tgt := 32) dX5_rowMark_23 rfl ?_
    refine wp_ireturn dX5_rowMark_32 rfl rfl (Nat.le_refl _) (Nat.le_refl _) ?_
    exact uI_of (by rw [if_pos (by (simp (disch := omega) only [Int32.lt_iff_toInt_lt, Int32.le_iff_toInt_le, ← Int32.toInt_inj, nI_toInt, il_0, il_1, il_2, il_3, il_4, il_5, il_6, il_8, il_9, il_10, il_16, il_26, il_32, il_40, il_n4, il_n1, il_n2, il_11, il_48, il_57, il_59, il_44, il_126, il_200, il_9999, il_66666, il_10000, il_1000000, il_15, il_12, il_256, il_4096, il_53, il_52] at c6; omega))])
theorem St.sep {k j : Nat} (hk : St k) (hj : St j) (hne : k ≠ j) : k + 4 < j ∨ j + 4 < k := by
  have z : ∀ k ∈ stL, ∀ j ∈ stL, k ≠ j → k + 4 < j ∨ j + 4 < k := by decide
  exact z k hk j hj hne
def CopyOf (k j : Nat) (h h' : Hp) : Prop := (∀ a, a < k ∨ k + 4 < a → h' a = h a) ∧ (∀ i, i < 16 → h' (k + 1) i = h (j + 1) i) ∧ (∀ i, i < 5 → h' (k + 2) i = h (j + 2) i) ∧ (∀ i, i < 5 → h' (k + 3) i = h (j + 3) i) ∧ (∀ i, i < 25 → h' (k + 4) i = h (j + 4) i) ∧ h' k 4 = h j 4
theorem va_cpy_0 (f g : Nat → Int32) {m i : Nat} (hi : i < m) : va_cpy f g 0 0 m i = f i := by simp [va_cpy, hi]
theorem c_X5_copy {k j : Nat} (hn : 89 ≤ n) (hs : St k) (hj : St j) (hne : k ≠ j) : Ctr l D cy B yX5_copy wsX5_copy rmX5_copy 0 0 n (rf0 π) h lg [.ref (B + k), .ref (B + j)] (qV (CopyOf k j h) (rf0 π) lg) := by
  have hsep := hs.sep hj hne
  have hkl := hs.lt89
  refine Ctr.of (cc := cX5_copy) (nL := 2) (own := RX5) (rt := none) (ls := [some (.ref (B + k)), some (.ref (B + j))]) (by decide) rfl rfl (Nat.le_of_ble_eq_true rfl) rfl ?_
  refine wp_aload_n_1 (pc' := 1) dX5_copy_0 rfl ?_
  refine wp_get_5_0 (pc' := 4) (hj.lt hn) hj.K (hj.r0) me_X5_copy_0 ic_X5_copy_5 dX5_copy_1 rfl ?_
  refine wp_iconst (pc' := 5) (0) dX5_copy_4 rfl (by decide) ?_
  refine wp_aload_n_0 (pc' := 6) dX5_copy_5 rfl ?_
  refine wp_get_5_0 (pc' := 9) (hs.lt hn) hs.K (hs.r0) me_X5_copy_0 ic_X5_copy_5 dX5_copy_6 rfl ?_
  refine wp_iconst (pc' := 10) (0) dX5_copy_9 rfl (by decide) ?_
  refine wp_bipush (pc' := 12) (16) dX5_copy_10 rfl (by decide) ?_
  refine wp_copyi (pc' := 15) me_X5_copy_1 me_X5_copy_2 me_X5_copy_3 me_X5_copy_4 (hj.lt1 hn) hj.K1 hj.ln1 (hs.lt1 hn) hs.K1 hs.ln1 (by decide) (by decide) (by decide) (by decide) (by decide) (Nat.le_of_ble_eq_true rfl) (by decide) dX5_copy_12 rfl ?_
  refine wp_aload_n_1 (pc' := 16) dX5_copy_15 rfl ?_
  refine wp_get_5_1 (pc' := 19) (hj.lt hn) hj.K (hj.r1) me_X5_copy_5 ic_X5_copy_5 dX5_copy_16 rfl ?_
  refine wp_iconst (pc' := 20) (0) dX5_copy_19 rfl (by decide) ?_
  refine wp_aload_n_0 (pc' := 21) dX5_copy_20 rfl ?_
  refine wp_get_5_1 (pc' := 24) (hs.lt hn) hs.K (hs.r1) me_X5_copy_5 ic_X5_copy_5 dX5_copy_21 rfl ?_
  refine wp_iconst (pc' := 25) (0) dX5_copy_24 rfl (by decide) ?_
  refine wp_iconst (pc' := 26) (5) dX5_copy_25 rfl (by decide) ?_
  refine wp_copyi (pc' := 29) me_X5_copy_1 me_X5_copy_2 me_X5_copy_3 me_X5_copy_4 (hj.lt2 hn) hj.K2 hj.ln2 (hs.lt2 hn) hs.K2 hs.ln2 (by decide) (by decide) (by decide) (by decide) (by decide) (Nat.le_of_ble_eq_true rfl) (by decide) dX5_copy_26 rfl ?_
  refine wp_aload_n_1 (pc' := 30) dX5_copy_29 rfl ?_
  refine wp_get_5_2 (pc' := 33) (hj.lt hn) hj.K (hj.r2) me_X5_copy_6 ic_X5_copy_5 dX5_copy_30 rfl ?_
  refine wp_iconst (pc' := 34) (0) dX5_copy_33 rfl (by decide) ?_
  refine wp_aload_n_0 (pc' := 35) dX5_copy_34 rfl ?_
  refine wp_get_5_2 (pc' := 38) (hs.lt hn) hs.K (hs.r2) me_X5_copy_6 ic_X5_copy_5 dX5_copy_35 rfl ?_
  refine wp_iconst (pc' := 39) (0) dX5_copy_38 rfl (by decide) ?_
  refine wp_iconst (pc' := 40) (5) dX5_copy_39 rfl (by decide) ?_
  refine wp_copyi (pc' := 43) me_X5_copy_1 me_X5_copy_2 me_X5_copy_3 me_X5_copy_4 (hj.lt3 hn) hj.K3 hj.ln3 (hs.lt3 hn) hs.K3 hs.ln3 (by decide) (by decide) (by decide) (by decide) (by decide) (Nat.le_of_ble_eq_true rfl) (by decide) dX5_copy_40 rfl ?_
  refine wp_aload_n_1 (pc' := 44) dX5_copy_43 rfl ?_
  refine wp_get_5_3 (pc' := 47) (hj.lt hn) hj.K (hj.r3) me_X5_copy_7 ic_X5_copy_5 dX5_copy_44 rfl ?_
  refine wp_iconst (pc' := 48) (0) dX5_copy_47 rfl (by decide) ?_
  refine wp_aload_n_0 (pc' := 49) dX5_copy_48 rfl ?_
  refine wp_get_5_3 (pc' := 52) (hs.lt hn) hs.K (hs.r3) me_X5_copy_7 ic_X5_copy_5 dX5_copy_49 rfl ?_
  refine wp_iconst (pc' := 53) (0) dX5_copy_52 rfl (by decide) ?_
  refine wp_bipush (pc' := 55) (25) dX5_copy_53 rfl (by decide) ?_
  refine wp_copyi (pc' := 58) me_X5_copy_1 me_X5_copy_2 me_X5_copy_3 me_X5_copy_4 (hj.lt4 hn) hj.K4 hj.ln4 (hs.lt4 hn) hs.K4 hs.ln4 (by decide) (by decide) (by decide) (by decide) (by decide) (Nat.le_of_ble_eq_true rfl) (by decide) dX5_copy_55 rfl ?_
  refine wp_aload_n_0 (pc' := 59) dX5_copy_58 rfl ?_
  refine wp_aload_n_1 (pc' := 60) dX5_copy_59 rfl ?_
  refine wp_get_5_4 (pc' := 63) (hj.lt hn) hj.K me_X5_copy_8 ic_X5_copy_5 dX5_copy_60 rfl ?_
  refine wp_put_5_4 (pc' := 66) (hs.lt hn) hs.K me_X5_copy_8 ic_X5_copy_5 dX5_copy_63 rfl ?_
  refine wp_return dX5_copy_66 rfl rfl (Nat.le_refl _) (Nat.le_refl _) ?_
  refine qV_of ⟨fun a ha => ?_, fun i hi => ?_, fun i hi => ?_, fun i hi => ?_, fun i hi => ?_, ?_⟩
  · have e1 : a ≠ k := by omega
    have e2 : a ≠ k + 1 := by omega
    have e3 : a ≠ k + 2 := by omega
    have e4 : a ≠ k + 3 := by omega
    have e5 : a ≠ k + 4 := by omega
    rw [hup_cell e1]
    simp only [e2, e3, e4, e5, if_false]
  all_goals (have d1 : j + 1 ≠ k + 1 := by omega)
  all_goals (have d2 : j + 2 ≠ k + 1 := by omega)
  all_goals (have d3 : j + 2 ≠ k + 2 := by omega)
  all_goals (have d4 : j + 3 ≠ k + 1 := by omega)
  all_goals (have d5 : j + 3 ≠ k + 2 := by omega)
  all_goals (have d6 : j + 3 ≠ k + 3 := by omega)
  all_goals (have d7 : j + 4 ≠ k + 1 := by omega)
  all_goals (have d8 : j + 4 ≠ k + 2 := by omega)
  all_goals (have d9 : j + 4 ≠ k + 3 := by omega)
  all_goals (have d10 : j + 4 ≠ k + 4 := by omega)
  all_goals (have d11 : j ≠ k + 1 := by omega)
  all_goals (have d12 : j ≠ k + 2 := by omega)
  all_goals (have d13 : j ≠ k + 3 := by omega)
  all_goals (have d14 : j ≠ k + 4 := by omega)
  · rw [hup_cell (by omega)]
    simp
    exact va_cpy_0 _ _ hi
  · rw [hup_cell (by omega)]
    simp [d2]
    exact va_cpy_0 _ _ hi
  · rw [hup_cell (by omega)]
    simp [d4, d5]
    exact va_cpy_0 _ _ hi
  · rw [hup_cell (by omega)]
    simp [d7, d8, d9]
    exact va_cpy_0 _ _ hi
  · rw [hup_at]
    simp [d11, d12, d13, d14]
theorem c_X5_trade {k x y : Nat} (hn : 89 ≤ n) (hs : St k) (hx : x < 16) (hy : y < 16) : Ctr l D cy B yX5_trade wsX5_trade rmX5_trade 0 0 n (rf0 π) h lg [.ref (B + k), .int (nI x), .int (nI y)] (qV (fun h' => h' = hup (hup h (k + 1) x (h (k + 1) y)) (k + 1) y (h (k + 1) x)) (rf0 π) lg) := by
  refine Ctr.of (cc := cX5_trade) (nL := 4) (own := RX5) (rt := none) (ls := [some (.ref (B + k)), some (.int (nI x)), some (.int (nI y)), none]) (by decide) rfl rfl (Nat.le_of_ble_eq_true rfl) rfl ?_
  refine wp_iload_n_1 (pc' := 1) dX5_trade_0 rfl ?_
  refine wp_if_lt (pc' := 4) (tgt := 20) dX5_trade_1 rfl rfl (fun c1 => by exfalso; exact absurd c1 (nI_pos (by omega))) (fun c1 => ?_)
  refine wp_iload_n_1 (pc' := 5) dX5_trade_4 rfl ?_
  refine wp_bipush (pc' := 7) (16) dX5_trade_5 rfl (by decide) ?_
  refine wp_icmp_ge (pc' := 10) (tgt := 20) dX5_trade_7 rfl rfl (fun c7 => by exfalso; (simp (disch := omega) only [Int32.lt_iff_toInt_lt, Int32.le_iff_toInt_le, ← Int32.toInt_inj, nI_toInt, il_0, il_1, il_2, il_3, il_4, il_5, il_6, il_8, il_9, il_10, il_16, il_26, il_32, il_40, il_n4, il_n1, il_n2, il_11, il_48, il_57, il_59, il_44, il_126, il_200, il_9999, il_66666, il_10000, il_1000000, il_15, il_12, il_256, il_4096, il_53, il_52] at c7; omega)) (fun c7 => ?_)
  refine wp_iload_n_2 (pc' := 11) dX5_trade_10 rfl ?_
  refine wp_if_lt (pc' := 14) (tgt := 20) dX5_trade_11 rfl rfl (fun c11 => by exfalso; exact absurd c11 (nI_pos (by omega))) (fun c11 => ?_)
  refine wp_iload_n_2 (pc' := 15) dX5_trade_14 rfl ?_
  refine wp_bipush (pc' := 17) (16) dX5_trade_15 rfl (by decide) ?_
  refine wp_icmp_lt (pc' := 20) (tgt := 21) dX5_trade_17 rfl rfl (fun c17 => ?_) (fun c17 => by exfalso; (simp (disch := omega) only [Int32.lt_iff_toInt_lt, Int32.le_iff_toInt_le, ← Int32.toInt_inj, nI_toInt, il_0, il_1, il_2, il_3, il_4, il_5, il_6, il_8, il_9, il_10, il_16, il_26, il_32, il_40, il_n4, il_n1, il_n2, il_11, il_48, il_57, il_59, il_44, il_126, il_200, il_9999, il_66666, il_10000, il_1000000, il_15, il_12, il_256, il_4096, il_53, il_52] at c17; omega))
  refine wp_aload_n_0 (pc' := 22) dX5_trade_21 rfl ?_
  refine wp_get_5_0 (pc' := 25) (hs.lt hn) hs.K (hs.r0) me_X5_trade_0 ic_X5_trade_5 dX5_trade_22 rfl ?_
  refine wp_iload_n_1 (pc' := 26) dX5_trade_25 rfl ?_
  refine wp_iald (pc' := 27) (N := 16) (hs.lt1 hn) hs.K1 hs.ln1 (by first | exact vp_in_nI (by omega) (by omega) | assumption | (unfold vp_in; decide)) dX5_trade_26 rfl ?_
  refine wp_istore_n_3 (pc' := 28) dX5_trade_27 (by decide) rfl rfl ?_
  refine wp_aload_n_0 (pc' := 29) dX5_trade_28 rfl ?_
  refine wp_get_5_0 (pc' := 32) (hs.lt hn) hs.K (hs.r0) me_X5_trade_0 ic_X5_trade_5 dX5_trade_29 rfl ?_
  refine wp_iload_n_1 (pc' := 33) dX5_trade_32 rfl ?_
  refine wp_aload_n_0 (pc' := 34) dX5_trade_33 rfl ?_
  refine wp_get_5_0 (pc' := 37) (hs.lt hn) hs.K (hs.r0) me_X5_trade_0 ic_X5_trade_5 dX5_trade_34 rfl ?_
  refine wp_iload_n_2 (pc' := 38) dX5_trade_37 rfl ?_
  refine wp_iald (pc' := 39) (N := 16) (hs.lt1 hn) hs.K1 hs.ln1 (by first | exact vp_in_nI (by omega) (by omega) | assumption | (unfold vp_in; decide)) dX5_trade_38 rfl ?_
  refine wp_iast (pc' := 40) (N := 16) (hs.lt1 hn) hs.K1 hs.ln1 (by first | exact vp_in_nI (by omega) (by omega) | assumption | (unfold vp_in; decide)) dX5_trade_39 rfl ?_
  refine wp_aload_n_0 (pc' := 41) dX5_trade_40 rfl ?_
  refine wp_get_5_0 (pc' := 44) (hs.lt hn) hs.K (hs.r0) me_X5_trade_0 ic_X5_trade_5 dX5_trade_41 rfl ?_
  refine wp_iload_n_2 (pc' := 45) dX5_trade_44 rfl ?_
  refine wp_iload_n_3 (pc' := 46) dX5_trade_45 rfl ?_
  refine wp_iast (pc' := 47) (N := 16) (hs.lt1 hn) hs.K1 hs.ln1 (by first | exact vp_in_nI (by omega) (by omega) | assumption | (unfold vp_in; decide)) dX5_trade_46 rfl ?_
  refine wp_return dX5_trade_47 rfl rfl (Nat.le_refl _) (Nat.le_refl _) ?_
  exact qV_of (by rw [nI_clamp (by omega), nI_clamp (by omega)])
theorem c_X5_begin {k nw : Nat} {κ : Int32} (hn : 89 ≤ n) (hs : St k) (hw : h k 4 = nI nw) (hw5 : nw ≤ 5) : Ctr l D cy B yX5_begin wsX5_begin rmX5_begin 0 0 n (rf0 π) h lg [.ref (B + k), .int κ] (qI (fun x h' => if nw < 5 then x = 1 ∧ h' = hup (hup (hup h (k + 2) nw κ) (k + 3) nw 0) k 4 (nI (nw + 1)) else x = 0 ∧ h' = h) (rf0 π) lg) := by
  refine Ctr.of (cc := cX5_begin) (nL := 2) (own := RX5) (rt := (some .boolean)) (ls := [some (.ref (B + k)), some (.int κ)]) (by decide) rfl rfl (Nat.le_of_ble_eq_true rfl) rfl ?_
  refine wp_aload_n_0 (pc' := 1) dX5_begin_0 rfl ?_
  refine wp_get_5_4 (pc' := 4) (hs.lt hn) hs.K me_X5_begin_0 ic_X5_begin_5 dX5_begin_1 rfl ?_
  refine wp_if_lt (pc' := 7) (tgt := 15) dX5_begin_4 rfl rfl (fun c4 => by exfalso; rw [hw] at c4; exact absurd c4 (nI_pos (by omega))) (fun c4 => ?_)
  refine wp_aload_n_0 (pc' := 8) dX5_begin_7 rfl ?_
  refine wp_get_5_4 (pc' := 11) (hs.lt hn) hs.K me_X5_begin_0 ic_X5_begin_5 dX5_begin_8 rfl ?_
  refine wp_iconst (pc' := 12) (5) dX5_begin_11 rfl (by decide) ?_
  refine wp_icmp_lt (pc' := 15) (tgt := 17) dX5_begin_12 rfl rfl (fun c12 => ?_) (fun c12 => ?_)
  · skip -- 12 taken
    rw [hw] at c12
    have w5 : nw < 5 := by (simp (disch := omega) only [Int32.lt_iff_toInt_lt, Int32.le_iff_toInt_le, ← Int32.toInt_inj, nI_toInt, il_0, il_1, il_2, il_3, il_4, il_5, il_6, il_8, il_9, il_10, il_16, il_26, il_32, il_40, il_n4, il_n1, il_n2, il_11, il_48, il_57, il_59, il_44, il_126, il_200, il_9999, il_66666, il_10000, il_1000000, il_15, il_12, il_256, il_4096, il_53, il_52] at c12; omega)
    refine wp_aload_n_0 (pc' := 18) dX5_begin_17 rfl ?_
    refine wp_get_5_1 (pc' := 21) (hs.lt hn) hs.K (hs.r1) me_X5_begin_1 ic_X5_begin_5 dX5_begin_18 rfl ?_
    refine wp_aload_n_0 (pc' := 22) dX5_begin_21 rfl ?_
    refine wp_get_5_4 (pc' := 25) (hs.lt hn) hs.K me_X5_begin_0 ic_X5_begin_5 dX5_begin_22 rfl ?_
    refine wp_iload_n_1 (pc' := 26) dX5_begin_25 rfl ?_
    refine wp_iast (pc' := 27) (N := 5) (hs.lt2 hn) hs.K2 hs.ln2 (by rw [hw]; exact vp_in_nI w5 (by omega)) dX5_begin_26 rfl ?_
    refine wp_aload_n_0 (pc' := 28) dX5_begin_27 rfl ?_
    refine wp_get_5_2 (pc' := 31) (hs.lt hn) hs.K (hs.r2) me_X5_begin_2 ic_X5_begin_5 dX5_begin_28 rfl ?_
    refine wp_aload_n_0 (pc' := 32) dX5_begin_31 rfl ?_
    refine wp_get_5_4 (pc' := 35) (hs.lt hn) hs.K me_X5_begin_0 ic_X5_begin_5 dX5_begin_32 rfl ?_
    refine wp_iconst (pc' := 36) (0) dX5_begin_35 rfl (by decide) ?_
    refine wp_iast (pc' := 37) (N := 5) (hs.lt3 hn) hs.K3 hs.ln3 (by rw [hup_cell (by omega), hw]; exact vp_in_nI w5 (by omega)) dX5_begin_36 rfl ?_
    refine wp_aload_n_0 (pc' := 38) dX5_begin_37 rfl ?_
    refine wp_dup (pc' := 39) dX5_begin_38 rfl rfl ?_
    refine wp_get_5_4 (pc' := 42) (hs.lt hn) hs.K me_X5_begin_0 ic_X5_begin_5 dX5_begin_39 rfl ?_
    refine wp_iconst (pc' := 43) (1) dX5_begin_42 rfl (by decide) ?_
    refine wp_iadd (pc' := 44) dX5_begin_43 rfl ?_
    refine wp_put_5_4 (pc' := 47) (hs.lt hn) hs.K me_X5_begin_0 ic_X5_begin_5 dX5_begin_44 rfl ?_
    refine wp_iconst (pc' := 48) (1) dX5_begin_47 rfl (by decide) ?_
    refine wp_zreturn rfl dX5_begin_48 rfl rfl (Nat.le_refl _) (Nat.le_refl _) ?_
    exact qI_of (by
        rw [if_pos w5]
        refine ⟨rfl, ?_⟩
        simp (disch := omega) only [hup_cell, hw, nI_1, nI_clamp])
  · skip -- 12 not taken
    rw [hw] at c12
    have w5 : ¬ nw < 5 := by (simp (disch := omega) only [Int32.lt_iff_toInt_lt, Int32.le_iff_toInt_le, ← Int32.toInt_inj, nI_toInt, il_0, il_1, il_2, il_3, il_4, il_5, il_6, il_8, il_9, il_10, il_16, il_26, il_32, il_40, il_n4, il_n1, il_n2, il_11, il_48, il_57, il_59, il_44, il_126, il_200, il_9999, il_66666, il_10000, il_1000000, il_15, il_12, il_256, il_4096, il_53, il_52] at c12; omega)
    refine wp_iconst (pc' := 16) (0) dX5_begin_15 rfl (by decide) ?_
    refine wp_zreturn rfl dX5_begin_16 rfl rfl (Nat.le_refl _) (Nat.le_refl _) ?_
    exact qI_of (by rw [if_neg w5]; exact ⟨rfl, rfl⟩)
theorem c_X5_append {k w s : Nat} {m : Int32} (hn : 89 ≤ n) (hs : St k) (hw : h k 4 = nI (w + 1)) (hw5 : w < 5) (hz : h (k + 3) w = nI s) (hs5 : s ≤ 5) : Ctr l D cy B yX5_append wsX5_append rmX5_append 0 0 n (rf0 π) h lg [.ref (B + k), .int m] (qI (fun x h' => if s < 5 then x = 1 ∧ h' = hup (hup h (k + 4) (5 * w + s) m) (k + 3) w (nI (s + 1)) else x = 0 ∧ h' = h) (rf0 π) lg) := by
  refine Ctr.of (cc := cX5_append) (nL := 3) (own := RX5) (rt := (some .boolean)) (ls := [some (.ref (B + k)), some (.int m), none]) (by decide) rfl rfl (Nat.le_of_ble_eq_true rfl) rfl ?_
  refine wp_aload_n_0 (pc' := 1) dX5_append_0 rfl ?_
  refine wp_get_5_4 (pc' := 4) (hs.lt hn) hs.K me_X5_append_0 ic_X5_append_5 dX5_append_1 rfl ?_
  refine wp_iconst (pc' := 5) (1) dX5_append_4 rfl (by decide) ?_
  refine wp_isub (pc' := 6) dX5_append_5 rfl ?_
  rw [hw, nI_pred]
  refine wp_istore_n_2 (pc' := 7) dX5_append_6 (by decide) rfl rfl ?_
  refine wp_iload_n_2 (pc' := 8) dX5_append_7 rfl ?_
  refine wp_if_lt (pc' := 11) (tgt := 35) dX5_append_8 rfl rfl (fun c8 => by exfalso; exact absurd c8 (nI_pos (by omega))) (fun c8 => ?_)
  refine wp_iload_n_2 (pc' := 12) dX5_append_11 rfl ?_
  refine wp_iconst (pc' := 13) (5) dX5_append_12 rfl (by decide) ?_
  refine wp_icmp_ge (pc' := 16) (tgt := 35) dX5_append_13 rfl rfl (fun c13 => by exfalso; (simp (disch := omega) only [Int32.lt_iff_toInt_lt, Int32.le_iff_toInt_le, ← Int32.toInt_inj, nI_toInt, il_0, il_1, il_2, il_3, il_4, il_5, il_6, il_8, il_9, il_10, il_16, il_26, il_32, il_40, il_n4, il_n1, il_n2, il_11, il_48, il_57, il_59, il_44, il_126, il_200, il_9999, il_66666, il_10000, il_1000000, il_15, il_12, il_256, il_4096, il_53, il_52] at c13; omega)) (fun c13 => ?_)
  refine wp_aload_n_0 (pc' := 17) dX5_append_16 rfl ?_
  refine wp_get_5_2 (pc' := 20) (hs.lt hn) hs.K (hs.r2) me_X5_append_1 ic_X5_append_5 dX5_append_17 rfl ?_
  refine wp_iload_n_2 (pc' := 21) dX5_append_20 rfl ?_
  refine wp_iald (pc' := 22) (N := 5) (hs.lt3 hn) hs.K3 hs.ln3 (by first | exact vp_in_nI (by omega) (by omega) | assumption | (unfold vp_in; decide)) dX5_append_21 rfl ?_
  rw [nI_clamp (by omega), hz]
  refine wp_if_lt (pc' := 25) (tgt := 35) dX5_append_22 rfl rfl (fun c22 => by exfalso; exact absurd c22 (nI_pos (by omega))) (fun c22 => ?_)
  refine wp_aload_n_0 (pc' := 26) dX5_append_25 rfl ?_
  refine wp_get_5_2 (pc' := 29) (hs.lt hn) hs.K (hs.r2) me_X5_append_1 ic_X5_append_5 dX5_append_26 rfl ?_
  refine wp_iload_n_2 (pc' := 30) dX5_append_29 rfl ?_
  refine wp_iald (pc' := 31) (N := 5) (hs.lt3 hn) hs.K3 hs.ln3 (by first | exact vp_in_nI (by omega) (by omega) | assumption | (unfold vp_in; decide)) dX5_append_30 rfl ?_
  rw [nI_clamp (by omega), hz]
  refine wp_iconst (pc' := 32) (5) dX5_append_31 rfl (by decide) ?_
  refine wp_icmp_lt (pc' := 35) (tgt := 37) dX5_append_32 rfl rfl (fun c32 => ?_) (fun c32 => ?_)
  · skip -- 32 taken
    have s5 : s < 5 := by (simp (disch := omega) only [Int32.lt_iff_toInt_lt, Int32.le_iff_toInt_le, ← Int32.toInt_inj, nI_toInt, il_0, il_1, il_2, il_3, il_4, il_5, il_6, il_8, il_9, il_10, il_16, il_26, il_32, il_40, il_n4, il_n1, il_n2, il_11, il_48, il_57, il_59, il_44, il_126, il_200, il_9999, il_66666, il_10000, il_1000000, il_15, il_12, il_256, il_4096, il_53, il_52] at c32; omega)
    refine wp_aload_n_0 (pc' := 38) dX5_append_37 rfl ?_
    refine wp_get_5_3 (pc' := 41) (hs.lt hn) hs.K (hs.r3) me_X5_append_2 ic_X5_append_5 dX5_append_38 rfl ?_
    refine wp_iload_n_2 (pc' := 42) dX5_append_41 rfl ?_
    refine wp_iconst (pc' := 43) (5) dX5_append_42 rfl (by decide) ?_
    refine wp_imul (pc' := 44) dX5_append_43 rfl ?_
    refine wp_aload_n_0 (pc' := 45) dX5_append_44 rfl ?_
    refine wp_get_5_2 (pc' := 48) (hs.lt hn) hs.K (hs.r2) me_X5_append_1 ic_X5_append_5 dX5_append_45 rfl ?_
    refine wp_iload_n_2 (pc' := 49) dX5_append_48 rfl ?_
    refine wp_iald (pc' := 50) (N := 5) (hs.lt3 hn) hs.K3 hs.ln3 (by first | exact vp_in_nI (by omega) (by omega) | assumption | (unfold vp_in; decide)) dX5_append_49 rfl ?_
    rw [nI_clamp (by omega), hz]
    refine wp_iadd (pc' := 51) dX5_append_50 rfl ?_
    rw [nI_5w]
    refine wp_iload_n_1 (pc' := 52) dX5_append_51 rfl ?_
    refine wp_iast (pc' := 53) (N := 25) (hs.lt4 hn) hs.K4 hs.ln4 (by first | exact vp_in_nI (by omega) (by omega) | assumption | (unfold vp_in; decide)) dX5_append_52 rfl ?_
    refine wp_aload_n_0 (pc' := 54) dX5_append_53 rfl ?_
    refine wp_get_5_2 (pc' := 57) (hs.lt hn) hs.K (hs.r2) me_X5_append_1 ic_X5_append_5 dX5_append_54 rfl ?_
    refine wp_iload_n_2 (pc' := 58) dX5_append_57 rfl ?_
    refine wp_dup2 (pc' := 59) dX5_append_58 rfl rfl rfl ?_
    refine wp_iald (pc' := 60) (N := 5) (hs.lt3 hn) hs.K3 hs.ln3 (by first | exact vp_in_nI (by omega) (by omega) | assumption | (unfold vp_in; decide)) dX5_append_59 rfl ?_
    refine wp_iconst (pc' := 61) (1) dX5_append_60 rfl (by decide) ?_
    refine wp_iadd (pc' := 62) dX5_append_61 rfl ?_
    refine wp_iast (pc' := 63) (N := 5) (hs.lt3 hn) hs.K3 hs.ln3 (by first | exact vp_in_nI (by omega) (by omega) | assumption | (unfold vp_in; decide)) dX5_append_62 rfl ?_
    refine wp_iconst (pc' := 64) (1) dX5_append_63 rfl (by decide) ?_
    refine wp_zreturn rfl dX5_append_64 rfl rfl (Nat.le_refl _) (Nat.le_refl _) ?_
    exact qI_of (by
        rw [if_pos s5]
        refine ⟨rfl, ?_⟩
        simp (disch := omega) only [hup_cell, nI_clamp, hz, nI_1])
  · skip -- 32 not taken
    have s5 : ¬ s < 5 := by (simp (disch := omega) only [Int32.lt_iff_toInt_lt, Int32.le_iff_toInt_le, ← Int32.toInt_inj, nI_toInt, il_0, il_1, il_2, il_3, il_4, il_5, il_6, il_8, il_9, il_10, il_16, il_26, il_32, il_40, il_n4, il_n1, il_n2, il_11, il_48, il_57, il_59, il_44, il_126, il_200, il_9999, il_66666, il_10000, il_1000000, il_15, il_12, il_256, il_4096, il_53, il_52] at c32; omega)
    refine wp_iconst (pc' := 36) (0) dX5_append_35 rfl (by decide) ?_
    refine wp_zreturn rfl dX5_append_36 rfl rfl (Nat.le_refl _) (Nat.le_refl _) ?_
    exact qI_of (by rw [if_neg s5]; exact ⟨rfl, rfl⟩)
end VST
section VST2
variable {l : Launch} {D : va_G} {cy : CY} {B n : Nat} {h : Hp} {lg : Lg} {π : Nat → Nat}
theorem lp_X5_clear {k : Nat} {post : PO} (hn : 89 ≤ n) (hs : St k) (H0 : Hp)
    (K : ∀ h', (∀ a, a ≠ k + 1 → h' a = H0 a) → (∀ i, i < 16 → h' (k + 1) i = 0) → ∀ a1, WP l D cy B cX5_clear 2 RX5 wsX5_clear rmX5_clear none (QE0 D cy B n 0 0 (post)) EX0 n (rf0 π) h' lg 0 0 21 [some (.ref (B + k)), a1] []) :
    ∀ d i : Nat, i + d = 16 → ∀ h', (∀ a, a ≠ k + 1 → h' a = H0 a) → (∀ j, j < i → h' (k + 1) j = 0) → WP l D cy B cX5_clear 2 RX5 wsX5_clear rmX5_clear none (QE0 D cy B n 0 0 (post)) EX0 n (rf0 π) h' lg 0 0 2 [some (.ref (B + k)), some (.int (nI i))] [] := by
  intro d
  induction d with
  | zero =>
    intro i hi h' e0 e1
    have : i = 16 := by omega
    subst this
    refine wp_iload_n_1 (pc' := 3) dX5_clear_2 rfl ?_
    refine wp_bipush (pc' := 5) (16) dX5_clear_3 rfl (by decide) ?_
    refine wp_icmp_ge (pc' := 8) (tgt := 21) dX5_clear_5 rfl rfl (fun c5 => ?_) (fun c5 => by exfalso; exact c5 (by decide))
    exact K h' e0 e1 _
  | succ d ih =>
    intro i hi h' e0 e1
    refine wp_iload_n_1 (pc' := 3) dX5_clear_2 rfl ?_
    refine wp_bipush (pc' := 5) (16) dX5_clear_3 rfl (by decide) ?_
    refine wp_icmp_ge (pc' := 8) (tgt := 21) dX5_clear_5 rfl rfl (fun c5 => by exfalso; (simp (disch := omega) only [Int32.lt_iff_toInt_lt, Int32.le_iff_toInt_le, ← Int32.toInt_inj, nI_toInt, il_0, il_1, il_2, il_3, il_4, il_5, il_6, il_8, il_9, il_10, il_16, il_26, il_32, il_40, il_n4, il_n1, il_n2, il_11, il_48, il_57, il_59, il_44, il_126, il_200, il_9999, il_66666, il_10000, il_1000000, il_15, il_12, il_256, il_4096, il_53, il_52] at c5; omega)) (fun c5 => ?_)
    refine wp_aload_n_0 (pc' := 9) dX5_clear_8 rfl ?_
    refine wp_get_5_0 (pc' := 12) (hs.lt hn) hs.K (hs.r0) me_X5_clear_0 ic_X5_clear_5 dX5_clear_9 rfl ?_
    refine wp_iload_n_1 (pc' := 13) dX5_clear_12 rfl ?_
    refine wp_iconst (pc' := 14) (0) dX5_clear_13 rfl (by decide) ?_
    refine wp_iast (pc' := 15) (N := 16) (hs.lt1 hn) hs.K1 hs.ln1 (by first | exact vp_in_nI (by omega) (by omega) | assumption | (unfold vp_in; decide)) dX5_clear_14 rfl ?_
    refine wp_iinc_1 (pc' := 18) (v := nI (i + 1)) dX5_clear_15 (by first | rfl | exact nI_1 _) (by decide) rfl rfl ?_
    refine wp_goto (tgt := 2) dX5_clear_18 rfl ?_
    refine ih (i + 1) (by omega) _ (fun a ha => by rw [hup_cell ha]; exact e0 a ha) (fun j hj => ?_)
    rw [nI_clamp (by omega)]
    by_cases e : j = i
    · subst e; rw [hup_at]
    · rw [hup_off e]; exact e1 j (by omega)
theorem c_X5_clear {k : Nat} (hn : 89 ≤ n) (hs : St k) : Ctr l D cy B yX5_clear wsX5_clear rmX5_clear 0 0 n (rf0 π) h lg [.ref (B + k)] (qV (fun h' => (∀ a, a ≠ k → a ≠ k + 1 → h' a = h a) ∧ (∀ i, i < 16 → h' (k + 1) i = 0) ∧ h' k 4 = 0) (rf0 π) lg) := by
  refine Ctr.of (cc := cX5_clear) (nL := 2) (own := RX5) (rt := none) (ls := [some (.ref (B + k)), none]) (by decide) rfl rfl (Nat.le_of_ble_eq_true rfl) rfl ?_
  refine wp_iconst (pc' := 1) (0) dX5_clear_0 rfl (by decide) ?_
  refine wp_istore_n_1 (pc' := 2) dX5_clear_1 (by decide) rfl rfl ?_
  refine lp_X5_clear hn hs h (fun h' e0 e1 a1 => ?_) 16 0 (by omega) h (fun _ _ => rfl) (fun j hj => by omega)
  refine wp_aload_n_0 (pc' := 22) dX5_clear_21 rfl ?_
  refine wp_iconst (pc' := 23) (0) dX5_clear_22 rfl (by decide) ?_
  refine wp_put_5_4 (pc' := 26) (hs.lt hn) hs.K me_X5_clear_1 ic_X5_clear_5 dX5_clear_23 rfl ?_
  refine wp_return dX5_clear_26 rfl rfl (Nat.le_refl _) (Nat.le_refl _) ?_
  exact qV_of ⟨fun a h1 h2 => by rw [hup_cell h1]; exact e0 a h2, fun i hi => by rw [hup_cell (by omega)]; exact e1 i hi, by rw [hup_at]⟩
end VST2

