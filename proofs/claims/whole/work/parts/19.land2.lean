abbrev rmJ6_bitCount_0f7a4 : Room := { frames := 0, cells := 0, slots := 0, locals := 0 }
theorem hy_J6_bitCount_0f7a4 : yJ6_bitCount_0f7a4.cls = RJ6 ∧ yJ6_bitCount_0f7a4.cls ≠ "java/lang/invoke/MethodHandle" ∧ yJ6_bitCount_0f7a4.cls ≠ "java/lang/invoke/VarHandle" ∧ (parseMethodDescriptor yJ6_bitCount_0f7a4.desc).map (fun d => d.parameters.length) = some 1 := by decide +kernel
theorem hz_J6_bitCount_0f7a4 : yJ6_bitCount_0f7a4.cls ≠ "java/lang/invoke/MethodHandle" ∧ yJ6_bitCount_0f7a4.cls ≠ "java/lang/invoke/VarHandle" ∧ (parseMethodDescriptor yJ6_bitCount_0f7a4.desc).map (fun d => d.parameters.length) = some 1 := by decide +kernel
abbrev rmX1_copy : Room := { frames := 1, cells := 0, slots := 0, locals := 40 }
theorem hy_X1_copy : yX1_copy.cls = RX1 ∧ yX1_copy.cls ≠ "java/lang/invoke/MethodHandle" ∧ yX1_copy.cls ≠ "java/lang/invoke/VarHandle" ∧ (parseMethodDescriptor yX1_copy.desc).map (fun d => d.parameters.length) = some 1 := by decide +kernel
theorem hz_X1_copy : yX1_copy.cls ≠ "java/lang/invoke/MethodHandle" ∧ yX1_copy.cls ≠ "java/lang/invoke/VarHandle" ∧ (parseMethodDescriptor yX1_copy.desc).map (fun d => d.parameters.length) = some 1 := by decide +kernel
abbrev rmX1_elsewhere : Room := { frames := 1, cells := 0, slots := 0, locals := 20 }
theorem hy_X1_elsewhere : yX1_elsewhere.cls = RX1 ∧ yX1_elsewhere.cls ≠ "java/lang/invoke/MethodHandle" ∧ yX1_elsewhere.cls ≠ "java/lang/invoke/VarHandle" ∧ (parseMethodDescriptor yX1_elsewhere.desc).map (fun d => d.parameters.length) = some 1 := by decide +kernel
theorem hz_X1_elsewhere : yX1_elsewhere.cls ≠ "java/lang/invoke/MethodHandle" ∧ yX1_elsewhere.cls ≠ "java/lang/invoke/VarHandle" ∧ (parseMethodDescriptor yX1_elsewhere.desc).map (fun d => d.parameters.length) = some 1 := by decide +kernel
abbrev rmX1_hungerOf : Room := { frames := 1, cells := 0, slots := 0, locals := 20 }
theorem hy_X1_hungerOf : yX1_hungerOf.cls = RX1 ∧ yX1_hungerOf.cls ≠ "java/lang/invoke/MethodHandle" ∧ yX1_hungerOf.cls ≠ "java/lang/invoke/VarHandle" ∧ (parseMethodDescriptor yX1_hungerOf.desc).map (fun d => d.parameters.length) = some 1 := by decide +kernel
theorem hz_X1_hungerOf : yX1_hungerOf.cls ≠ "java/lang/invoke/MethodHandle" ∧ yX1_hungerOf.cls ≠ "java/lang/invoke/VarHandle" ∧ (parseMethodDescriptor yX1_hungerOf.desc).map (fun d => d.parameters.length) = some 1 := by decide +kernel
abbrev rmX1_reach : Room := { frames := 2, cells := 0, slots := 0, locals := 47 }
theorem hy_X1_reach : yX1_reach.cls = RX1 ∧ yX1_reach.cls ≠ "java/lang/invoke/MethodHandle" ∧ yX1_reach.cls ≠ "java/lang/invoke/VarHandle" ∧ (parseMethodDescriptor yX1_reach.desc).map (fun d => d.parameters.length) = some 2 := by decide +kernel
theorem hz_X1_reach : yX1_reach.cls ≠ "java/lang/invoke/MethodHandle" ∧ yX1_reach.cls ≠ "java/lang/invoke/VarHandle" ∧ (parseMethodDescriptor yX1_reach.desc).map (fun d => d.parameters.length) = some 2 := by decide +kernel
theorem me_J6_bitCount_0f7a4_0 : Cond.constant RJ6 265 (1431655765) ∈ wsJ6_bitCount_0f7a4 := by decide +kernel
theorem me_J6_bitCount_0f7a4_1 : Cond.constant RJ6 266 (858993459) ∈ wsJ6_bitCount_0f7a4 := by decide +kernel
theorem me_J6_bitCount_0f7a4_2 : Cond.constant RJ6 267 (252645135) ∈ wsJ6_bitCount_0f7a4 := by decide +kernel
theorem me_X1_hungerOf_0 : Cond.static yX7_isMark ∈ wsX1_hungerOf := by decide +kernel
theorem me_X1_hungerOf_1 : Cond.initialized yX7_isMark.cls ∈ wsX1_hungerOf := by decide +kernel
theorem me_X1_hungerOf_2 : Cond.fieldLink RX1 9 "DrawnByLost$Land" "hunger" "[I" ∈ wsX1_hungerOf := by decide +kernel
theorem me_X1_copy_0 : Cond.fieldLink RX1 15 "DrawnByLost$Land" "rows" "I" ∈ wsX1_copy := by decide +kernel
theorem me_X1_copy_1 : Cond.fieldLink RX1 19 "DrawnByLost$Land" "columns" "I" ∈ wsX1_copy := by decide +kernel
theorem me_X1_copy_2 : Cond.fieldLink RX1 9 "DrawnByLost$Land" "hunger" "[I" ∈ wsX1_copy := by decide +kernel
theorem me_X1_copy_3 : Cond.methodLink RX1 39 arraycopyName ∈ wsX1_copy := by decide +kernel
theorem me_X1_copy_4 : Cond.native arraycopyName ∈ wsX1_copy := by decide +kernel
theorem me_X1_copy_5 : Cond.static arraycopyName ∈ wsX1_copy := by decide +kernel
theorem me_X1_copy_6 : Cond.initialized "java/lang/System" ∈ wsX1_copy := by decide +kernel
theorem me_X1_elsewhere_0 : Cond.fieldLink RX1 22 "DrawnByLost$Land" "all" "I" ∈ wsX1_elsewhere := by decide +kernel
theorem ic_X1_hungerOf_1 : ∀ w ∈ wsX10, w ∈ wsX1_hungerOf := by decide +kernel
theorem ic_X1_copy_1 : ∀ w ∈ wsX10, w ∈ wsX1_copy := by decide +kernel
theorem ic_X1_elsewhere_1 : ∀ w ∈ wsX10, w ∈ wsX1_elsewhere := by decide +kernel
section VLB
variable {l : Launch} {D : va_G} {cy : CY} {B n : Nat} {h : Hp} {lg : Lg} {π : Nat → Nat}
theorem c_J6_bitCount_0f7a4 (f : Nat → Bool) : Ctr l D cy B yJ6_bitCount_0f7a4 wsJ6_bitCount_0f7a4 rmJ6_bitCount_0f7a4 0 0 n (rf0 π) h lg [.int (S f)] (uI (nI (cnt f)) (rf0 π) h lg) := by
  refine Ctr.of (cc := cJ6_bitCount_0f7a4) (nL := 1) (own := RJ6) (rt := (some .int)) (ls := [some (.int (S f))]) (by decide) rfl rfl (Nat.le_of_ble_eq_true rfl) rfl ?_
  refine wp_iload_n_0 (pc' := 1) dJ6_bitCount_0f7a4_0 rfl ?_
  refine wp_iload_n_0 (pc' := 2) dJ6_bitCount_0f7a4_1 rfl ?_
  refine wp_iconst (pc' := 3) (1) dJ6_bitCount_0f7a4_2 rfl (by decide) ?_
  refine wp_iushr (pc' := 4) dJ6_bitCount_0f7a4_3 rfl ?_
  refine wp_ldc_w (pc' := 7) (v := (1431655765)) me_J6_bitCount_0f7a4_0 dJ6_bitCount_0f7a4_4 rfl ?_
  refine wp_iand (pc' := 8) dJ6_bitCount_0f7a4_7 rfl ?_
  refine wp_isub (pc' := 9) dJ6_bitCount_0f7a4_8 rfl ?_
  refine wp_istore_n_0 (pc' := 10) dJ6_bitCount_0f7a4_9 (by decide) rfl ?_
  refine wp_iload_n_0 (pc' := 11) dJ6_bitCount_0f7a4_10 rfl ?_
  refine wp_ldc_w (pc' := 14) (v := (858993459)) me_J6_bitCount_0f7a4_1 dJ6_bitCount_0f7a4_11 rfl ?_
  refine wp_iand (pc' := 15) dJ6_bitCount_0f7a4_14 rfl ?_
  refine wp_iload_n_0 (pc' := 16) dJ6_bitCount_0f7a4_15 rfl ?_
  refine wp_iconst (pc' := 17) (2) dJ6_bitCount_0f7a4_16 rfl (by decide) ?_
  refine wp_iushr (pc' := 18) dJ6_bitCount_0f7a4_17 rfl ?_
  refine wp_ldc_w (pc' := 21) (v := (858993459)) me_J6_bitCount_0f7a4_1 dJ6_bitCount_0f7a4_18 rfl ?_
  refine wp_iand (pc' := 22) dJ6_bitCount_0f7a4_21 rfl ?_
  refine wp_iadd (pc' := 23) dJ6_bitCount_0f7a4_22 rfl ?_
  refine wp_istore_n_0 (pc' := 24) dJ6_bitCount_0f7a4_23 (by decide) rfl ?_
  refine wp_iload_n_0 (pc' := 25) dJ6_bitCount_0f7a4_24 rfl ?_
  refine wp_iload_n_0 (pc' := 26) dJ6_bitCount_0f7a4_25 rfl ?_
  refine wp_iconst (pc' := 27) (4) dJ6_bitCount_0f7a4_26 rfl (by decide) ?_
  refine wp_iushr (pc' := 28) dJ6_bitCount_0f7a4_27 rfl ?_
  refine wp_iadd (pc' := 29) dJ6_bitCount_0f7a4_28 rfl ?_
  refine wp_ldc_w (pc' := 32) (v := (252645135)) me_J6_bitCount_0f7a4_2 dJ6_bitCount_0f7a4_29 rfl ?_
  refine wp_iand (pc' := 33) dJ6_bitCount_0f7a4_32 rfl ?_
  refine wp_istore_n_0 (pc' := 34) dJ6_bitCount_0f7a4_33 (by decide) rfl ?_
  refine wp_iload_n_0 (pc' := 35) dJ6_bitCount_0f7a4_34 rfl ?_
  refine wp_iload_n_0 (pc' := 36) dJ6_bitCount_0f7a4_35 rfl ?_
  refine wp_bipush (pc' := 38) (8) dJ6_bitCount_0f7a4_36 rfl (by decide) ?_
  refine wp_iushr (pc' := 39) dJ6_bitCount_0f7a4_38 rfl ?_
  refine wp_iadd (pc' := 40) dJ6_bitCount_0f7a4_39 rfl ?_
  refine wp_istore_n_0 (pc' := 41) dJ6_bitCount_0f7a4_40 (by decide) rfl ?_
  refine wp_iload_n_0 (pc' := 42) dJ6_bitCount_0f7a4_41 rfl ?_
  refine wp_iload_n_0 (pc' := 43) dJ6_bitCount_0f7a4_42 rfl ?_
  refine wp_bipush (pc' := 45) (16) dJ6_bitCount_0f7a4_43 rfl (by decide) ?_
  refine wp_iushr (pc' := 46) dJ6_bitCount_0f7a4_45 rfl ?_
  refine wp_iadd (pc' := 47) dJ6_bitCount_0f7a4_46 rfl ?_
  refine wp_istore_n_0 (pc' := 48) dJ6_bitCount_0f7a4_47 (by decide) rfl ?_
  refine wp_iload_n_0 (pc' := 49) dJ6_bitCount_0f7a4_48 rfl ?_
  refine wp_bipush (pc' := 51) (63) dJ6_bitCount_0f7a4_49 rfl (by decide) ?_
  refine wp_iand (pc' := 52) dJ6_bitCount_0f7a4_51 rfl ?_
  refine wp_ireturn dJ6_bitCount_0f7a4_52 rfl rfl (Nat.le_refl _) (Nat.le_refl _) ?_
  exact uI_of (by rw [← bcI_S]; rfl)
theorem c_X1_hungerOf {k m : Nat} (hn : 89 ≤ n) (hs : La k) (hm : m < 6) : Ctr l D cy B yX1_hungerOf wsX1_hungerOf rmX1_hungerOf 0 0 n (rf0 π) h lg [.ref (B + k), .int (nI m)] (uI (h (k + 1) m) (rf0 π) h lg) := by
  refine Ctr.of (cc := cX1_hungerOf) (nL := 2) (own := RX1) (rt := (some .int)) (ls := [some (.ref (B + k)), some (.int (nI m))]) (by decide) rfl rfl (Nat.le_of_ble_eq_true rfl) rfl ?_
  refine wp_iload_n_1 (pc' := 1) dX1_hungerOf_0 rfl ?_
  refine wp_callSNu (pc' := 4) (c_X7_isMark _) gX1_hungerOf_X7_isMark_n31 rfl rfl me_X1_hungerOf_1 (by decide +kernel) me_X1_hungerOf_0 hz_X7_isMark ⟨Nat.le_of_ble_eq_true rfl, Nat.le_of_ble_eq_true rfl⟩ ⟨rfl, rfl⟩ (Nat.le_of_ble_eq_true rfl) ⟨Nat.le_of_ble_eq_true rfl, Nat.le_of_ble_eq_true rfl⟩ rfl dX1_hungerOf_1 rfl ?_
  refine wp_if_eq (pc' := 7) (tgt := 16) dX1_hungerOf_4 rfl rfl (fun c4 => by exfalso; exact b2i_ne0.mpr (by simp only [decide_eq_true_eq]; (simp (disch := omega) only [Int32.lt_iff_toInt_lt, Int32.le_iff_toInt_le, ← Int32.toInt_inj, nI_toInt, il_0, il_1, il_2, il_3, il_4, il_5, il_6, il_8, il_9, il_10, il_16, il_26, il_32, il_40, il_n4, il_n1, il_n2, il_11, il_48, il_57, il_59, il_44, il_126, il_200, il_9999, il_66666, il_10000, il_1000000, il_15, il_12, il_256, il_4096, il_53, il_52] at *; omega)) c4) (fun c4 => ?_)
  refine wp_aload_n_0 (pc' := 8) dX1_hungerOf_7 rfl ?_
  refine wp_get_1_5 (pc' := 11) (hs.lt hn) hs.K (hs.r5) me_X1_hungerOf_2 ic_X1_hungerOf_1 dX1_hungerOf_8 rfl ?_
  refine wp_iload_n_1 (pc' := 12) dX1_hungerOf_11 rfl ?_
  refine wp_iald (pc' := 13) (N := 6) (hs.lt1 hn) hs.K1 hs.ln1 (by first | exact vp_in_nI (by omega) (by omega) | assumption | (unfold vp_in; decide)) dX1_hungerOf_12 rfl ?_
  refine wp_goto (tgt := 17) dX1_hungerOf_13 rfl ?_
  refine wp_ireturn dX1_hungerOf_17 rfl rfl (Nat.le_refl _) (Nat.le_refl _) ?_
  exact uI_of (by rw [nI_clamp (by omega)])
theorem la3 : La 3 := by unfold La; decide
theorem la11 : La 11 := by unfold La; decide
theorem c_X1_copy {k j R C : Nat} (hn : 89 ≤ n) (hs : La k) (hj : La j) (hne : k ≠ j) (hS : Sh R C) (h0 : h j 0 = nI R) (h1 : h j 1 = nI C) : Ctr l D cy B yX1_copy wsX1_copy rmX1_copy 0 0 n (rf0 π) h lg [.ref (B + k), .ref (B + j)] (qV (fun h' => (∀ a, a ≠ k → a ≠ k + 1 → h' a = h a) ∧ ShL h' k R C ∧ ∀ i, i < 6 → h' (k + 1) i = h (j + 1) i) (rf0 π) lg) := by
  have hkj : k + 1 < j ∨ j + 1 < k := by
    have z : ∀ k ∈ [3, 11], ∀ j ∈ [3, 11], k ≠ j → k + 1 < j ∨ j + 1 < k := by decide
    exact z k hs j hj hne
  refine Ctr.of (cc := cX1_copy) (nL := 2) (own := RX1) (rt := none) (ls := [some (.ref (B + k)), some (.ref (B + j))]) (by decide) rfl rfl (Nat.le_of_ble_eq_true rfl) rfl ?_
  refine wp_aload_n_0 (pc' := 1) dX1_copy_0 rfl ?_
  refine wp_aload_n_1 (pc' := 2) dX1_copy_1 rfl ?_
  refine wp_get_1_0 (pc' := 5) (hj.lt hn) hj.K me_X1_copy_0 ic_X1_copy_1 dX1_copy_2 rfl ?_
  refine wp_aload_n_1 (pc' := 6) dX1_copy_5 rfl ?_
  refine wp_get_1_1 (pc' := 9) (hj.lt hn) hj.K me_X1_copy_1 ic_X1_copy_1 dX1_copy_6 rfl ?_
  rw [h0, h1]
  refine wp_callVv (pc' := 12) (c_X1_shape hn hs hS) gX1_copy_X1_shape rfl rfl hy_X1_shape ⟨Nat.le_of_ble_eq_true rfl, Nat.le_of_ble_eq_true rfl⟩ ⟨rfl, rfl⟩ (Nat.le_of_ble_eq_true rfl) ⟨Nat.le_of_ble_eq_true rfl, Nat.le_of_ble_eq_true rfl⟩ (hs.lt hn) (ce1 hs.K) rfl rfl dX1_copy_9 rfl (fun h9 q9 => ?_)
  obtain ⟨e0, e1⟩ := q9
  refine wp_aload_n_1 (pc' := 13) dX1_copy_12 rfl ?_
  refine wp_get_1_5 (pc' := 16) (hj.lt hn) hj.K (hj.r5) me_X1_copy_2 ic_X1_copy_1 dX1_copy_13 rfl ?_
  refine wp_iconst (pc' := 17) (0) dX1_copy_16 rfl (by decide) ?_
  refine wp_aload_n_0 (pc' := 18) dX1_copy_17 rfl ?_
  refine wp_get_1_5 (pc' := 21) (hs.lt hn) hs.K (hs.r5) me_X1_copy_2 ic_X1_copy_1 dX1_copy_18 rfl ?_
  refine wp_iconst (pc' := 22) (0) dX1_copy_21 rfl (by decide) ?_
  refine wp_bipush (pc' := 24) (6) dX1_copy_22 rfl (by decide) ?_
  refine wp_copyi (pc' := 27) me_X1_copy_3 me_X1_copy_4 me_X1_copy_5 me_X1_copy_6 (hj.lt1 hn) hj.K1 hj.ln1 (hs.lt1 hn) hs.K1 hs.ln1 (by decide) (by decide) (by decide) (by decide) (by decide) (Nat.le_of_ble_eq_true rfl) (by decide) dX1_copy_24 rfl ?_
  refine wp_return dX1_copy_27 rfl rfl (Nat.le_refl _) (Nat.le_refl _) ?_
  refine qV_of ⟨fun a h1 h2 => ?_, ?_, fun i hi => ?_⟩
  · dsimp only
    rw [if_neg h2, e0 a h1]
  · exact e1.of_eq (by rw [if_neg (by omega)])
  · simp only [if_true]
    rw [e0 (j + 1) (by omega)]
    exact va_cpy_0 _ _ hi
theorem c_X1_elsewhere {k R C : Nat} (hn : 89 ≤ n) (hs : La k) (q : ShL h k R C) {f : Nat → Bool} (hf : Sup (R * C) f) : Ctr l D cy B yX1_elsewhere wsX1_elsewhere rmX1_elsewhere 0 0 n (rf0 π) h lg [.ref (B + k), .int (S f)] (uI (S (rch 3 R C f)) (rf0 π) h lg) := by
  have hC : 0 < C := by have := q.1.2.2.1; omega
  have hl := q.1.le
  refine Ctr.of (cc := cX1_elsewhere) (nL := 2) (own := RX1) (rt := (some .int)) (ls := [some (.ref (B + k)), some (.int (S f))]) (by decide) rfl rfl (Nat.le_of_ble_eq_true rfl) rfl ?_
  refine wp_iload_n_1 (pc' := 1) dX1_elsewhere_0 rfl ?_
  refine wp_if_ne (pc' := 4) (tgt := 6) dX1_elsewhere_1 rfl rfl (fun c1 => ?_) (fun c1 => ?_)
  · skip -- 1 taken
    have ne : ∃ x, x < 16 ∧ f x = true := by
      apply Classical.byContradiction
      intro w
      refine c1 (S_eq0.mpr fun i hi => ?_)
      cases e : f i
      · rfl
      · exact absurd ⟨i, hi, e⟩ w
    obtain ⟨x, hx, hfx⟩ := ne
    refine wp_iload_n_1 (pc' := 7) dX1_elsewhere_6 rfl ?_
    refine wp_callSu (pc' := 10) (c_J6_bitCount_0f7a4 _) gX1_elsewhere_J6_bitCount_0f7a4 rfl rfl hz_J6_bitCount_0f7a4 ⟨Nat.le_of_ble_eq_true rfl, Nat.le_of_ble_eq_true rfl⟩ ⟨rfl, rfl⟩ (Nat.le_of_ble_eq_true rfl) ⟨Nat.le_of_ble_eq_true rfl, Nat.le_of_ble_eq_true rfl⟩ rfl dX1_elsewhere_7 rfl ?_
    refine wp_iconst (pc' := 11) (1) dX1_elsewhere_10 rfl (by decide) ?_
    refine wp_icmp_ne (pc' := 14) (tgt := 25) dX1_elsewhere_11 rfl rfl (fun c11 => ?_) (fun c11 => ?_)
    · skip -- 11 taken
      have c2 : ¬ cnt f = 1 := fun w => c11 (by rw [w]; rfl)
      refine wp_aload_n_0 (pc' := 26) dX1_elsewhere_25 rfl ?_
      refine wp_get_1_2 (pc' := 29) (hs.lt hn) hs.K me_X1_elsewhere_0 ic_X1_elsewhere_1 dX1_elsewhere_26 rfl ?_
      refine wp_ireturn dX1_elsewhere_29 rfl rfl (Nat.le_refl _) (Nat.le_refl _) ?_
      refine uI_of ?_
      rw [q.all]
      refine S_ext fun i hi => ?_
      rw [Bool.eq_iff_iff, rch3_iff hC]
      simp only [decide_eq_true_eq]
      constructor
      · intro h1
        refine ⟨h1, Classical.byContradiction fun w => c2 ?_⟩
        have all : ∀ y, y < 16 → f y = true → y = i := fun y hy h2 => Classical.byContradiction fun ne => w ⟨y, hf.lt h2, h2, ne⟩
        have ex := all x hx hfx
        exact (cnt_1 hx hfx).mpr (fun y hy h2 => (all y hy h2).trans ex.symm)
      · rintro ⟨h1, _⟩
        exact h1
    · skip -- 11 not taken
      have c2 : cnt f = 1 := by
        have w : cnt f ≤ 16 * 1 := sumN_le fun i _ => one_le _
        (simp (disch := omega) only [Int32.lt_iff_toInt_lt, Int32.le_iff_toInt_le, ← Int32.toInt_inj, nI_toInt, il_0, il_1, il_2, il_3, il_4, il_5, il_6, il_8, il_9, il_10, il_16, il_26, il_32, il_40, il_n4, il_n1, il_n2, il_11, il_48, il_57, il_59, il_44, il_126, il_200, il_9999, il_66666, il_10000, il_1000000, il_15, il_12, il_256, il_4096, il_53, il_52] at c11; omega)
      refine wp_aload_n_0 (pc' := 15) dX1_elsewhere_14 rfl ?_
      refine wp_get_1_2 (pc' := 18) (hs.lt hn) hs.K me_X1_elsewhere_0 ic_X1_elsewhere_1 dX1_elsewhere_15 rfl ?_
      refine wp_iload_n_1 (pc' := 19) dX1_elsewhere_18 rfl ?_
      refine wp_iconst (pc' := 20) (-1) dX1_elsewhere_19 rfl (by decide) ?_
      refine wp_ixor (pc' := 21) dX1_elsewhere_20 rfl ?_
      refine wp_iand (pc' := 22) dX1_elsewhere_21 rfl ?_
      refine wp_goto (tgt := 29) dX1_elsewhere_22 rfl ?_
      refine wp_ireturn dX1_elsewhere_29 rfl rfl (Nat.le_refl _) (Nat.le_refl _) ?_
      refine uI_of ?_
      rw [q.all, S_andnot]
      refine S_ext fun i hi => ?_
      rw [Bool.eq_iff_iff, rch3_iff hC]
      simp only [Bool.and_eq_true, decide_eq_true_eq, Bool.not_eq_true']
      have only := (cnt_1 hx hfx).mp c2
      constructor
      · rintro ⟨h1, h2⟩
        exact ⟨h1, x, hf.lt hfx, hfx, fun e => by rw [← e, hfx] at h2; cases h2⟩
      · rintro ⟨h1, y, h2, h3, h4⟩
        refine ⟨h1, ?_⟩
        cases e : f i
        · rfl
        · exact absurd ((only y (by omega) h3).trans (only i hi e).symm) h4
  · skip -- 1 not taken
    refine wp_iconst (pc' := 5) (0) dX1_elsewhere_4 rfl (by decide) ?_
    refine wp_ireturn dX1_elsewhere_5 rfl rfl (Nat.le_refl _) (Nat.le_refl _) ?_
    refine uI_of ?_
    rw [← S_zero]
    refine S_ext fun i hi => ?_
    symm
    rw [Bool.eq_false_iff]
    intro w
    obtain ⟨_, x, hx, h2, _⟩ := (rch3_iff hC).mp w
    rw [S_eq0.mp c1 x (by omega)] at h2
    cases h2
theorem rch_01 {κ R C : Nat} (h2 : κ ≠ 2) (h3 : κ ≠ 3) (f : Nat → Bool) : rch κ R C f = rch 0 R C f := by
  funext y
  simp [rch, go, h2, h3]
theorem c_X1_reach {k R C κ : Nat} (hn : 89 ≤ n) (hs : La k) (q : ShL h k R C) (hκ : κ ≤ 3) {f : Nat → Bool} (hf : Sup (R * C) f) : Ctr l D cy B yX1_reach wsX1_reach rmX1_reach 0 0 n (rf0 π) h lg [.ref (B + k), .int (nI κ), .int (S f)] (uI (S (rch κ R C f)) (rf0 π) h lg) := by
  refine Ctr.of (cc := cX1_reach) (nL := 3) (own := RX1) (rt := (some .int)) (ls := [some (.ref (B + k)), some (.int (nI κ)), some (.int (S f))]) (by decide) rfl rfl (Nat.le_of_ble_eq_true rfl) rfl ?_
  refine wp_iload_n_1 (pc' := 1) dX1_reach_0 rfl ?_
  rcases (by omega : κ = 2 ∨ κ = 3 ∨ (κ ≠ 2 ∧ κ ≠ 3)) with rfl | rfl | ⟨k2, k3⟩
  · skip -- case 2
    refine wp_lookup (off := 27) (tgt := 28) dX1_reach_1 (by decide) rfl rfl ?_
    refine wp_aload_n_0 (pc' := 29) dX1_reach_28 rfl ?_
    refine wp_iload_n_2 (pc' := 30) dX1_reach_29 rfl ?_
    refine wp_callVu (pc' := 33) (c_X1_withinTwo hn hs q hf) gX1_reach_X1_withinTwo rfl rfl hy_X1_withinTwo ⟨Nat.le_of_ble_eq_true rfl, Nat.le_of_ble_eq_true rfl⟩ ⟨rfl, rfl⟩ (Nat.le_of_ble_eq_true rfl) ⟨Nat.le_of_ble_eq_true rfl, Nat.le_of_ble_eq_true rfl⟩ (hs.lt hn) (ce1 hs.K) rfl rfl dX1_reach_30 rfl ?_
    refine wp_ireturn dX1_reach_33 rfl rfl (Nat.le_refl _) (Nat.le_refl _) ?_
    exact uI_of rfl
  · skip -- case 3
    refine wp_lookup (off := 33) (tgt := 34) dX1_reach_1 (by decide) rfl rfl ?_
    refine wp_aload_n_0 (pc' := 35) dX1_reach_34 rfl ?_
    refine wp_iload_n_2 (pc' := 36) dX1_reach_35 rfl ?_
    refine wp_callVu (pc' := 39) (c_X1_elsewhere hn hs q hf) gX1_reach_X1_elsewhere rfl rfl hy_X1_elsewhere ⟨Nat.le_of_ble_eq_true rfl, Nat.le_of_ble_eq_true rfl⟩ ⟨rfl, rfl⟩ (Nat.le_of_ble_eq_true rfl) ⟨Nat.le_of_ble_eq_true rfl, Nat.le_of_ble_eq_true rfl⟩ (hs.lt hn) (ce1 hs.K) rfl rfl dX1_reach_36 rfl ?_
    refine wp_ireturn dX1_reach_39 rfl rfl (Nat.le_refl _) (Nat.le_refl _) ?_
    exact uI_of rfl
  · skip -- default
    refine wp_lookup (off := 39) (tgt := 40) dX1_reach_1 (by decide) (by rcases (by omega : κ = 0 ∨ κ = 1) with rfl | rfl <;> decide) rfl ?_
    refine wp_aload_n_0 (pc' := 41) dX1_reach_40 rfl ?_
    refine wp_iload_n_2 (pc' := 42) dX1_reach_41 rfl ?_
    refine wp_callVu (pc' := 45) (c_X1_beside hn hs q hf) gX1_reach_X1_beside rfl rfl hy_X1_beside ⟨Nat.le_of_ble_eq_true rfl, Nat.le_of_ble_eq_true rfl⟩ ⟨rfl, rfl⟩ (Nat.le_of_ble_eq_true rfl) ⟨Nat.le_of_ble_eq_true rfl, Nat.le_of_ble_eq_true rfl⟩ (hs.lt hn) (ce1 hs.K) rfl rfl dX1_reach_42 rfl ?_
    refine wp_ireturn dX1_reach_45 rfl rfl (Nat.le_refl _) (Nat.le_refl _) ?_
    exact uI_of (by rw [rch_01 k2 k3])
end VLB

