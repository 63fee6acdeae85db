abbrev rmX3_readWalk : Room := { frames := 2, cells := 0, slots := 0, locals := 41 }
theorem hy_X3_readWalk : yX3_readWalk.cls = RX3 ∧ yX3_readWalk.cls ≠ "java/lang/invoke/MethodHandle" ∧ yX3_readWalk.cls ≠ "java/lang/invoke/VarHandle" ∧ (parseMethodDescriptor yX3_readWalk.desc).map (fun d => d.parameters.length) = some 0 := by decide +kernel
theorem hz_X3_readWalk : yX3_readWalk.cls ≠ "java/lang/invoke/MethodHandle" ∧ yX3_readWalk.cls ≠ "java/lang/invoke/VarHandle" ∧ (parseMethodDescriptor yX3_readWalk.desc).map (fun d => d.parameters.length) = some 0 := by decide +kernel
abbrev rmX3_takeHunger : Room := { frames := 1, cells := 0, slots := 0, locals := 20 }
theorem hy_X3_takeHunger : yX3_takeHunger.cls = RX3 ∧ yX3_takeHunger.cls ≠ "java/lang/invoke/MethodHandle" ∧ yX3_takeHunger.cls ≠ "java/lang/invoke/VarHandle" ∧ (parseMethodDescriptor yX3_takeHunger.desc).map (fun d => d.parameters.length) = some 0 := by decide +kernel
theorem hz_X3_takeHunger : yX3_takeHunger.cls ≠ "java/lang/invoke/MethodHandle" ∧ yX3_takeHunger.cls ≠ "java/lang/invoke/VarHandle" ∧ (parseMethodDescriptor yX3_takeHunger.desc).map (fun d => d.parameters.length) = some 0 := by decide +kernel
abbrev rmX3_takeMark : Room := { frames := 1, cells := 0, slots := 0, locals := 20 }
theorem hy_X3_takeMark : yX3_takeMark.cls = RX3 ∧ yX3_takeMark.cls ≠ "java/lang/invoke/MethodHandle" ∧ yX3_takeMark.cls ≠ "java/lang/invoke/VarHandle" ∧ (parseMethodDescriptor yX3_takeMark.desc).map (fun d => d.parameters.length) = some 0 := by decide +kernel
theorem hz_X3_takeMark : yX3_takeMark.cls ≠ "java/lang/invoke/MethodHandle" ∧ yX3_takeMark.cls ≠ "java/lang/invoke/VarHandle" ∧ (parseMethodDescriptor yX3_takeMark.desc).map (fun d => d.parameters.length) = some 0 := by decide +kernel
abbrev rmX3_takeShape : Room := { frames := 1, cells := 0, slots := 0, locals := 23 }
theorem hy_X3_takeShape : yX3_takeShape.cls = RX3 ∧ yX3_takeShape.cls ≠ "java/lang/invoke/MethodHandle" ∧ yX3_takeShape.cls ≠ "java/lang/invoke/VarHandle" ∧ (parseMethodDescriptor yX3_takeShape.desc).map (fun d => d.parameters.length) = some 0 := by decide +kernel
theorem hz_X3_takeShape : yX3_takeShape.cls ≠ "java/lang/invoke/MethodHandle" ∧ yX3_takeShape.cls ≠ "java/lang/invoke/VarHandle" ∧ (parseMethodDescriptor yX3_takeShape.desc).map (fun d => d.parameters.length) = some 0 := by decide +kernel
theorem me_X3_takeShape_0 : Cond.fieldLink RX3 74 "DrawnByLost$Reader" "left" "I" ∈ wsX3_takeShape := by decide +kernel
theorem me_X3_takeShape_1 : Cond.fieldLink RX3 77 "DrawnByLost$Reader" "right" "I" ∈ wsX3_takeShape := by decide +kernel
theorem me_X3_takeShape_2 : Cond.fieldLink RX3 18 "DrawnByLost$Reader" "land" "LDrawnByLost$Land;" ∈ wsX3_takeShape := by decide +kernel
theorem me_X3_takeMark_0 : Cond.fieldLink RX3 36 "DrawnByLost$Reader" "onlyDeltas" "Z" ∈ wsX3_takeMark := by decide +kernel
theorem me_X3_takeMark_1 : Cond.fieldLink RX3 74 "DrawnByLost$Reader" "left" "I" ∈ wsX3_takeMark := by decide +kernel
theorem me_X3_takeMark_2 : Cond.fieldLink RX3 18 "DrawnByLost$Reader" "land" "LDrawnByLost$Land;" ∈ wsX3_takeMark := by decide +kernel
theorem me_X3_takeMark_3 : Cond.fieldLink RX3 77 "DrawnByLost$Reader" "right" "I" ∈ wsX3_takeMark := by decide +kernel
theorem me_X3_takeMark_4 : Cond.static yX7_isMark ∈ wsX3_takeMark := by decide +kernel
theorem me_X3_takeMark_5 : Cond.initialized yX7_isMark.cls ∈ wsX3_takeMark := by decide +kernel
theorem me_X3_takeMark_6 : Cond.fieldLink RX3 25 "DrawnByLost$Reader" "story" "LDrawnByLost$Story;" ∈ wsX3_takeMark := by decide +kernel
theorem me_X3_takeMark_7 : Cond.fieldLink RX3 87 "DrawnByLost$Story" "marks" "[I" ∈ wsX3_takeMark := by decide +kernel
theorem me_X3_takeHunger_0 : Cond.fieldLink RX3 36 "DrawnByLost$Reader" "onlyDeltas" "Z" ∈ wsX3_takeHunger := by decide +kernel
theorem me_X3_takeHunger_1 : Cond.fieldLink RX3 74 "DrawnByLost$Reader" "left" "I" ∈ wsX3_takeHunger := by decide +kernel
theorem me_X3_takeHunger_2 : Cond.static yX7_isMark ∈ wsX3_takeHunger := by decide +kernel
theorem me_X3_takeHunger_3 : Cond.initialized yX7_isMark.cls ∈ wsX3_takeHunger := by decide +kernel
theorem me_X3_takeHunger_4 : Cond.fieldLink RX3 77 "DrawnByLost$Reader" "right" "I" ∈ wsX3_takeHunger := by decide +kernel
theorem me_X3_takeHunger_5 : Cond.fieldLink RX3 18 "DrawnByLost$Reader" "land" "LDrawnByLost$Land;" ∈ wsX3_takeHunger := by decide +kernel
theorem me_X3_takeHunger_6 : Cond.fieldLink RX3 44 "DrawnByLost$Land" "hunger" "[I" ∈ wsX3_takeHunger := by decide +kernel
theorem me_X3_readWalk_0 : Cond.static yX7_isMark ∈ wsX3_readWalk := by decide +kernel
theorem me_X3_readWalk_1 : Cond.initialized yX7_isMark.cls ∈ wsX3_readWalk := by decide +kernel
theorem me_X3_readWalk_2 : Cond.fieldLink RX3 25 "DrawnByLost$Reader" "story" "LDrawnByLost$Story;" ∈ wsX3_readWalk := by decide +kernel
theorem ic_X3_takeShape_3 : ∀ w ∈ wsX30, w ∈ wsX3_takeShape := by decide +kernel
theorem ic_X3_takeMark_3 : ∀ w ∈ wsX30, w ∈ wsX3_takeMark := by decide +kernel
theorem ic_X3_takeMark_5 : ∀ w ∈ wsX50, w ∈ wsX3_takeMark := by decide +kernel
theorem ic_X3_takeHunger_3 : ∀ w ∈ wsX30, w ∈ wsX3_takeHunger := by decide +kernel
theorem ic_X3_takeHunger_1 : ∀ w ∈ wsX10, w ∈ wsX3_takeHunger := by decide +kernel
theorem ic_X3_readWalk_3 : ∀ w ∈ wsX30, w ∈ wsX3_readWalk := by decide +kernel
-- Reader: items
section VR2
variable {l : Launch} {D : va_G} {cy : CY} {B n : Nat} {h : Hp} {lg : Lg} {π : Nat → Nat}
/-- what the reader holds -/
def RS (h : Hp) (s : PSt) : Prop := ShL h 3 s.1 s.2.1 ∧ (∀ m, m < 6 → h 4 m = nI (s.2.2.2.1 m)) ∧ XR h 5 s.2.2.2.2 ∧ h 1 5 = b2i s.2.2.1
theorem st5 : St 5 := by unfold St; decide
theorem c_X3_takeShape {a b : Nat} (hn : 89 ≤ n) (ha : h 1 3 = nI a) (hb : h 1 4 = nI b) (ha2 : a ≤ 99) (hb2 : b ≤ 99) : Ctr l D cy B yX3_takeShape wsX3_takeShape rmX3_takeShape 0 0 n (rf0 π) h lg [.ref (B + 1)] (qI (fun x h' => if 2 ≤ a ∧ a ≤ 4 ∧ 2 ≤ b ∧ b ≤ 4 then x = 1 ∧ (∀ c, c ≠ 3 → h' c = h c) ∧ ShL h' 3 a b else x = 0 ∧ h' = h) (rf0 π) lg) := by
  refine Ctr.of (cc := cX3_takeShape) (nL := 1) (own := RX3) (rt := (some .boolean)) (ls := [some (.ref (B + 1))]) (by decide) rfl rfl (Nat.le_of_ble_eq_true rfl) rfl ?_
  refine wp_aload_n_0 (pc' := 1) dX3_takeShape_0 rfl ?_
  refine wp_get_3_3 (pc' := 4) (by omega) rfl me_X3_takeShape_0 ic_X3_takeShape_3 dX3_takeShape_1 rfl ?_
  refine wp_iconst (pc' := 5) (2) dX3_takeShape_4 rfl (by decide) ?_
  refine wp_icmp_lt (pc' := 8) (tgt := 32) dX3_takeShape_5 rfl rfl (fun c5 => ?_) (fun c5 => ?_)
  · skip -- 5 taken
    rw [ha] at c5
    have no : ¬ (2 ≤ a ∧ a ≤ 4 ∧ 2 ≤ b ∧ b ≤ 4) := fun z => by (simp (disch := omega) only [Int32.lt_iff_toInt_lt, Int32.le_iff_toInt_le, ← Int32.toInt_inj, nI_toInt, il_0, il_1, il_2, il_3, il_4, il_5, il_6, il_8, il_9, il_10, il_16, il_26, il_32, il_40, il_n4, il_n1, il_n2, il_11, il_48, il_57, il_59, il_44, il_126, il_200, il_9999, il_66666, il_10000, il_1000000, il_15, il_12, il_256, il_4096, il_53, il_52] at c5; omega)
    refine wp_iconst (pc' := 33) (0) dX3_takeShape_32 rfl (by decide) ?_
    refine wp_zreturn (by decide) dX3_takeShape_33 rfl rfl (Nat.le_refl _) (Nat.le_refl _) ?_
    exact qI_of (by rw [if_neg no]; exact ⟨rfl, rfl⟩)
  · skip -- 5 not taken
    rw [ha] at c5
    have y1 : 2 ≤ a := by (simp (disch := omega) only [Int32.lt_iff_toInt_lt, Int32.le_iff_toInt_le, ← Int32.toInt_inj, nI_toInt, il_0, il_1, il_2, il_3, il_4, il_5, il_6, il_8, il_9, il_10, il_16, il_26, il_32, il_40, il_n4, il_n1, il_n2, il_11, il_48, il_57, il_59, il_44, il_126, il_200, il_9999, il_66666, il_10000, il_1000000, il_15, il_12, il_256, il_4096, il_53, il_52] at c5; omega)
    refine wp_aload_n_0 (pc' := 9) dX3_takeShape_8 rfl ?_
    refine wp_get_3_3 (pc' := 12) (by omega) rfl me_X3_takeShape_0 ic_X3_takeShape_3 dX3_takeShape_9 rfl ?_
    refine wp_iconst (pc' := 13) (4) dX3_takeShape_12 rfl (by decide) ?_
    refine wp_icmp_gt (pc' := 16) (tgt := 32) dX3_takeShape_13 rfl rfl (fun c13 => ?_) (fun c13 => ?_)
    · skip -- 13 taken
      rw [ha] at c13
      have no : ¬ (2 ≤ a ∧ a ≤ 4 ∧ 2 ≤ b ∧ b ≤ 4) := fun z => by (simp (disch := omega) only [Int32.lt_iff_toInt_lt, Int32.le_iff_toInt_le, ← Int32.toInt_inj, nI_toInt, il_0, il_1, il_2, il_3, il_4, il_5, il_6, il_8, il_9, il_10, il_16, il_26, il_32, il_40, il_n4, il_n1, il_n2, il_11, il_48, il_57, il_59, il_44, il_126, il_200, il_9999, il_66666, il_10000, il_1000000, il_15, il_12, il_256, il_4096, il_53, il_52] at c13; omega)
      refine wp_iconst (pc' := 33) (0) dX3_takeShape_32 rfl (by decide) ?_
      refine wp_zreturn (by decide) dX3_takeShape_33 rfl rfl (Nat.le_refl _) (Nat.le_refl _) ?_
      exact qI_of (by rw [if_neg no]; exact ⟨rfl, rfl⟩)
    · skip -- 13 not taken
      rw [ha] at c13
      have y2 : a ≤ 4 := by (simp (disch := omega) only [Int32.lt_iff_toInt_lt, Int32.le_iff_toInt_le, ← Int32.toInt_inj, nI_toInt, il_0, il_1, il_2, il_3, il_4, il_5, il_6, il_8, il_9, il_10, il_16, il_26, il_32, il_40, il_n4, il_n1, il_n2, il_11, il_48, il_57, il_59, il_44, il_126, il_200, il_9999, il_66666, il_10000, il_1000000, il_15, il_12, il_256, il_4096, il_53, il_52] at c13; omega)
      refine wp_aload_n_0 (pc' := 17) dX3_takeShape_16 rfl ?_
      refine wp_get_3_4 (pc' := 20) (by omega) rfl me_X3_takeShape_1 ic_X3_takeShape_3 dX3_takeShape_17 rfl ?_
      refine wp_iconst (pc' := 21) (2) dX3_takeShape_20 rfl (by decide) ?_
      refine wp_icmp_lt (pc' := 24) (tgt := 32) dX3_takeShape_21 rfl rfl (fun c21 => ?_) (fun c21 => ?_)
      · skip -- 21 taken
        rw [hb] at c21
        have no : ¬ (2 ≤ a ∧ a ≤ 4 ∧ 2 ≤ b ∧ b ≤ 4) := fun z => by (simp (disch := omega) only [Int32.lt_iff_toInt_lt, Int32.le_iff_toInt_le, ← Int32.toInt_inj, nI_toInt, il_0, il_1, il_2, il_3, il_4, il_5, il_6, il_8, il_9, il_10, il_16, il_26, il_32, il_40, il_n4, il_n1, il_n2, il_11, il_48, il_57, il_59, il_44, il_126, il_200, il_9999, il_66666, il_10000, il_1000000, il_15, il_12, il_256, il_4096, il_53, il_52] at c21; omega)
        refine wp_iconst (pc' := 33) (0) dX3_takeShape_32 rfl (by decide) ?_
        refine wp_zreturn (by decide) dX3_takeShape_33 rfl rfl (Nat.le_refl _) (Nat.le_refl _) ?_
        exact qI_of (by rw [if_neg no]; exact ⟨rfl, rfl⟩)
      · skip -- 21 not taken
        rw [hb] at c21
        have y3 : 2 ≤ b := by (simp (disch := omega) only [Int32.lt_iff_toInt_lt, Int32.le_iff_toInt_le, ← Int32.toInt_inj, nI_toInt, il_0, il_1, il_2, il_3, il_4, il_5, il_6, il_8, il_9, il_10, il_16, il_26, il_32, il_40, il_n4, il_n1, il_n2, il_11, il_48, il_57, il_59, il_44, il_126, il_200, il_9999, il_66666, il_10000, il_1000000, il_15, il_12, il_256, il_4096, il_53, il_52] at c21; omega)
        refine wp_aload_n_0 (pc' := 25) dX3_takeShape_24 rfl ?_
        refine wp_get_3_4 (pc' := 28) (by omega) rfl me_X3_takeShape_1 ic_X3_takeShape_3 dX3_takeShape_25 rfl ?_
        refine wp_iconst (pc' := 29) (4) dX3_takeShape_28 rfl (by decide) ?_
        refine wp_icmp_le (pc' := 32) (tgt := 34) dX3_takeShape_29 rfl rfl (fun c29 => ?_) (fun c29 => ?_)
        · skip -- 29 taken
          rw [hb] at c29
          have y4 : b ≤ 4 := by (simp (disch := omega) only [Int32.lt_iff_toInt_lt, Int32.le_iff_toInt_le, ← Int32.toInt_inj, nI_toInt, il_0, il_1, il_2, il_3, il_4, il_5, il_6, il_8, il_9, il_10, il_16, il_26, il_32, il_40, il_n4, il_n1, il_n2, il_11, il_48, il_57, il_59, il_44, il_126, il_200, il_9999, il_66666, il_10000, il_1000000, il_15, il_12, il_256, il_4096, il_53, il_52] at c29; omega)
          rw [show (b : Nat) = b from rfl]
          refine wp_aload_n_0 (pc' := 35) dX3_takeShape_34 rfl ?_
          refine wp_get_3_6 (pc' := 38) (by omega) rfl rfl me_X3_takeShape_2 ic_X3_takeShape_3 dX3_takeShape_35 rfl ?_
          refine wp_aload_n_0 (pc' := 39) dX3_takeShape_38 rfl ?_
          refine wp_get_3_3 (pc' := 42) (by omega) rfl me_X3_takeShape_0 ic_X3_takeShape_3 dX3_takeShape_39 rfl ?_
          refine wp_aload_n_0 (pc' := 43) dX3_takeShape_42 rfl ?_
          refine wp_get_3_4 (pc' := 46) (by omega) rfl me_X3_takeShape_1 ic_X3_takeShape_3 dX3_takeShape_43 rfl ?_
          rw [ha, hb]
          refine wp_callVv (pc' := 49) (c_X1_shape hn la3 ⟨y1, y2, y3, y4⟩) gX3_takeShape_X1_shape rfl rfl hy_X1_shape ⟨Nat.le_of_ble_eq_true rfl, Nat.le_of_ble_eq_true rfl⟩ ⟨rfl, rfl⟩ (Nat.le_of_ble_eq_true rfl) ⟨Nat.le_of_ble_eq_true rfl, Nat.le_of_ble_eq_true rfl⟩ (by omega) (ce1 rfl) rfl rfl dX3_takeShape_46 rfl (fun h46 q46 => ?_)
          refine wp_iconst (pc' := 50) (1) dX3_takeShape_49 rfl (by decide) ?_
          refine wp_zreturn (by decide) dX3_takeShape_50 rfl rfl (Nat.le_refl _) (Nat.le_refl _) ?_
          exact qI_of (by rw [if_pos ⟨y1, y2, y3, y4⟩]; exact ⟨rfl, q46⟩)
        · skip -- 29 not taken
          rw [hb] at c29
          have no : ¬ (2 ≤ a ∧ a ≤ 4 ∧ 2 ≤ b ∧ b ≤ 4) := fun z => by (simp (disch := omega) only [Int32.lt_iff_toInt_lt, Int32.le_iff_toInt_le, ← Int32.toInt_inj, nI_toInt, il_0, il_1, il_2, il_3, il_4, il_5, il_6, il_8, il_9, il_10, il_16, il_26, il_32, il_40, il_n4, il_n1, il_n2, il_11, il_48, il_57, il_59, il_44, il_126, il_200, il_9999, il_66666, il_10000, il_1000000, il_15, il_12, il_256, il_4096, il_53, il_52] at c29; omega)
          refine wp_iconst (pc' := 33) (0) dX3_takeShape_32 rfl (by decide) ?_
          refine wp_zreturn (by decide) dX3_takeShape_33 rfl rfl (Nat.le_refl _) (Nat.le_refl _) ?_
          exact qI_of (by rw [if_neg no]; exact ⟨rfl, rfl⟩)
theorem c_X3_takeMark {a b R C : Nat} (hn : 89 ≤ n) (ha : h 1 3 = nI a) (hb : h 1 4 = nI b) (ha2 : a ≤ 99) (hb2 : b ≤ 99) (q : ShL h 3 R C) : Ctr l D cy B yX3_takeMark wsX3_takeMark rmX3_takeMark 0 0 n (rf0 π) h lg [.ref (B + 1)] (qI (fun x h' => if a < R * C ∧ b ≤ 5 then x = 1 ∧ h' = hup (hup h 1 5 0) 6 a (nI b) else x = 0 ∧ h' = hup h 1 5 0) (rf0 π) lg) := by
  have hl := q.1.le
  have ha' : hup h 1 5 0 1 3 = nI a := by rw [hup_off (by decide)]; exact ha
  have hb' : hup h 1 5 0 1 4 = nI b := by rw [hup_off (by decide)]; exact hb
  have qq := (q.of_eq (h' := hup h 1 5 0) (hup_cell (by decide))).places
  refine Ctr.of (cc := cX3_takeMark) (nL := 1) (own := RX3) (rt := (some .boolean)) (ls := [some (.ref (B + 1))]) (by decide) rfl rfl (Nat.le_of_ble_eq_true rfl) rfl ?_
  refine wp_aload_n_0 (pc' := 1) dX3_takeMark_0 rfl ?_
  refine wp_iconst (pc' := 2) (0) dX3_takeMark_1 rfl (by decide) ?_
  refine wp_put_3_5 (pc' := 5) (by omega) rfl me_X3_takeMark_0 ic_X3_takeMark_3 (by decide) dX3_takeMark_2 rfl ?_
  refine wp_aload_n_0 (pc' := 6) dX3_takeMark_5 rfl ?_
  refine wp_get_3_3 (pc' := 9) (by omega) rfl me_X3_takeMark_1 ic_X3_takeMark_3 dX3_takeMark_6 rfl ?_
  refine wp_if_lt (pc' := 12) (tgt := 45) dX3_takeMark_9 rfl rfl (fun c9 => by exfalso; rw [ha'] at c9; exact absurd c9 (nI_pos (by omega))) (fun c9 => ?_)
  refine wp_aload_n_0 (pc' := 13) dX3_takeMark_12 rfl ?_
  refine wp_get_3_3 (pc' := 16) (by omega) rfl me_X3_takeMark_1 ic_X3_takeMark_3 dX3_takeMark_13 rfl ?_
  refine wp_aload_n_0 (pc' := 17) dX3_takeMark_16 rfl ?_
  refine wp_get_3_6 (pc' := 20) (by omega) rfl rfl me_X3_takeMark_2 ic_X3_takeMark_3 dX3_takeMark_17 rfl ?_
  refine wp_callVu (pc' := 23) (c_X1_places hn la3) gX3_takeMark_X1_places rfl rfl hy_X1_places ⟨Nat.le_of_ble_eq_true rfl, Nat.le_of_ble_eq_true rfl⟩ ⟨rfl, rfl⟩ (Nat.le_of_ble_eq_true rfl) ⟨Nat.le_of_ble_eq_true rfl, Nat.le_of_ble_eq_true rfl⟩ (by omega) (ce1 rfl) rfl rfl dX3_takeMark_20 rfl ?_
  rw [qq]
  refine wp_icmp_ge (pc' := 26) (tgt := 45) dX3_takeMark_23 rfl rfl (fun c23 => ?_) (fun c23 => ?_)
  · skip -- 23 taken
    rw [ha'] at c23
    have no : ¬ (a < R * C ∧ b ≤ 5) := fun z => nI_ge z.1 (by omega) c23
    refine wp_iconst (pc' := 46) (0) dX3_takeMark_45 rfl (by decide) ?_
    refine wp_zreturn (by decide) dX3_takeMark_46 rfl rfl (Nat.le_refl _) (Nat.le_refl _) ?_
    exact qI_of (by rw [if_neg no]; exact ⟨rfl, rfl⟩)
  · skip -- 23 not taken
    rw [ha'] at c23
    have y1 : a < R * C := by
      apply Classical.byContradiction
      intro z
      exact c23 (nI_le (by omega) (by omega))
    refine wp_aload_n_0 (pc' := 27) dX3_takeMark_26 rfl ?_
    refine wp_get_3_3 (pc' := 30) (by omega) rfl me_X3_takeMark_1 ic_X3_takeMark_3 dX3_takeMark_27 rfl ?_
    refine wp_bipush (pc' := 32) (16) dX3_takeMark_30 rfl (by decide) ?_
    refine wp_icmp_ge (pc' := 35) (tgt := 45) dX3_takeMark_32 rfl rfl (fun c32 => by exfalso; rw [ha'] at c32; (simp (disch := omega) only [Int32.lt_iff_toInt_lt, Int32.le_iff_toInt_le, ← Int32.toInt_inj, nI_toInt, il_0, il_1, il_2, il_3, il_4, il_5, il_6, il_8, il_9, il_10, il_16, il_26, il_32, il_40, il_n4, il_n1, il_n2, il_11, il_48, il_57, il_59, il_44, il_126, il_200, il_9999, il_66666, il_10000, il_1000000, il_15, il_12, il_256, il_4096, il_53, il_52] at c32; omega)) (fun c32 => ?_)
    refine wp_aload_n_0 (pc' := 36) dX3_takeMark_35 rfl ?_
    refine wp_get_3_4 (pc' := 39) (by omega) rfl me_X3_takeMark_3 ic_X3_takeMark_3 dX3_takeMark_36 rfl ?_
    rw [hb']
    refine wp_callSNu (pc' := 42) (c_X7_isMark _) gX3_takeMark_X7_isMark_n83 rfl rfl me_X3_takeMark_5 (by decide +kernel) me_X3_takeMark_4 hz_X7_isMark ⟨Nat.le_of_ble_eq_true rfl, Nat.le_of_ble_eq_true rfl⟩ ⟨rfl, rfl⟩ (Nat.le_of_ble_eq_true rfl) ⟨Nat.le_of_ble_eq_true rfl, Nat.le_of_ble_eq_true rfl⟩ rfl dX3_takeMark_39 rfl ?_
    refine wp_if_ne (pc' := 45) (tgt := 47) dX3_takeMark_42 rfl rfl (fun c42 => ?_) (fun c42 => ?_)
    · skip -- 42 taken
      have y2 : b ≤ 5 := by
        have z2 := b2i_ne0.mp c42
        simp only [decide_eq_true_eq] at z2
        have z3 := z2.2
        (simp (disch := omega) only [Int32.lt_iff_toInt_lt, Int32.le_iff_toInt_le, ← Int32.toInt_inj, nI_toInt, il_0, il_1, il_2, il_3, il_4, il_5, il_6, il_8, il_9, il_10, il_16, il_26, il_32, il_40, il_n4, il_n1, il_n2, il_11, il_48, il_57, il_59, il_44, il_126, il_200, il_9999, il_66666, il_10000, il_1000000, il_15, il_12, il_256, il_4096, il_53, il_52] at z3; omega)
      refine wp_aload_n_0 (pc' := 48) dX3_takeMark_47 rfl ?_
      refine wp_get_3_7 (pc' := 51) (by omega) rfl rfl me_X3_takeMark_6 ic_X3_takeMark_3 dX3_takeMark_48 rfl ?_
      refine wp_get_5_0 (pc' := 54) (by omega) rfl rfl me_X3_takeMark_7 ic_X3_takeMark_5 dX3_takeMark_51 rfl ?_
      refine wp_aload_n_0 (pc' := 55) dX3_takeMark_54 rfl ?_
      refine wp_get_3_3 (pc' := 58) (by omega) rfl me_X3_takeMark_1 ic_X3_takeMark_3 dX3_takeMark_55 rfl ?_
      refine wp_aload_n_0 (pc' := 59) dX3_takeMark_58 rfl ?_
      refine wp_get_3_4 (pc' := 62) (by omega) rfl me_X3_takeMark_3 ic_X3_takeMark_3 dX3_takeMark_59 rfl ?_
      refine wp_iast (pc' := 63) (N := 16) (by omega) rfl rfl (by rw [ha']; exact vp_in_nI (by omega) (by omega)) dX3_takeMark_62 rfl ?_
      refine wp_iconst (pc' := 64) (1) dX3_takeMark_63 rfl (by decide) ?_
      refine wp_zreturn (by decide) dX3_takeMark_64 rfl rfl (Nat.le_refl _) (Nat.le_refl _) ?_
      exact qI_of (by rw [if_pos ⟨y1, y2⟩, ha', hb', nI_clamp (by omega)]; exact ⟨rfl, rfl⟩)
    · skip -- 42 not taken
      have no : ¬ (a < R * C ∧ b ≤ 5) := fun z => by
        have z2 := b2i_eq0.mp c42
        simp only [decide_eq_false_iff_not] at z2
        exact z2 ⟨nI_pos' (by omega), nI_lt (b := 6) (by omega) (by omega)⟩
      refine wp_iconst (pc' := 46) (0) dX3_takeMark_45 rfl (by decide) ?_
      refine wp_zreturn (by decide) dX3_takeMark_46 rfl rfl (Nat.le_refl _) (Nat.le_refl _) ?_
      exact qI_of (by rw [if_neg no]; exact ⟨rfl, rfl⟩)
theorem c_X3_takeHunger {a b : Nat} (hn : 89 ≤ n) (ha : h 1 3 = nI a) (hb : h 1 4 = nI b) (ha2 : a ≤ 99) (hb2 : b ≤ 99) : Ctr l D cy B yX3_takeHunger wsX3_takeHunger rmX3_takeHunger 0 0 n (rf0 π) h lg [.ref (B + 1)] (qI (fun x h' => if a ≤ 5 ∧ 1 ≤ b ∧ b ≤ 9 then x = 1 ∧ h' = hup (hup h 1 5 0) 4 a (nI b) else x = 0 ∧ h' = hup h 1 5 0) (rf0 π) lg) := by
  have ha' : hup h 1 5 0 1 3 = nI a := by rw [hup_off (by decide)]; exact ha
  have hb' : hup h 1 5 0 1 4 = nI b := by rw [hup_off (by decide)]; exact hb
  refine Ctr.of (cc := cX3_takeHunger) (nL := 1) (own := RX3) (rt := (some .boolean)) (ls := [some (.ref (B + 1))]) (by decide) rfl rfl (Nat.le_of_ble_eq_true rfl) rfl ?_
  refine wp_aload_n_0 (pc' := 1) dX3_takeHunger_0 rfl ?_
  refine wp_iconst (pc' := 2) (0) dX3_takeHunger_1 rfl (by decide) ?_
  refine wp_put_3_5 (pc' := 5) (by omega) rfl me_X3_takeHunger_0 ic_X3_takeHunger_3 (by decide) dX3_takeHunger_2 rfl ?_
  refine wp_aload_n_0 (pc' := 6) dX3_takeHunger_5 rfl ?_
  refine wp_get_3_3 (pc' := 9) (by omega) rfl me_X3_takeHunger_1 ic_X3_takeHunger_3 dX3_takeHunger_6 rfl ?_
  rw [ha']
  refine wp_callSNu (pc' := 12) (c_X7_isMark _) gX3_takeHunger_X7_isMark_n83 rfl rfl me_X3_takeHunger_3 (by decide +kernel) me_X3_takeHunger_2 hz_X7_isMark ⟨Nat.le_of_ble_eq_true rfl, Nat.le_of_ble_eq_true rfl⟩ ⟨rfl, rfl⟩ (Nat.le_of_ble_eq_true rfl) ⟨Nat.le_of_ble_eq_true rfl, Nat.le_of_ble_eq_true rfl⟩ rfl dX3_takeHunger_9 rfl ?_
  refine wp_if_eq (pc' := 15) (tgt := 32) dX3_takeHunger_12 rfl rfl (fun c12 => ?_) (fun c12 => ?_)
  · skip -- 12 taken
    have no : ¬ (a ≤ 5 ∧ 1 ≤ b ∧ b ≤ 9) := fun z => by
      have z2 := b2i_eq0.mp c12
      simp only [decide_eq_false_iff_not] at z2
      exact z2 ⟨nI_pos' (by omega), nI_lt (b := 6) (by omega) (by omega)⟩
    refine wp_iconst (pc' := 33) (0) dX3_takeHunger_32 rfl (by decide) ?_
    refine wp_zreturn (by decide) dX3_takeHunger_33 rfl rfl (Nat.le_refl _) (Nat.le_refl _) ?_
    exact qI_of (by rw [if_neg no]; exact ⟨rfl, rfl⟩)
  · skip -- 12 not taken
    have y1 : a ≤ 5 := by
      have z2 := b2i_ne0.mp c12
      simp only [decide_eq_true_eq] at z2
      have z3 := z2.2
      (simp (disch := omega) only [Int32.lt_iff_toInt_lt, Int32.le_iff_toInt_le, ← Int32.toInt_inj, nI_toInt, il_0, il_1, il_2, il_3, il_4, il_5, il_6, il_8, il_9, il_10, il_16, il_26, il_32, il_40, il_n4, il_n1, il_n2, il_11, il_48, il_57, il_59, il_44, il_126, il_200, il_9999, il_66666, il_10000, il_1000000, il_15, il_12, il_256, il_4096, il_53, il_52] at z3; omega)
    refine wp_aload_n_0 (pc' := 16) dX3_takeHunger_15 rfl ?_
    refine wp_get_3_4 (pc' := 19) (by omega) rfl me_X3_takeHunger_4 ic_X3_takeHunger_3 dX3_takeHunger_16 rfl ?_
    refine wp_iconst (pc' := 20) (1) dX3_takeHunger_19 rfl (by decide) ?_
    refine wp_icmp_lt (pc' := 23) (tgt := 32) dX3_takeHunger_20 rfl rfl (fun c20 => ?_) (fun c20 => ?_)
    · skip -- 20 taken
      rw [hb'] at c20
      have no : ¬ (a ≤ 5 ∧ 1 ≤ b ∧ b ≤ 9) := fun z => by (simp (disch := omega) only [Int32.lt_iff_toInt_lt, Int32.le_iff_toInt_le, ← Int32.toInt_inj, nI_toInt, il_0, il_1, il_2, il_3, il_4, il_5, il_6, il_8, il_9, il_10, il_16, il_26, il_32, il_40, il_n4, il_n1, il_n2, il_11, il_48, il_57, il_59, il_44, il_126, il_200, il_9999, il_66666, il_10000, il_1000000, il_15, il_12, il_256, il_4096, il_53, il_52] at c20; omega)
      refine wp_iconst (pc' := 33) (0) dX3_takeHunger_32 rfl (by decide) ?_
      refine wp_zreturn (by decide) dX3_takeHunger_33 rfl rfl (Nat.le_refl _) (Nat.le_refl _) ?_
      exact qI_of (by rw [if_neg no]; exact ⟨rfl, rfl⟩)
    · skip -- 20 not taken
      rw [hb'] at c20
      have y2 : 1 ≤ b := by (simp (disch := omega) only [Int32.lt_iff_toInt_lt, Int32.le_iff_toInt_le, ← Int32.toInt_inj, nI_toInt, il_0, il_1, il_2, il_3, il_4, il_5, il_6, il_8, il_9, il_10, il_16, il_26, il_32, il_40, il_n4, il_n1, il_n2, il_11, il_48, il_57, il_59, il_44, il_126, il_200, il_9999, il_66666, il_10000, il_1000000, il_15, il_12, il_256, il_4096, il_53, il_52] at c20; omega)
      refine wp_aload_n_0 (pc' := 24) dX3_takeHunger_23 rfl ?_
      refine wp_get_3_4 (pc' := 27) (by omega) rfl me_X3_takeHunger_4 ic_X3_takeHunger_3 dX3_takeHunger_24 rfl ?_
      refine wp_bipush (pc' := 29) (9) dX3_takeHunger_27 rfl (by decide) ?_
      refine wp_icmp_le (pc' := 32) (tgt := 34) dX3_takeHunger_29 rfl rfl (fun c29 => ?_) (fun c29 => ?_)
      · skip -- 29 taken
        rw [hb'] at c29
        have y3 : b ≤ 9 := by (simp (disch := omega) only [Int32.lt_iff_toInt_lt, Int32.le_iff_toInt_le, ← Int32.toInt_inj, nI_toInt, il_0, il_1, il_2, il_3, il_4, il_5, il_6, il_8, il_9, il_10, il_16, il_26, il_32, il_40, il_n4, il_n1, il_n2, il_11, il_48, il_57, il_59, il_44, il_126, il_200, il_9999, il_66666, il_10000, il_1000000, il_15, il_12, il_256, il_4096, il_53, il_52] at c29; omega)
        refine wp_aload_n_0 (pc' := 35) dX3_takeHunger_34 rfl ?_
        refine wp_get_3_6 (pc' := 38) (by omega) rfl rfl me_X3_takeHunger_5 ic_X3_takeHunger_3 dX3_takeHunger_35 rfl ?_
        refine wp_get_1_5 (pc' := 41) (by omega) rfl rfl me_X3_takeHunger_6 ic_X3_takeHunger_1 dX3_takeHunger_38 rfl ?_
        refine wp_aload_n_0 (pc' := 42) dX3_takeHunger_41 rfl ?_
        refine wp_get_3_3 (pc' := 45) (by omega) rfl me_X3_takeHunger_1 ic_X3_takeHunger_3 dX3_takeHunger_42 rfl ?_
        refine wp_aload_n_0 (pc' := 46) dX3_takeHunger_45 rfl ?_
        refine wp_get_3_4 (pc' := 49) (by omega) rfl me_X3_takeHunger_4 ic_X3_takeHunger_3 dX3_takeHunger_46 rfl ?_
        refine wp_iast (pc' := 50) (N := 6) (by omega) rfl rfl (by rw [ha']; exact vp_in_nI (by omega) (by omega)) dX3_takeHunger_49 rfl ?_
        refine wp_iconst (pc' := 51) (1) dX3_takeHunger_50 rfl (by decide) ?_
        refine wp_zreturn (by decide) dX3_takeHunger_51 rfl rfl (Nat.le_refl _) (Nat.le_refl _) ?_
        exact qI_of (by rw [if_pos ⟨y1, y2, y3⟩, ha', hb', nI_clamp (by omega)]; exact ⟨rfl, rfl⟩)
      · skip -- 29 not taken
        rw [hb'] at c29
        have no : ¬ (a ≤ 5 ∧ 1 ≤ b ∧ b ≤ 9) := fun z => by (simp (disch := omega) only [Int32.lt_iff_toInt_lt, Int32.le_iff_toInt_le, ← Int32.toInt_inj, nI_toInt, il_0, il_1, il_2, il_3, il_4, il_5, il_6, il_8, il_9, il_10, il_16, il_26, il_32, il_40, il_n4, il_n1, il_n2, il_11, il_48, il_57, il_59, il_44, il_126, il_200, il_9999, il_66666, il_10000, il_1000000, il_15, il_12, il_256, il_4096, il_53, il_52] at c29; omega)
        refine wp_iconst (pc' := 33) (0) dX3_takeHunger_32 rfl (by decide) ?_
        refine wp_zreturn (by decide) dX3_takeHunger_33 rfl rfl (Nat.le_refl _) (Nat.le_refl _) ?_
        exact qI_of (by rw [if_neg no]; exact ⟨rfl, rfl⟩)
theorem mk5_dig {len p : Nat} {tx : Nat → Nat} : mk5 len tx p = true ↔ ∃ a, dig len tx p = some a ∧ a ≤ 5 := by
  unfold mk5 dig
  simp only [Bool.and_eq_true, decide_eq_true_eq]
  constructor
  · rintro ⟨h1, h2⟩
    exact ⟨ltr len tx p - 48, by rw [if_pos ⟨h1, by omega⟩], by omega⟩
  · rintro ⟨a, h1, h2⟩
    split at h1
    · cases h1; omega
    · cases h1
theorem dig_ltr {len p a : Nat} {tx : Nat → Nat} (h : dig len tx p = some a) : ltr len tx p = a + 48 := by
  unfold dig at h
  split at h
  · cases h; omega
  · cases h
/-- what reading a walk has done when t marks stand -/
def WS (h h' : Hp) (len : Nat) (tx : Nat → Nat) (ρ : Nat → Nat) (κ p t : Nat) : Prop := (∀ a, a ≠ 1 → a ≠ 5 → a ≠ 7 → a ≠ 8 → a ≠ 9 → h' a = h a) ∧ h' 1 1 = h 1 1 ∧ h' 1 5 = 0 ∧ h' 1 2 = nI (p + t) ∧ h' 5 4 = nI (ρ 16 + 1) ∧ (∀ w, w < ρ 16 → h' 7 w = h 7 w ∧ h' 8 w = h 8 w ∧ ∀ j, j < 5 → h' 9 (5 * w + j) = h 9 (5 * w + j)) ∧ h' 7 (ρ 16) = nI κ ∧ h' 8 (ρ 16) = nI t ∧ ∀ j, j < t → h' 9 (5 * ρ 16 + j) = nI (ltr len tx (p + j) - 48)
theorem lp_X3_readWalk {len p κ : Nat} {tx ρ : Nat → Nat} {post : PO} (hn : 89 ≤ n) (H0 : Hp) (T0 : TX H0 len tx) (hp2 : p < 700) (h5 : ρ 16 < 5) 
    (Kt : ∀ h' t, WS H0 h' len tx ρ κ p t → nlead len tx 6 p = t → t ≤ 5 → ltr len tx (p + t) = 59 → 2 ≤ t → post (some (.int 1)) (rf0 π) (hup h' 1 2 (nI (p + t + 1))) lg)
    (Kf : ∀ h', (∀ a, a ≠ 1 → a ≠ 5 → a ≠ 7 → a ≠ 8 → a ≠ 9 → h' a = H0 a) → h' 1 1 = H0 1 1 → ¬ (2 ≤ nlead len tx 6 p ∧ nlead len tx 6 p ≤ 5 ∧ ltr len tx (p + nlead len tx 6 p) = 59) → post (some (.int 0)) (rf0 π) h' lg) :
    ∀ d t : Nat, t + d = 5 → ∀ h', WS H0 h' len tx ρ κ p t → (∀ j, j < t → mk5 len tx (p + j) = true) → ∀ a4 a5, okc a4 = true → WP l D cy B cX3_readWalk 6 RX3 wsX3_readWalk rmX3_readWalk (some .boolean) (QE0 D cy B n 0 0 (post)) EX0 n (rf0 π) h' lg 0 0 37 [some (.ref (B + 1)), some (.int (nI κ)), some (.int (nI t)), some (.int (nI t)), a4, a5] [] := by
  have hb := fun i hi => (T0.2.2 i hi).2
  have main : ∀ t : Nat, t ≤ 5 → ∀ h', WS H0 h' len tx ρ κ p t → (∀ j, j < t → mk5 len tx (p + j) = true) → (∀ h'' a4 a5, t < 5 → okc a4 = true → WS H0 h'' len tx ρ κ p (t + 1) → mk5 len tx (p + t) = true → WP l D cy B cX3_readWalk 6 RX3 wsX3_readWalk rmX3_readWalk (some .boolean) (QE0 D cy B n 0 0 (post)) EX0 n (rf0 π) h'' lg 0 0 37 [some (.ref (B + 1)), some (.int (nI κ)), some (.int (nI (t + 1))), some (.int (nI (t + 1))), a4, a5] []) → ∀ a4 a5, okc a4 = true → WP l D cy B cX3_readWalk 6 RX3 wsX3_readWalk rmX3_readWalk (some .boolean) (QE0 D cy B n 0 0 (post)) EX0 n (rf0 π) h' lg 0 0 37 [some (.ref (B + 1)), some (.int (nI κ)), some (.int (nI t)), some (.int (nI t)), a4, a5] [] := by
    intro t ht h' W all rec a4 a5 ho
    obtain ⟨w0, w1, w2, w3, w4, w5, w6, w7, w8⟩ := W
    have T1 : TX h' len tx := T0.of_eq w1 (w0 2 (by decide) (by decide) (by decide) (by decide) (by decide))
    have T2 : TX (hup h' 1 2 (nI (p + t + 1))) len tx := T1.of_eq (hup_off (by decide)) (hup_cell (by decide))
    have Kf2 := fun e => Kf (hup h' 1 2 (nI (p + t + 1))) (fun a h1 h2 h3 h4 h5 => by rw [hup_cell h1]; exact w0 a h1 h2 h3 h4 h5) (by rw [hup_off (by decide)]; exact w1) e
    refine wp_iload_n_3 (pc' := 38) dX3_readWalk_37 rfl ?_
    refine wp_iconst (pc' := 39) (5) dX3_readWalk_38 rfl (by decide) ?_
    refine wp_icmp_gt (pc' := 42) (tgt := 104) dX3_readWalk_39 rfl rfl (fun c39 => by exfalso; (simp (disch := omega) only [Int32.lt_iff_toInt_lt, Int32.le_iff_toInt_le, ← Int32.toInt_inj, nI_toInt, il_0, il_1, il_2, il_3, il_4, il_5, il_6, il_8, il_9, il_10, il_16, il_26, il_32, il_40, il_n4, il_n1, il_n2, il_11, il_48, il_57, il_59, il_44, il_126, il_200, il_9999, il_66666, il_10000, il_1000000, il_15, il_12, il_256, il_4096, il_53, il_52] at c39; omega)) (fun c39 => ?_)
    refine wp_aload_n_0 (pc' := 43) dX3_readWalk_42 rfl ?_
    refine wp_callVq (pc' := 46) (c_X3_next (p := p + t) hn T1 w3 (by omega)) gX3_readWalk_X3_next rfl rfl hy_X3_next ⟨Nat.le_of_ble_eq_true rfl, Nat.le_of_ble_eq_true rfl⟩ ⟨rfl, rfl⟩ (Nat.le_of_ble_eq_true rfl) ⟨Nat.le_of_ble_eq_true rfl, Nat.le_of_ble_eq_true rfl⟩ (by omega) (ce3 rfl) rfl rfl dX3_readWalk_43 rfl (fun x43 h43 q43 => ?_)
    obtain ⟨g0, g1⟩ := q43
    subst g0
    subst g1
    refine wp_istore_4 (pc' := 48) dX3_readWalk_46 (by decide) rfl rfl ?_
    refine wp_iload_4 (pc' := 50) dX3_readWalk_48 rfl ?_
    refine wp_bipush (pc' := 52) (59) dX3_readWalk_50 rfl (by decide) ?_
    refine wp_icmp_ne (pc' := 55) (tgt := 66) dX3_readWalk_52 rfl rfl (fun c52 => ?_) (fun c52 => ?_)
    · skip -- 52 taken
      have c59 : ¬ ltr len tx (p + t) = 59 := fun z => c52 ((pkI_eq hb (c := 59) (by omega) (by omega)).mpr z)
      refine wp_iload_4 (pc' := 68) dX3_readWalk_66 rfl ?_
      refine wp_callSu (pc' := 71) (c_fig T2) gX3_readWalk_X3_figure rfl rfl hz_X3_figure ⟨Nat.le_of_ble_eq_true rfl, Nat.le_of_ble_eq_true rfl⟩ ⟨rfl, rfl⟩ (Nat.le_of_ble_eq_true rfl) ⟨Nat.le_of_ble_eq_true rfl, Nat.le_of_ble_eq_true rfl⟩ rfl dX3_readWalk_68 rfl ?_
      refine wp_istore_5 (pc' := 73) dX3_readWalk_71 (by decide) rfl rfl ?_
      refine wp_iload_5 (pc' := 75) dX3_readWalk_73 rfl ?_
      refine wp_callSNu (pc' := 78) (c_X7_isMark _) gX3_readWalk_X7_isMark_n83 rfl rfl me_X3_readWalk_1 (by decide +kernel) me_X3_readWalk_0 hz_X7_isMark ⟨Nat.le_of_ble_eq_true rfl, Nat.le_of_ble_eq_true rfl⟩ ⟨rfl, rfl⟩ (Nat.le_of_ble_eq_true rfl) ⟨Nat.le_of_ble_eq_true rfl, Nat.le_of_ble_eq_true rfl⟩ rfl dX3_readWalk_75 rfl ?_
      refine wp_if_eq (pc' := 81) (tgt := 93) dX3_readWalk_78 rfl rfl (fun c78 => ?_) (fun c78 => ?_)
      · skip -- 78 taken
        have nm : mk5 len tx (p + t) = false := by
          have z := b2i_eq0.mp c78
          simp only [decide_eq_false_iff_not] at z
          cases e : mk5 len tx (p + t)
          · rfl
          · obtain ⟨a, h1, h2⟩ := mk5_dig.mp e
            rw [figI_some h1] at z
            exact absurd ⟨nI_pos' (by omega), nI_lt (b := 6) (by omega) (by omega)⟩ z
        have nl := nlead_eq (len := len) (tx := tx) 6 p t (by omega) all (Or.inr nm)
        refine wp_iconst (pc' := 94) (0) dX3_readWalk_93 rfl (by decide) ?_
        refine wp_zreturn (by decide) dX3_readWalk_94 rfl rfl (Nat.le_refl _) (Nat.le_refl _) ?_
        exact Kf2 (by rw [nl]; exact fun z => c59 z.2.2)
      · skip -- 78 not taken
        have nm : mk5 len tx (p + t) = true := by
          have z := b2i_ne0.mp c78
          simp only [decide_eq_true_eq] at z
          refine mk5_dig.mpr ?_
          cases e : dig len tx (p + t) with
          | none =>
            have := figI_neg.mpr e
            exact absurd z.1 (Int32.not_le.mpr this)
          | some a =>
            refine ⟨a, rfl, ?_⟩
            have z2 := z.2
            rw [figI_some e] at z2
            have := dig_le e
            (simp (disch := omega) only [Int32.lt_iff_toInt_lt, Int32.le_iff_toInt_le, ← Int32.toInt_inj, nI_toInt, il_0, il_1, il_2, il_3, il_4, il_5, il_6, il_8, il_9, il_10, il_16, il_26, il_32, il_40, il_n4, il_n1, il_n2, il_11, il_48, il_57, il_59, il_44, il_126, il_200, il_9999, il_66666, il_10000, il_1000000, il_15, il_12, il_256, il_4096, il_53, il_52] at z2; omega)
        obtain ⟨a, ha, ha5⟩ := mk5_dig.mp nm
        have hla := dig_ltr ha
        rw [figI_some ha]
        refine wp_aload_n_0 (pc' := 82) dX3_readWalk_81 rfl ?_
        refine wp_get_3_7 (pc' := 85) (by omega) rfl rfl me_X3_readWalk_2 ic_X3_readWalk_3 dX3_readWalk_82 rfl ?_
        refine wp_iload_5 (pc' := 87) dX3_readWalk_85 rfl ?_
        refine wp_callVq (pc' := 90) (c_X5_append (w := ρ 16) (s := t) hn st5 (by rw [hup_cell (by decide)]; exact w4) h5 (by rw [hup_cell (by decide)]; exact w7) ht) gX3_readWalk_X5_append rfl rfl hy_X5_append ⟨Nat.le_of_ble_eq_true rfl, Nat.le_of_ble_eq_true rfl⟩ ⟨rfl, rfl⟩ (Nat.le_of_ble_eq_true rfl) ⟨Nat.le_of_ble_eq_true rfl, Nat.le_of_ble_eq_true rfl⟩ (by omega) (ce5 rfl) rfl rfl dX3_readWalk_87 rfl (fun x87 h87 q87 => ?_)
        refine wp_if_ne (pc' := 93) (tgt := 95) dX3_readWalk_90 rfl rfl (fun c90 => ?_) (fun c90 => ?_)
        · skip -- 90 taken
          have t5 : t < 5 := by
            apply Classical.byContradiction
            intro z
            rw [if_neg (by omega)] at q87
            exact c90 q87.1
          rw [if_pos t5] at q87
          obtain ⟨g2, g3⟩ := q87
          subst g3
          refine wp_iinc_2 (pc' := 98) (v := nI (t + 1)) dX3_readWalk_95 (by first | rfl | exact nI_1 _) (by decide) rfl rfl ?_
          refine wp_iinc_3 (pc' := 101) (v := nI (t + 1)) dX3_readWalk_98 (by first | rfl | exact nI_1 _) (by decide) rfl rfl ?_
          refine wp_goto (tgt := 37) dX3_readWalk_101 rfl ?_
          refine rec _ _ _ t5 rfl ⟨fun c h1 h2 h3 h4 h5 => ?_, ?_, ?_, ?_, ?_, fun w hw => ?_, ?_, ?_, fun j hj => ?_⟩ nm
          · rw [hup_cell h4, hup_cell h5, hup_cell h1]; exact w0 c h1 h2 h3 h4 h5
          · rw [hup_cell (by decide), hup_cell (by decide), hup_off (by decide)]; exact w1
          · rw [hup_cell (by decide), hup_cell (by decide), hup_off (by decide)]; exact w2
          · rw [hup_cell (by decide), hup_cell (by decide), hup_at]; rfl
          · rw [hup_cell (by decide), hup_cell (by decide), hup_cell (by decide)]; exact w4
          · obtain ⟨x1, x2, x3⟩ := w5 w hw
            refine ⟨?_, ?_, fun j hj => ?_⟩
            · rw [hup_cell (by decide), hup_cell (by decide), hup_cell (by decide)]; exact x1
            · rw [hup_off (by omega), hup_cell (by decide), hup_cell (by decide)]; exact x2
            · rw [hup_cell (by decide), hup_off (by omega), hup_cell (by decide)]; exact x3 j hj
          · rw [hup_cell (by decide), hup_cell (by decide), hup_cell (by decide)]; exact w6
          · rw [hup_at]
          · rw [hup_cell (by decide)]
            by_cases e : j = t
            · subst e; rw [hup_at, hla, Nat.add_sub_cancel]
            · rw [hup_off (by omega), hup_cell (by decide)]; exact w8 j (by omega)
        · skip -- 90 not taken
          have t5 : t = 5 := by
            apply Classical.byContradiction
            intro z
            rw [if_pos (by omega)] at q87
            rw [q87.1] at c90
            exact absurd c90 (by decide)
          have nl := nlead_eq (len := len) (tx := tx) 6 p 6 (by omega) (fun j hj => by
            by_cases e : j = t
            · subst e; exact nm
            · exact all j (by omega)) (Or.inl rfl)
          rw [if_neg (by omega)] at q87
          obtain ⟨g2, g3⟩ := q87
          subst g3
          refine wp_iconst (pc' := 94) (0) dX3_readWalk_93 rfl (by decide) ?_
          refine wp_zreturn (by decide) dX3_readWalk_94 rfl rfl (Nat.le_refl _) (Nat.le_refl _) ?_
          exact Kf2 (by rw [nl]; omega)
    · skip -- 52 not taken
      have c59 := (pkI_eq hb (c := 59) (by omega) (by omega)).mp c52
      have nm : mk5 len tx (p + t) = false := by unfold mk5; rw [c59]; decide
      have nl := nlead_eq (len := len) (tx := tx) 6 p t (by omega) all (Or.inr nm)
      refine wp_iload_n_2 (pc' := 56) dX3_readWalk_55 rfl ?_
      refine wp_iconst (pc' := 57) (2) dX3_readWalk_56 rfl (by decide) ?_
      refine wp_icmp_lt (pc' := 60) (tgt := 64) dX3_readWalk_57 rfl rfl (fun c57 => ?_) (fun c57 => ?_)
      · skip -- 57 taken
        have t2 : t < 2 := by (simp (disch := omega) only [Int32.lt_iff_toInt_lt, Int32.le_iff_toInt_le, ← Int32.toInt_inj, nI_toInt, il_0, il_1, il_2, il_3, il_4, il_5, il_6, il_8, il_9, il_10, il_16, il_26, il_32, il_40, il_n4, il_n1, il_n2, il_11, il_48, il_57, il_59, il_44, il_126, il_200, il_9999, il_66666, il_10000, il_1000000, il_15, il_12, il_256, il_4096, il_53, il_52] at c57; omega)
        refine wp_iconst (pc' := 65) (0) dX3_readWalk_64 rfl (by decide) ?_
        refine wp_zreturn (by decide) dX3_readWalk_65 rfl rfl (Nat.le_refl _) (Nat.le_refl _) ?_
        exact Kf2 (by rw [nl]; omega)
      · skip -- 57 not taken
        have t2 : 2 ≤ t := by (simp (disch := omega) only [Int32.lt_iff_toInt_lt, Int32.le_iff_toInt_le, ← Int32.toInt_inj, nI_toInt, il_0, il_1, il_2, il_3, il_4, il_5, il_6, il_8, il_9, il_10, il_16, il_26, il_32, il_40, il_n4, il_n1, il_n2, il_11, il_48, il_57, il_59, il_44, il_126, il_200, il_9999, il_66666, il_10000, il_1000000, il_15, il_12, il_256, il_4096, il_53, il_52] at c57; omega)
        refine wp_iconst (pc' := 61) (1) dX3_readWalk_60 rfl (by decide) ?_
        refine wp_goto (tgt := 65) dX3_readWalk_61 rfl ?_
        refine wp_zreturn (by decide) dX3_readWalk_65 rfl rfl (Nat.le_refl _) (Nat.le_refl _) ?_
        exact Kt h' t ⟨w0, w1, w2, w3, w4, w5, w6, w7, w8⟩ nl ht c59 t2
  intro d
  induction d with
  | zero =>
    intro t ht h' W all a4 a5 ho
    exact main t (by omega) h' W all (fun _ _ _ z => by omega) a4 a5 ho
  | succ d ih =>
    intro t ht h' W all a4 a5 ho
    refine main t (by omega) h' W all (fun h'' b4 b5 z ho2 W2 nm => ih (t + 1) (by omega) h'' W2 (fun j hj => ?_) _ _ ho2) a4 a5 ho
    by_cases e : j = t
    · subst e; exact nm
    · exact all j (by omega)
end VR2

