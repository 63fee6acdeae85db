abbrev rmX1_beside : Room := { frames := 1, cells := 0, slots := 0, locals := 22 }
theorem hy_X1_beside : yX1_beside.cls = RX1 ∧ yX1_beside.cls ≠ "java/lang/invoke/MethodHandle" ∧ yX1_beside.cls ≠ "java/lang/invoke/VarHandle" ∧ (parseMethodDescriptor yX1_beside.desc).map (fun d => d.parameters.length) = some 1 := by decide +kernel
theorem hz_X1_beside : yX1_beside.cls ≠ "java/lang/invoke/MethodHandle" ∧ yX1_beside.cls ≠ "java/lang/invoke/VarHandle" ∧ (parseMethodDescriptor yX1_beside.desc).map (fun d => d.parameters.length) = some 1 := by decide +kernel
abbrev rmX1_places : Room := { frames := 0, cells := 0, slots := 0, locals := 0 }
theorem hy_X1_places : yX1_places.cls = RX1 ∧ yX1_places.cls ≠ "java/lang/invoke/MethodHandle" ∧ yX1_places.cls ≠ "java/lang/invoke/VarHandle" ∧ (parseMethodDescriptor yX1_places.desc).map (fun d => d.parameters.length) = some 0 := by decide +kernel
theorem hz_X1_places : yX1_places.cls ≠ "java/lang/invoke/MethodHandle" ∧ yX1_places.cls ≠ "java/lang/invoke/VarHandle" ∧ (parseMethodDescriptor yX1_places.desc).map (fun d => d.parameters.length) = some 0 := by decide +kernel
abbrev rmX1_shape : Room := { frames := 0, cells := 0, slots := 0, locals := 0 }
theorem hy_X1_shape : yX1_shape.cls = RX1 ∧ yX1_shape.cls ≠ "java/lang/invoke/MethodHandle" ∧ yX1_shape.cls ≠ "java/lang/invoke/VarHandle" ∧ (parseMethodDescriptor yX1_shape.desc).map (fun d => d.parameters.length) = some 2 := by decide +kernel
theorem hz_X1_shape : yX1_shape.cls ≠ "java/lang/invoke/MethodHandle" ∧ yX1_shape.cls ≠ "java/lang/invoke/VarHandle" ∧ (parseMethodDescriptor yX1_shape.desc).map (fun d => d.parameters.length) = some 2 := by decide +kernel
abbrev rmX1_step : Room := { frames := 0, cells := 0, slots := 0, locals := 0 }
theorem hy_X1_step : yX1_step.cls = RX1 ∧ yX1_step.cls ≠ "java/lang/invoke/MethodHandle" ∧ yX1_step.cls ≠ "java/lang/invoke/VarHandle" ∧ (parseMethodDescriptor yX1_step.desc).map (fun d => d.parameters.length) = some 2 := by decide +kernel
theorem hz_X1_step : yX1_step.cls ≠ "java/lang/invoke/MethodHandle" ∧ yX1_step.cls ≠ "java/lang/invoke/VarHandle" ∧ (parseMethodDescriptor yX1_step.desc).map (fun d => d.parameters.length) = some 2 := by decide +kernel
abbrev rmX1_withinTwo : Room := { frames := 1, cells := 0, slots := 0, locals := 22 }
theorem hy_X1_withinTwo : yX1_withinTwo.cls = RX1 ∧ yX1_withinTwo.cls ≠ "java/lang/invoke/MethodHandle" ∧ yX1_withinTwo.cls ≠ "java/lang/invoke/VarHandle" ∧ (parseMethodDescriptor yX1_withinTwo.desc).map (fun d => d.parameters.length) = some 1 := by decide +kernel
theorem hz_X1_withinTwo : yX1_withinTwo.cls ≠ "java/lang/invoke/MethodHandle" ∧ yX1_withinTwo.cls ≠ "java/lang/invoke/VarHandle" ∧ (parseMethodDescriptor yX1_withinTwo.desc).map (fun d => d.parameters.length) = some 1 := by decide +kernel
theorem me_X1_places_0 : Cond.fieldLink RX1 15 "DrawnByLost$Land" "rows" "I" ∈ wsX1_places := by decide +kernel
theorem me_X1_places_1 : Cond.fieldLink RX1 19 "DrawnByLost$Land" "columns" "I" ∈ wsX1_places := by decide +kernel
theorem me_X1_shape_0 : Cond.fieldLink RX1 15 "DrawnByLost$Land" "rows" "I" ∈ wsX1_shape := by decide +kernel
theorem me_X1_shape_1 : Cond.fieldLink RX1 25 "DrawnByLost$Land" "firstColumn" "I" ∈ wsX1_shape := by decide +kernel
theorem me_X1_shape_2 : Cond.fieldLink RX1 19 "DrawnByLost$Land" "columns" "I" ∈ wsX1_shape := by decide +kernel
theorem me_X1_shape_3 : Cond.fieldLink RX1 22 "DrawnByLost$Land" "all" "I" ∈ wsX1_shape := by decide +kernel
theorem me_X1_shape_4 : Cond.fieldLink RX1 28 "DrawnByLost$Land" "lastColumn" "I" ∈ wsX1_shape := by decide +kernel
theorem me_X1_step_0 : Cond.fieldLink RX1 19 "DrawnByLost$Land" "columns" "I" ∈ wsX1_step := by decide +kernel
theorem me_X1_step_1 : Cond.fieldLink RX1 22 "DrawnByLost$Land" "all" "I" ∈ wsX1_step := by decide +kernel
theorem me_X1_step_2 : Cond.fieldLink RX1 28 "DrawnByLost$Land" "lastColumn" "I" ∈ wsX1_step := by decide +kernel
theorem me_X1_step_3 : Cond.fieldLink RX1 25 "DrawnByLost$Land" "firstColumn" "I" ∈ wsX1_step := by decide +kernel
theorem ic_X1_places_1 : ∀ w ∈ wsX10, w ∈ wsX1_places := by decide +kernel
theorem ic_X1_shape_1 : ∀ w ∈ wsX10, w ∈ wsX1_shape := by decide +kernel
theorem ic_X1_step_1 : ∀ w ∈ wsX10, w ∈ wsX1_step := by decide +kernel
-- Land: the places' shape, steps of sets of places
section VLA
variable {l : Launch} {D : va_G} {cy : CY} {B n : Nat} {h : Hp} {lg : Lg} {π : Nat → Nat}
def ShL (h : Hp) (k R C : Nat) : Prop := Sh R C ∧ h k 0 = nI R ∧ h k 1 = nI C ∧ h k 2 = S (fun i => decide (i < R * C)) ∧ h k 3 = S (fun i => decide (i < R * C) && decide (i % C = 0)) ∧ h k 4 = S (fun i => decide (i < R * C) && decide (i % C = C - 1))
theorem ShL.of_eq {h h' : Hp} {k R C : Nat} (q : ShL h k R C) (e : h' k = h k) : ShL h' k R C := by
  unfold ShL at *
  rw [e]
  exact q
def fcol (C : Nat) : Nat → Int32
  | 0 => 0
  | i + 1 => fcol C i ||| ((1 : Int32) <<< ((nI i * nI C) &&& 31))
theorem shp_ok : ∀ R, R < 5 → ∀ C, C < 5 → 2 ≤ R → 2 ≤ C → ((1 : Int32) <<< ((nI R * nI C) &&& 31)) - 1 = S (fun i => decide (i < R * C)) ∧ fcol C R = S (fun i => decide (i < R * C) && decide (i % C = 0)) ∧ fcol C R <<< ((nI C - 1) &&& 31) = S (fun i => decide (i < R * C) && decide (i % C = C - 1)) := by decide +kernel
theorem c_X1_places {k : Nat} (hn : 89 ≤ n) (hs : La k) : Ctr l D cy B yX1_places wsX1_places rmX1_places 0 0 n (rf0 π) h lg [.ref (B + k)] (uI (h k 0 * h k 1) (rf0 π) h lg) := by
  refine Ctr.of (cc := cX1_places) (nL := 1) (own := RX1) (rt := (some .int)) (ls := [some (.ref (B + k))]) (by decide) rfl rfl (Nat.le_of_ble_eq_true rfl) rfl ?_
  refine wp_aload_n_0 (pc' := 1) dX1_places_0 rfl ?_
  refine wp_get_1_0 (pc' := 4) (hs.lt hn) hs.K me_X1_places_0 ic_X1_places_1 dX1_places_1 rfl ?_
  refine wp_aload_n_0 (pc' := 5) dX1_places_4 rfl ?_
  refine wp_get_1_1 (pc' := 8) (hs.lt hn) hs.K me_X1_places_1 ic_X1_places_1 dX1_places_5 rfl ?_
  refine wp_imul (pc' := 9) dX1_places_8 rfl ?_
  refine wp_ireturn dX1_places_9 rfl rfl (Nat.le_refl _) (Nat.le_refl _) ?_
  exact uI_of rfl
theorem ShL.places {k R C : Nat} (q : ShL h k R C) : h k 0 * h k 1 = nI (R * C) := by rw [q.2.1, q.2.2.1, nI_mul]
theorem lp_X1_shape {k R C : Nat} {post : PO} (hn : 89 ≤ n) (hs : La k) (hR : R ≤ 4) (H0 : Hp)
    (K : ∀ h', (∀ a, a ≠ k → h' a = H0 a) → h' k 0 = nI R → h' k 1 = nI C → h' k 2 = H0 k 2 → h' k 3 = fcol C R → ∀ a1 a2 a3, WP l D cy B cX1_shape 4 RX1 wsX1_shape rmX1_shape none (QE0 D cy B n 0 0 (post)) EX0 n (rf0 π) h' lg 0 0 65 [some (.ref (B + k)), a1, a2, a3] []) :
    ∀ d i : Nat, i + d = R → ∀ h', (∀ a, a ≠ k → h' a = H0 a) → h' k 0 = nI R → h' k 1 = nI C → h' k 2 = H0 k 2 → h' k 3 = fcol C i → ∀ x1 x2, WP l D cy B cX1_shape 4 RX1 wsX1_shape rmX1_shape none (QE0 D cy B n 0 0 (post)) EX0 n (rf0 π) h' lg 0 0 34 [some (.ref (B + k)), some (.int x1), some (.int x2), some (.int (nI i))] [] := by
  intro d
  induction d with
  | zero =>
    intro i hi h' e0 e1 e2 e3 e4 x1 x2
    have : i = R := by omega
    subst this
    refine wp_iload_n_3 (pc' := 35) dX1_shape_34 rfl ?_
    refine wp_aload_n_0 (pc' := 36) dX1_shape_35 rfl ?_
    refine wp_get_1_0 (pc' := 39) (hs.lt hn) hs.K me_X1_shape_0 ic_X1_shape_1 dX1_shape_36 rfl ?_
    refine wp_icmp_ge (pc' := 42) (tgt := 65) dX1_shape_39 rfl rfl (fun c39 => ?_) (fun c39 => by exfalso; rw [e1] at c39; exact c39 (nI_le (Nat.le_refl _) (by omega)))
    exact K h' e0 e1 e2 e3 e4 _ _ _
  | succ d ih =>
    intro i hi h' e0 e1 e2 e3 e4 x1 x2
    refine wp_iload_n_3 (pc' := 35) dX1_shape_34 rfl ?_
    refine wp_aload_n_0 (pc' := 36) dX1_shape_35 rfl ?_
    refine wp_get_1_0 (pc' := 39) (hs.lt hn) hs.K me_X1_shape_0 ic_X1_shape_1 dX1_shape_36 rfl ?_
    refine wp_icmp_ge (pc' := 42) (tgt := 65) dX1_shape_39 rfl rfl (fun c39 => by exfalso; rw [e1] at c39; exact nI_ge (by omega) (by omega) c39) (fun c39 => ?_)
    refine wp_aload_n_0 (pc' := 43) dX1_shape_42 rfl ?_
    refine wp_dup (pc' := 44) dX1_shape_43 rfl rfl ?_
    refine wp_get_1_3 (pc' := 47) (hs.lt hn) hs.K me_X1_shape_1 ic_X1_shape_1 dX1_shape_44 rfl ?_
    refine wp_iconst (pc' := 48) (1) dX1_shape_47 rfl (by decide) ?_
    refine wp_iload_n_3 (pc' := 49) dX1_shape_48 rfl ?_
    refine wp_aload_n_0 (pc' := 50) dX1_shape_49 rfl ?_
    refine wp_get_1_1 (pc' := 53) (hs.lt hn) hs.K me_X1_shape_2 ic_X1_shape_1 dX1_shape_50 rfl ?_
    refine wp_imul (pc' := 54) dX1_shape_53 rfl ?_
    refine wp_ishl (pc' := 55) dX1_shape_54 rfl ?_
    refine wp_ior (pc' := 56) dX1_shape_55 rfl ?_
    refine wp_put_1_3 (pc' := 59) (hs.lt hn) hs.K me_X1_shape_1 ic_X1_shape_1 dX1_shape_56 rfl ?_
    refine wp_iinc_3 (pc' := 62) (v := nI (i + 1)) dX1_shape_59 (by first | rfl | exact nI_1 _) (by decide) rfl rfl ?_
    refine wp_goto (tgt := 34) dX1_shape_62 rfl ?_
    exact ih (i + 1) (by omega) _ (fun a ha => by rw [hup_cell ha]; exact e0 a ha) (by rw [hup_off (by decide)]; exact e1) (by rw [hup_off (by decide)]; exact e2) (by rw [hup_off (by decide)]; exact e3) (by rw [hup_at, e4, e2]; rfl) x1 x2
theorem c_X1_shape {k R C : Nat} (hn : 89 ≤ n) (hs : La k) (hS : Sh R C) : Ctr l D cy B yX1_shape wsX1_shape rmX1_shape 0 0 n (rf0 π) h lg [.ref (B + k), .int (nI R), .int (nI C)] (qV (fun h' => (∀ a, a ≠ k → h' a = h a) ∧ ShL h' k R C) (rf0 π) lg) := by
  obtain ⟨h1, h2, h3, h4⟩ := id hS
  obtain ⟨q1, q2, q3⟩ := shp_ok R (by omega) C (by omega) h1 h3
  refine Ctr.of (cc := cX1_shape) (nL := 4) (own := RX1) (rt := none) (ls := [some (.ref (B + k)), some (.int (nI R)), some (.int (nI C)), none]) (by decide) rfl rfl (Nat.le_of_ble_eq_true rfl) rfl ?_
  refine wp_aload_n_0 (pc' := 1) dX1_shape_0 rfl ?_
  refine wp_iload_n_1 (pc' := 2) dX1_shape_1 rfl ?_
  refine wp_put_1_0 (pc' := 5) (hs.lt hn) hs.K me_X1_shape_0 ic_X1_shape_1 dX1_shape_2 rfl ?_
  refine wp_aload_n_0 (pc' := 6) dX1_shape_5 rfl ?_
  refine wp_iload_n_2 (pc' := 7) dX1_shape_6 rfl ?_
  refine wp_put_1_1 (pc' := 10) (hs.lt hn) hs.K me_X1_shape_2 ic_X1_shape_1 dX1_shape_7 rfl ?_
  refine wp_aload_n_0 (pc' := 11) dX1_shape_10 rfl ?_
  refine wp_iconst (pc' := 12) (1) dX1_shape_11 rfl (by decide) ?_
  refine wp_aload_n_0 (pc' := 13) dX1_shape_12 rfl ?_
  refine wp_get_1_0 (pc' := 16) (hs.lt hn) hs.K me_X1_shape_0 ic_X1_shape_1 dX1_shape_13 rfl ?_
  refine wp_aload_n_0 (pc' := 17) dX1_shape_16 rfl ?_
  refine wp_get_1_1 (pc' := 20) (hs.lt hn) hs.K me_X1_shape_2 ic_X1_shape_1 dX1_shape_17 rfl ?_
  refine wp_imul (pc' := 21) dX1_shape_20 rfl ?_
  refine wp_ishl (pc' := 22) dX1_shape_21 rfl ?_
  refine wp_iconst (pc' := 23) (1) dX1_shape_22 rfl (by decide) ?_
  refine wp_isub (pc' := 24) dX1_shape_23 rfl ?_
  refine wp_put_1_2 (pc' := 27) (hs.lt hn) hs.K me_X1_shape_3 ic_X1_shape_1 dX1_shape_24 rfl ?_
  refine wp_aload_n_0 (pc' := 28) dX1_shape_27 rfl ?_
  refine wp_iconst (pc' := 29) (0) dX1_shape_28 rfl (by decide) ?_
  refine wp_put_1_3 (pc' := 32) (hs.lt hn) hs.K me_X1_shape_1 ic_X1_shape_1 dX1_shape_29 rfl ?_
  refine wp_iconst (pc' := 33) (0) dX1_shape_32 rfl (by decide) ?_
  refine wp_istore_n_3 (pc' := 34) dX1_shape_33 (by decide) rfl rfl ?_
  refine lp_X1_shape (R := R) (C := C) hn hs h2 (hup (hup (hup h k 0 (nI R)) k 1 (nI C)) k 2 _) (fun h' e0 e1 e2 e3 e4 a1 a2 a3 => ?_) R 0 (by omega) _ (fun a ha => by rw [hup_cell ha]) (by simp [hup, upd]) (by simp [hup, upd]) (by simp [hup, upd]) (by rw [hup_at]; rfl) _ _
  refine wp_aload_n_0 (pc' := 66) dX1_shape_65 rfl ?_
  refine wp_aload_n_0 (pc' := 67) dX1_shape_66 rfl ?_
  refine wp_get_1_3 (pc' := 70) (hs.lt hn) hs.K me_X1_shape_1 ic_X1_shape_1 dX1_shape_67 rfl ?_
  refine wp_aload_n_0 (pc' := 71) dX1_shape_70 rfl ?_
  refine wp_get_1_1 (pc' := 74) (hs.lt hn) hs.K me_X1_shape_2 ic_X1_shape_1 dX1_shape_71 rfl ?_
  refine wp_iconst (pc' := 75) (1) dX1_shape_74 rfl (by decide) ?_
  refine wp_isub (pc' := 76) dX1_shape_75 rfl ?_
  refine wp_ishl (pc' := 77) dX1_shape_76 rfl ?_
  refine wp_put_1_4 (pc' := 80) (hs.lt hn) hs.K me_X1_shape_4 ic_X1_shape_1 dX1_shape_77 rfl ?_
  refine wp_return dX1_shape_80 rfl rfl (Nat.le_refl _) (Nat.le_refl _) ?_
  refine qV_of ⟨fun a ha => ?_, hS, ?_, ?_, ?_, ?_, ?_⟩
  · rw [hup_cell ha, e0 a ha, hup_cell ha, hup_cell ha, hup_cell ha]
  · rw [hup_off (by decide), e1]
  · rw [hup_off (by decide), e2]
  · rw [hup_off (by decide), e3]
    simp only [hup_at]
    rw [hup_off (by decide), hup_at]
    exact q1
  · rw [hup_off (by decide), e4]; exact q2
  · rw [hup_at, e4, e2]; exact q3
theorem ShL.all {k R C : Nat} (q : ShL h k R C) : h k 2 = S (fun i => decide (i < R * C)) := q.2.2.2.1
theorem c_X1_step {k R C d : Nat} (hn : 89 ≤ n) (hs : La k) (q : ShL h k R C) (hd : d < 4) {f : Nat → Bool} (hf : Sup (R * C) f) : Ctr l D cy B yX1_step wsX1_step rmX1_step 0 0 n (rf0 π) h lg [.ref (B + k), .int (nI d), .int (S f)] (uI (S (stepB R C d f)) (rf0 π) h lg) := by
  obtain ⟨hS, e0, e1, e2, e3, e4⟩ := q
  refine Ctr.of (cc := cX1_step) (nL := 3) (own := RX1) (rt := (some .int)) (ls := [some (.ref (B + k)), some (.int (nI d)), some (.int (S f))]) (by decide) rfl rfl (Nat.le_of_ble_eq_true rfl) rfl ?_
  refine wp_iload_n_1 (pc' := 1) dX1_step_0 rfl ?_
  rcases (by omega : d = 0 ∨ d = 1 ∨ d = 2 ∨ d = 3) with rfl | rfl | rfl | rfl
  · skip -- case 0
    refine wp_tblIn (off := 27) (tgt := 28) dX1_step_1 (by decide) (by decide) rfl rfl ?_
    refine wp_iload_n_2 (pc' := 29) dX1_step_28 rfl ?_
    refine wp_aload_n_0 (pc' := 30) dX1_step_29 rfl ?_
    refine wp_get_1_1 (pc' := 33) (hs.lt hn) hs.K me_X1_step_0 ic_X1_step_1 dX1_step_30 rfl ?_
    refine wp_iushr (pc' := 34) dX1_step_33 rfl ?_
    refine wp_ireturn dX1_step_34 rfl rfl (Nat.le_refl _) (Nat.le_refl _) ?_
    exact uI_of (by rw [e1]; exact st_up hS hf)
  · skip -- case 1
    refine wp_tblIn (off := 34) (tgt := 35) dX1_step_1 (by decide) (by decide) rfl rfl ?_
    refine wp_iload_n_2 (pc' := 36) dX1_step_35 rfl ?_
    refine wp_aload_n_0 (pc' := 37) dX1_step_36 rfl ?_
    refine wp_get_1_1 (pc' := 40) (hs.lt hn) hs.K me_X1_step_0 ic_X1_step_1 dX1_step_37 rfl ?_
    refine wp_ishl (pc' := 41) dX1_step_40 rfl ?_
    refine wp_aload_n_0 (pc' := 42) dX1_step_41 rfl ?_
    refine wp_get_1_2 (pc' := 45) (hs.lt hn) hs.K me_X1_step_1 ic_X1_step_1 dX1_step_42 rfl ?_
    refine wp_iand (pc' := 46) dX1_step_45 rfl ?_
    refine wp_ireturn dX1_step_46 rfl rfl (Nat.le_refl _) (Nat.le_refl _) ?_
    exact uI_of (by rw [e1, e2]; exact st_down hS hf)
  · skip -- case 2
    refine wp_tblIn (off := 46) (tgt := 47) dX1_step_1 (by decide) (by decide) rfl rfl ?_
    refine wp_iload_n_2 (pc' := 48) dX1_step_47 rfl ?_
    refine wp_aload_n_0 (pc' := 49) dX1_step_48 rfl ?_
    refine wp_get_1_4 (pc' := 52) (hs.lt hn) hs.K me_X1_step_2 ic_X1_step_1 dX1_step_49 rfl ?_
    refine wp_iconst (pc' := 53) (-1) dX1_step_52 rfl (by decide) ?_
    refine wp_ixor (pc' := 54) dX1_step_53 rfl ?_
    refine wp_iand (pc' := 55) dX1_step_54 rfl ?_
    refine wp_iconst (pc' := 56) (1) dX1_step_55 rfl (by decide) ?_
    refine wp_ishl (pc' := 57) dX1_step_56 rfl ?_
    refine wp_ireturn dX1_step_57 rfl rfl (Nat.le_refl _) (Nat.le_refl _) ?_
    exact uI_of (by rw [e4]; exact st_right hS hf)
  · skip -- default
    refine wp_tblOut (tgt := 58) dX1_step_1 (by decide) rfl ?_
    refine wp_iload_n_2 (pc' := 59) dX1_step_58 rfl ?_
    refine wp_aload_n_0 (pc' := 60) dX1_step_59 rfl ?_
    refine wp_get_1_3 (pc' := 63) (hs.lt hn) hs.K me_X1_step_3 ic_X1_step_1 dX1_step_60 rfl ?_
    refine wp_iconst (pc' := 64) (-1) dX1_step_63 rfl (by decide) ?_
    refine wp_ixor (pc' := 65) dX1_step_64 rfl ?_
    refine wp_iand (pc' := 66) dX1_step_65 rfl ?_
    refine wp_iconst (pc' := 67) (1) dX1_step_66 rfl (by decide) ?_
    refine wp_iushr (pc' := 68) dX1_step_67 rfl ?_
    refine wp_ireturn dX1_step_68 rfl rfl (Nat.le_refl _) (Nat.le_refl _) ?_
    exact uI_of (by rw [e3]; exact st_left hS hf)
theorem c_X1_beside {k R C : Nat} (hn : 89 ≤ n) (hs : La k) (q : ShL h k R C) {f : Nat → Bool} (hf : Sup (R * C) f) : Ctr l D cy B yX1_beside wsX1_beside rmX1_beside 0 0 n (rf0 π) h lg [.ref (B + k), .int (S f)] (uI (S (rch 0 R C f)) (rf0 π) h lg) := by
  refine Ctr.of (cc := cX1_beside) (nL := 2) (own := RX1) (rt := (some .int)) (ls := [some (.ref (B + k)), some (.int (S f))]) (by decide) rfl rfl (Nat.le_of_ble_eq_true rfl) rfl ?_
  refine wp_aload_n_0 (pc' := 1) dX1_beside_0 rfl ?_
  refine wp_iconst (pc' := 2) (0) dX1_beside_1 rfl (by decide) ?_
  refine wp_iload_n_1 (pc' := 3) dX1_beside_2 rfl ?_
  refine wp_callVu (pc' := 6) (c_X1_step (d := 0) hn hs q (by omega) hf) gX1_beside_X1_step rfl rfl hy_X1_step ⟨Nat.le_of_ble_eq_true rfl, Nat.le_of_ble_eq_true rfl⟩ ⟨rfl, rfl⟩ (Nat.le_of_ble_eq_true rfl) ⟨Nat.le_of_ble_eq_true rfl, Nat.le_of_ble_eq_true rfl⟩ (hs.lt hn) (ce1 hs.K) rfl rfl dX1_beside_3 rfl ?_
  refine wp_aload_n_0 (pc' := 7) dX1_beside_6 rfl ?_
  refine wp_iconst (pc' := 8) (1) dX1_beside_7 rfl (by decide) ?_
  refine wp_iload_n_1 (pc' := 9) dX1_beside_8 rfl ?_
  refine wp_callVu (pc' := 12) (c_X1_step (d := 1) hn hs q (by omega) hf) gX1_beside_X1_step rfl rfl hy_X1_step ⟨Nat.le_of_ble_eq_true rfl, Nat.le_of_ble_eq_true rfl⟩ ⟨rfl, rfl⟩ (Nat.le_of_ble_eq_true rfl) ⟨Nat.le_of_ble_eq_true rfl, Nat.le_of_ble_eq_true rfl⟩ (hs.lt hn) (ce1 hs.K) rfl rfl dX1_beside_9 rfl ?_
  refine wp_ior (pc' := 13) dX1_beside_12 rfl ?_
  refine wp_aload_n_0 (pc' := 14) dX1_beside_13 rfl ?_
  refine wp_iconst (pc' := 15) (2) dX1_beside_14 rfl (by decide) ?_
  refine wp_iload_n_1 (pc' := 16) dX1_beside_15 rfl ?_
  refine wp_callVu (pc' := 19) (c_X1_step (d := 2) hn hs q (by omega) hf) gX1_beside_X1_step rfl rfl hy_X1_step ⟨Nat.le_of_ble_eq_true rfl, Nat.le_of_ble_eq_true rfl⟩ ⟨rfl, rfl⟩ (Nat.le_of_ble_eq_true rfl) ⟨Nat.le_of_ble_eq_true rfl, Nat.le_of_ble_eq_true rfl⟩ (hs.lt hn) (ce1 hs.K) rfl rfl dX1_beside_16 rfl ?_
  refine wp_ior (pc' := 20) dX1_beside_19 rfl ?_
  refine wp_aload_n_0 (pc' := 21) dX1_beside_20 rfl ?_
  refine wp_iconst (pc' := 22) (3) dX1_beside_21 rfl (by decide) ?_
  refine wp_iload_n_1 (pc' := 23) dX1_beside_22 rfl ?_
  refine wp_callVu (pc' := 26) (c_X1_step (d := 3) hn hs q (by omega) hf) gX1_beside_X1_step rfl rfl hy_X1_step ⟨Nat.le_of_ble_eq_true rfl, Nat.le_of_ble_eq_true rfl⟩ ⟨rfl, rfl⟩ (Nat.le_of_ble_eq_true rfl) ⟨Nat.le_of_ble_eq_true rfl, Nat.le_of_ble_eq_true rfl⟩ (hs.lt hn) (ce1 hs.K) rfl rfl dX1_beside_23 rfl ?_
  refine wp_ior (pc' := 27) dX1_beside_26 rfl ?_
  refine wp_ireturn dX1_beside_27 rfl rfl (Nat.le_refl _) (Nat.le_refl _) ?_
  exact uI_of (by rw [S_or, S_or, S_or]; exact S_ext fun i _ => beside_rch q.1 (by decide) (by decide) hf i)
theorem c_X1_withinTwo {k R C : Nat} (hn : 89 ≤ n) (hs : La k) (q : ShL h k R C) {f : Nat → Bool} (hf : Sup (R * C) f) : Ctr l D cy B yX1_withinTwo wsX1_withinTwo rmX1_withinTwo 0 0 n (rf0 π) h lg [.ref (B + k), .int (S f)] (uI (S (rch 2 R C f)) (rf0 π) h lg) := by
  have s0 := stepB_sup R C 0 f
  have s1 := stepB_sup R C 1 f
  have s2 := stepB_sup R C 2 f
  have s3 := stepB_sup R C 3 f
  refine Ctr.of (cc := cX1_withinTwo) (nL := 6) (own := RX1) (rt := (some .int)) (ls := [some (.ref (B + k)), some (.int (S f)), none, none, none, none]) (by decide) rfl rfl (Nat.le_of_ble_eq_true rfl) rfl ?_
  refine wp_aload_n_0 (pc' := 1) dX1_withinTwo_0 rfl ?_
  refine wp_iconst (pc' := 2) (0) dX1_withinTwo_1 rfl (by decide) ?_
  refine wp_iload_n_1 (pc' := 3) dX1_withinTwo_2 rfl ?_
  refine wp_callVu (pc' := 6) (c_X1_step (d := 0) hn hs q (by omega) hf) gX1_withinTwo_X1_step rfl rfl hy_X1_step ⟨Nat.le_of_ble_eq_true rfl, Nat.le_of_ble_eq_true rfl⟩ ⟨rfl, rfl⟩ (Nat.le_of_ble_eq_true rfl) ⟨Nat.le_of_ble_eq_true rfl, Nat.le_of_ble_eq_true rfl⟩ (hs.lt hn) (ce1 hs.K) rfl rfl dX1_withinTwo_3 rfl ?_
  refine wp_istore_n_2 (pc' := 7) dX1_withinTwo_6 (by decide) rfl rfl ?_
  refine wp_aload_n_0 (pc' := 8) dX1_withinTwo_7 rfl ?_
  refine wp_iconst (pc' := 9) (1) dX1_withinTwo_8 rfl (by decide) ?_
  refine wp_iload_n_1 (pc' := 10) dX1_withinTwo_9 rfl ?_
  refine wp_callVu (pc' := 13) (c_X1_step (d := 1) hn hs q (by omega) hf) gX1_withinTwo_X1_step rfl rfl hy_X1_step ⟨Nat.le_of_ble_eq_true rfl, Nat.le_of_ble_eq_true rfl⟩ ⟨rfl, rfl⟩ (Nat.le_of_ble_eq_true rfl) ⟨Nat.le_of_ble_eq_true rfl, Nat.le_of_ble_eq_true rfl⟩ (hs.lt hn) (ce1 hs.K) rfl rfl dX1_withinTwo_10 rfl ?_
  refine wp_istore_n_3 (pc' := 14) dX1_withinTwo_13 (by decide) rfl rfl ?_
  refine wp_aload_n_0 (pc' := 15) dX1_withinTwo_14 rfl ?_
  refine wp_iconst (pc' := 16) (2) dX1_withinTwo_15 rfl (by decide) ?_
  refine wp_iload_n_1 (pc' := 17) dX1_withinTwo_16 rfl ?_
  refine wp_callVu (pc' := 20) (c_X1_step (d := 2) hn hs q (by omega) hf) gX1_withinTwo_X1_step rfl rfl hy_X1_step ⟨Nat.le_of_ble_eq_true rfl, Nat.le_of_ble_eq_true rfl⟩ ⟨rfl, rfl⟩ (Nat.le_of_ble_eq_true rfl) ⟨Nat.le_of_ble_eq_true rfl, Nat.le_of_ble_eq_true rfl⟩ (hs.lt hn) (ce1 hs.K) rfl rfl dX1_withinTwo_17 rfl ?_
  refine wp_istore_4 (pc' := 22) dX1_withinTwo_20 (by decide) rfl rfl ?_
  refine wp_aload_n_0 (pc' := 23) dX1_withinTwo_22 rfl ?_
  refine wp_iconst (pc' := 24) (3) dX1_withinTwo_23 rfl (by decide) ?_
  refine wp_iload_n_1 (pc' := 25) dX1_withinTwo_24 rfl ?_
  refine wp_callVu (pc' := 28) (c_X1_step (d := 3) hn hs q (by omega) hf) gX1_withinTwo_X1_step rfl rfl hy_X1_step ⟨Nat.le_of_ble_eq_true rfl, Nat.le_of_ble_eq_true rfl⟩ ⟨rfl, rfl⟩ (Nat.le_of_ble_eq_true rfl) ⟨Nat.le_of_ble_eq_true rfl, Nat.le_of_ble_eq_true rfl⟩ (hs.lt hn) (ce1 hs.K) rfl rfl dX1_withinTwo_25 rfl ?_
  refine wp_istore_5 (pc' := 30) dX1_withinTwo_28 (by decide) rfl rfl ?_
  refine wp_iload_n_2 (pc' := 31) dX1_withinTwo_30 rfl ?_
  refine wp_iload_n_3 (pc' := 32) dX1_withinTwo_31 rfl ?_
  refine wp_ior (pc' := 33) dX1_withinTwo_32 rfl ?_
  refine wp_iload_4 (pc' := 35) dX1_withinTwo_33 rfl ?_
  refine wp_ior (pc' := 36) dX1_withinTwo_35 rfl ?_
  refine wp_iload_5 (pc' := 38) dX1_withinTwo_36 rfl ?_
  refine wp_ior (pc' := 39) dX1_withinTwo_38 rfl ?_
  refine wp_aload_n_0 (pc' := 40) dX1_withinTwo_39 rfl ?_
  refine wp_iconst (pc' := 41) (0) dX1_withinTwo_40 rfl (by decide) ?_
  refine wp_iload_n_2 (pc' := 42) dX1_withinTwo_41 rfl ?_
  refine wp_callVu (pc' := 45) (c_X1_step (d := 0) hn hs q (by omega) s0) gX1_withinTwo_X1_step rfl rfl hy_X1_step ⟨Nat.le_of_ble_eq_true rfl, Nat.le_of_ble_eq_true rfl⟩ ⟨rfl, rfl⟩ (Nat.le_of_ble_eq_true rfl) ⟨Nat.le_of_ble_eq_true rfl, Nat.le_of_ble_eq_true rfl⟩ (hs.lt hn) (ce1 hs.K) rfl rfl dX1_withinTwo_42 rfl ?_
  refine wp_ior (pc' := 46) dX1_withinTwo_45 rfl ?_
  refine wp_aload_n_0 (pc' := 47) dX1_withinTwo_46 rfl ?_
  refine wp_iconst (pc' := 48) (1) dX1_withinTwo_47 rfl (by decide) ?_
  refine wp_iload_n_3 (pc' := 49) dX1_withinTwo_48 rfl ?_
  refine wp_callVu (pc' := 52) (c_X1_step (d := 1) hn hs q (by omega) s1) gX1_withinTwo_X1_step rfl rfl hy_X1_step ⟨Nat.le_of_ble_eq_true rfl, Nat.le_of_ble_eq_true rfl⟩ ⟨rfl, rfl⟩ (Nat.le_of_ble_eq_true rfl) ⟨Nat.le_of_ble_eq_true rfl, Nat.le_of_ble_eq_true rfl⟩ (hs.lt hn) (ce1 hs.K) rfl rfl dX1_withinTwo_49 rfl ?_
  refine wp_ior (pc' := 53) dX1_withinTwo_52 rfl ?_
  refine wp_aload_n_0 (pc' := 54) dX1_withinTwo_53 rfl ?_
  refine wp_iconst (pc' := 55) (2) dX1_withinTwo_54 rfl (by decide) ?_
  refine wp_iload_4 (pc' := 57) dX1_withinTwo_55 rfl ?_
  refine wp_iload_n_2 (pc' := 58) dX1_withinTwo_57 rfl ?_
  refine wp_ior (pc' := 59) dX1_withinTwo_58 rfl ?_
  refine wp_iload_n_3 (pc' := 60) dX1_withinTwo_59 rfl ?_
  refine wp_ior (pc' := 61) dX1_withinTwo_60 rfl ?_
  simp only [S_or]
  refine wp_callVu (pc' := 64) (c_X1_step (d := 2) hn hs q (by omega) ((s2.or s0).or s1)) gX1_withinTwo_X1_step rfl rfl hy_X1_step ⟨Nat.le_of_ble_eq_true rfl, Nat.le_of_ble_eq_true rfl⟩ ⟨rfl, rfl⟩ (Nat.le_of_ble_eq_true rfl) ⟨Nat.le_of_ble_eq_true rfl, Nat.le_of_ble_eq_true rfl⟩ (hs.lt hn) (ce1 hs.K) rfl rfl dX1_withinTwo_61 rfl ?_
  refine wp_ior (pc' := 65) dX1_withinTwo_64 rfl ?_
  refine wp_aload_n_0 (pc' := 66) dX1_withinTwo_65 rfl ?_
  refine wp_iconst (pc' := 67) (3) dX1_withinTwo_66 rfl (by decide) ?_
  refine wp_iload_5 (pc' := 69) dX1_withinTwo_67 rfl ?_
  refine wp_iload_n_2 (pc' := 70) dX1_withinTwo_69 rfl ?_
  refine wp_ior (pc' := 71) dX1_withinTwo_70 rfl ?_
  refine wp_iload_n_3 (pc' := 72) dX1_withinTwo_71 rfl ?_
  refine wp_ior (pc' := 73) dX1_withinTwo_72 rfl ?_
  simp only [S_or]
  refine wp_callVu (pc' := 76) (c_X1_step (d := 3) hn hs q (by omega) ((s3.or s0).or s1)) gX1_withinTwo_X1_step rfl rfl hy_X1_step ⟨Nat.le_of_ble_eq_true rfl, Nat.le_of_ble_eq_true rfl⟩ ⟨rfl, rfl⟩ (Nat.le_of_ble_eq_true rfl) ⟨Nat.le_of_ble_eq_true rfl, Nat.le_of_ble_eq_true rfl⟩ (hs.lt hn) (ce1 hs.K) rfl rfl dX1_withinTwo_73 rfl ?_
  refine wp_ior (pc' := 77) dX1_withinTwo_76 rfl ?_
  refine wp_ireturn dX1_withinTwo_77 rfl rfl (Nat.le_refl _) (Nat.le_refl _) ?_
  exact uI_of (by simp only [S_or]; exact S_ext fun i _ => win2_rch q.1 hf i)
end VLA

