abbrev rmX8_alter : Room := { frames := 2, cells := 0, slots := 0, locals := 46 }
theorem hy_X8_alter : yX8_alter.cls = RX8 ∧ yX8_alter.cls ≠ "java/lang/invoke/MethodHandle" ∧ yX8_alter.cls ≠ "java/lang/invoke/VarHandle" ∧ (parseMethodDescriptor yX8_alter.desc).map (fun d => d.parameters.length) = some 2 := by decide +kernel
theorem hz_X8_alter : yX8_alter.cls ≠ "java/lang/invoke/MethodHandle" ∧ yX8_alter.cls ≠ "java/lang/invoke/VarHandle" ∧ (parseMethodDescriptor yX8_alter.desc).map (fun d => d.parameters.length) = some 2 := by decide +kernel
abbrev rmX8_back : Room := { frames := 0, cells := 0, slots := 0, locals := 0 }
theorem hy_X8_back : yX8_back.cls = RX8 ∧ yX8_back.cls ≠ "java/lang/invoke/MethodHandle" ∧ yX8_back.cls ≠ "java/lang/invoke/VarHandle" ∧ (parseMethodDescriptor yX8_back.desc).map (fun d => d.parameters.length) = some 0 := by decide +kernel
theorem hz_X8_back : yX8_back.cls ≠ "java/lang/invoke/MethodHandle" ∧ yX8_back.cls ≠ "java/lang/invoke/VarHandle" ∧ (parseMethodDescriptor yX8_back.desc).map (fun d => d.parameters.length) = some 0 := by decide +kernel
abbrev rmX8_exchange : Room := { frames := 0, cells := 0, slots := 0, locals := 0 }
theorem hy_X8_exchange : yX8_exchange.cls = RX8 ∧ yX8_exchange.cls ≠ "java/lang/invoke/MethodHandle" ∧ yX8_exchange.cls ≠ "java/lang/invoke/VarHandle" ∧ (parseMethodDescriptor yX8_exchange.desc).map (fun d => d.parameters.length) = some 2 := by decide +kernel
theorem hz_X8_exchange : yX8_exchange.cls ≠ "java/lang/invoke/MethodHandle" ∧ yX8_exchange.cls ≠ "java/lang/invoke/VarHandle" ∧ (parseMethodDescriptor yX8_exchange.desc).map (fun d => d.parameters.length) = some 2 := by decide +kernel
abbrev rmX8_keep : Room := { frames := 0, cells := 0, slots := 0, locals := 0 }
theorem hy_X8_keep : yX8_keep.cls = RX8 ∧ yX8_keep.cls ≠ "java/lang/invoke/MethodHandle" ∧ yX8_keep.cls ≠ "java/lang/invoke/VarHandle" ∧ (parseMethodDescriptor yX8_keep.desc).map (fun d => d.parameters.length) = some 0 := by decide +kernel
theorem hz_X8_keep : yX8_keep.cls ≠ "java/lang/invoke/MethodHandle" ∧ yX8_keep.cls ≠ "java/lang/invoke/VarHandle" ∧ (parseMethodDescriptor yX8_keep.desc).map (fun d => d.parameters.length) = some 0 := by decide +kernel
abbrev rmX8_note : Room := { frames := 0, cells := 0, slots := 0, locals := 0 }
theorem hy_X8_note : yX8_note.cls = RX8 ∧ yX8_note.cls ≠ "java/lang/invoke/MethodHandle" ∧ yX8_note.cls ≠ "java/lang/invoke/VarHandle" ∧ (parseMethodDescriptor yX8_note.desc).map (fun d => d.parameters.length) = some 0 := by decide +kernel
theorem hz_X8_note : yX8_note.cls ≠ "java/lang/invoke/MethodHandle" ∧ yX8_note.cls ≠ "java/lang/invoke/VarHandle" ∧ (parseMethodDescriptor yX8_note.desc).map (fun d => d.parameters.length) = some 0 := by decide +kernel
abbrev rmX8_strike : Room := { frames := 2, cells := 0, slots := 0, locals := 46 }
theorem hy_X8_strike : yX8_strike.cls = RX8 ∧ yX8_strike.cls ≠ "java/lang/invoke/MethodHandle" ∧ yX8_strike.cls ≠ "java/lang/invoke/VarHandle" ∧ (parseMethodDescriptor yX8_strike.desc).map (fun d => d.parameters.length) = some 1 := by decide +kernel
theorem hz_X8_strike : yX8_strike.cls ≠ "java/lang/invoke/MethodHandle" ∧ yX8_strike.cls ≠ "java/lang/invoke/VarHandle" ∧ (parseMethodDescriptor yX8_strike.desc).map (fun d => d.parameters.length) = some 1 := by decide +kernel
abbrev rmX8_swap : Room := { frames := 2, cells := 0, slots := 0, locals := 46 }
theorem hy_X8_swap : yX8_swap.cls = RX8 ∧ yX8_swap.cls ≠ "java/lang/invoke/MethodHandle" ∧ yX8_swap.cls ≠ "java/lang/invoke/VarHandle" ∧ (parseMethodDescriptor yX8_swap.desc).map (fun d => d.parameters.length) = some 2 := by decide +kernel
theorem hz_X8_swap : yX8_swap.cls ≠ "java/lang/invoke/MethodHandle" ∧ yX8_swap.cls ≠ "java/lang/invoke/VarHandle" ∧ (parseMethodDescriptor yX8_swap.desc).map (fun d => d.parameters.length) = some 2 := by decide +kernel
abbrev rmX8_undo : Room := { frames := 0, cells := 0, slots := 0, locals := 0 }
theorem hy_X8_undo : yX8_undo.cls = RX8 ∧ yX8_undo.cls ≠ "java/lang/invoke/MethodHandle" ∧ yX8_undo.cls ≠ "java/lang/invoke/VarHandle" ∧ (parseMethodDescriptor yX8_undo.desc).map (fun d => d.parameters.length) = some 0 := by decide +kernel
theorem hz_X8_undo : yX8_undo.cls ≠ "java/lang/invoke/MethodHandle" ∧ yX8_undo.cls ≠ "java/lang/invoke/VarHandle" ∧ (parseMethodDescriptor yX8_undo.desc).map (fun d => d.parameters.length) = some 0 := by decide +kernel
theorem me_X8_note_0 : Cond.fieldLink RX8 25 "DrawnByLostModel" "before" "[I" ∈ wsX8_note := by decide +kernel
theorem me_X8_note_1 : Cond.fieldLink RX8 122 "DrawnByLostModel" "undoMany" "I" ∈ wsX8_note := by decide +kernel
theorem me_X8_note_2 : Cond.fieldLink RX8 19 "DrawnByLostModel" "now" "[I" ∈ wsX8_note := by decide +kernel
theorem me_X8_exchange_0 : Cond.fieldLink RX8 19 "DrawnByLostModel" "now" "[I" ∈ wsX8_exchange := by decide +kernel
theorem me_X8_swap_0 : Cond.fieldLink RX8 19 "DrawnByLostModel" "now" "[I" ∈ wsX8_swap := by decide +kernel
theorem me_X8_alter_0 : Cond.constantLong RX8 95 (5) ∈ wsX8_alter := by decide +kernel
theorem me_X8_alter_1 : Cond.fieldLink RX8 19 "DrawnByLostModel" "now" "[I" ∈ wsX8_alter := by decide +kernel
theorem me_X8_strike_0 : Cond.fieldLink RX8 19 "DrawnByLostModel" "now" "[I" ∈ wsX8_strike := by decide +kernel
theorem me_X8_undo_0 : Cond.fieldLink RX8 122 "DrawnByLostModel" "undoMany" "I" ∈ wsX8_undo := by decide +kernel
theorem me_X8_undo_1 : Cond.fieldLink RX8 19 "DrawnByLostModel" "now" "[I" ∈ wsX8_undo := by decide +kernel
theorem me_X8_undo_2 : Cond.fieldLink RX8 25 "DrawnByLostModel" "before" "[I" ∈ wsX8_undo := by decide +kernel
theorem me_X8_back_0 : Cond.fieldLink RX8 122 "DrawnByLostModel" "undoMany" "I" ∈ wsX8_back := by decide +kernel
theorem me_X8_back_1 : Cond.fieldLink RX8 125 "DrawnByLostModel" "keptMany" "I" ∈ wsX8_back := by decide +kernel
theorem me_X8_back_2 : Cond.fieldLink RX8 19 "DrawnByLostModel" "now" "[I" ∈ wsX8_back := by decide +kernel
theorem me_X8_back_3 : Cond.fieldLink RX8 28 "DrawnByLostModel" "kept" "[I" ∈ wsX8_back := by decide +kernel
theorem me_X8_keep_0 : Cond.fieldLink RX8 125 "DrawnByLostModel" "keptMany" "I" ∈ wsX8_keep := by decide +kernel
theorem me_X8_keep_1 : Cond.fieldLink RX8 28 "DrawnByLostModel" "kept" "[I" ∈ wsX8_keep := by decide +kernel
theorem me_X8_keep_2 : Cond.fieldLink RX8 19 "DrawnByLostModel" "now" "[I" ∈ wsX8_keep := by decide +kernel
theorem ic_X8_note_8 : ∀ w ∈ wsX80, w ∈ wsX8_note := by decide +kernel
theorem ic_X8_exchange_8 : ∀ w ∈ wsX80, w ∈ wsX8_exchange := by decide +kernel
theorem ic_X8_swap_8 : ∀ w ∈ wsX80, w ∈ wsX8_swap := by decide +kernel
theorem ic_X8_alter_8 : ∀ w ∈ wsX80, w ∈ wsX8_alter := by decide +kernel
theorem ic_X8_strike_8 : ∀ w ∈ wsX80, w ∈ wsX8_strike := by decide +kernel
theorem ic_X8_undo_8 : ∀ w ∈ wsX80, w ∈ wsX8_undo := by decide +kernel
theorem ic_X8_back_8 : ∀ w ∈ wsX80, w ∈ wsX8_back := by decide +kernel
theorem ic_X8_keep_8 : ∀ w ∈ wsX80, w ∈ wsX8_keep := by decide +kernel
-- the reference's acts
section VM5
variable {l : Launch} {D : va_G} {cy : CY} {B n : Nat} {h : Hp} {lg : Lg} {π : Nat → Nat} {σ : Sg}
theorem lp1_X8_note {post : PO} (hn : 105 ≤ n) (H0 : Hp)
    (K : ∀ h' a1, (∀ a, a ≠ 95 → h' a = H0 a) → (∀ j, j < 364 → h' 95 j = H0 95 (52 + j)) → WP l D cy B cX8_note 2 RX8 wsX8_note rmX8_note none (QE0 D cy B n 0 0 (post)) EX0 n (rf0 π) h' lg 0 0 39 [some (.ref (B + 89)), a1] []) :
    ∀ d i : Nat, i + d = 364 → ∀ h', (∀ a, a ≠ 95 → h' a = H0 a) → (∀ j, h' 95 j = if j < i then H0 95 (52 + j) else H0 95 j) → WP l D cy B cX8_note 2 RX8 wsX8_note rmX8_note none (QE0 D cy B n 0 0 (post)) EX0 n (rf0 π) h' lg 0 0 11 [some (.ref (B + 89)), some (.int (nI i))] [] := by
  intro d
  induction d with
  | zero =>
    intro i hi h' e0 e1
    have : i = 364 := by omega
    subst this
    refine wp_iload_n_1 (pc' := 12) dX8_note_11 rfl ?_
    refine wp_sipush (pc' := 15) (364) dX8_note_12 rfl (by decide) ?_
    refine wp_icmp_ge (pc' := 18) (tgt := 39) dX8_note_15 rfl rfl (fun c15 => ?_) (fun c15 => by exfalso; exact c15 (by decide))
    exact K h' _ e0 (fun j hj => by rw [e1 j, if_pos hj])
  | succ d ih =>
    intro i hi h' e0 e1
    refine wp_iload_n_1 (pc' := 12) dX8_note_11 rfl ?_
    refine wp_sipush (pc' := 15) (364) dX8_note_12 rfl (by decide) ?_
    refine wp_icmp_ge (pc' := 18) (tgt := 39) dX8_note_15 rfl rfl (fun c15 => by exfalso; exact nI_ge (a := i) (b := 364) (by omega) (by omega) c15) (fun c15 => ?_)
    refine wp_aload_n_0 (pc' := 19) dX8_note_18 rfl ?_
    refine wp_get_8_6 (pc' := 22) (by omega) rfl rfl me_X8_note_0 ic_X8_note_8 dX8_note_19 rfl ?_
    refine wp_iload_n_1 (pc' := 23) dX8_note_22 rfl ?_
    refine wp_aload_n_0 (pc' := 24) dX8_note_23 rfl ?_
    refine wp_get_8_6 (pc' := 27) (by omega) rfl rfl me_X8_note_0 ic_X8_note_8 dX8_note_24 rfl ?_
    refine wp_bipush (pc' := 29) (52) dX8_note_27 rfl (by decide) ?_
    refine wp_iload_n_1 (pc' := 30) dX8_note_29 rfl ?_
    refine wp_iadd (pc' := 31) dX8_note_30 rfl ?_
    rw [show (52 : Int32) = nI 52 from rfl, nI_add]
    refine wp_iald (pc' := 32) (N := 416) (by omega) rfl rfl (by first | exact vp_in_nI (by omega) (by omega) | assumption | (unfold vp_in; decide)) dX8_note_31 rfl ?_
    refine wp_iast (pc' := 33) (N := 416) (by omega) rfl rfl (by first | exact vp_in_nI (by omega) (by omega) | assumption | (unfold vp_in; decide)) dX8_note_32 rfl ?_
    refine wp_iinc_1 (pc' := 36) (v := nI (i + 1)) dX8_note_33 (by first | rfl | exact nI_1 _) (by decide) rfl rfl ?_
    refine wp_goto (tgt := 11) dX8_note_36 rfl ?_
    refine ih (i + 1) (by omega) _ (fun a ha => by rw [hup_cell ha]; exact e0 a ha) (fun j => ?_)
    rw [nI_clamp (by omega), nI_clamp (by omega)]
    by_cases e : j = i
    · subst e; rw [hup_at, e1 (52 + j), if_neg (by omega), if_pos (by omega)]
    · rw [hup_off e, e1 j]
      by_cases z : j < i
      · rw [if_pos z, if_pos (by omega)]
      · rw [if_neg z, if_neg (by omega)]
theorem ix52 (a b : Nat) : (52 : Int32) * nI a + nI b = nI (52 * a + b) := by
  rw [show (52 : Int32) = nI 52 from rfl, nI_mul, nI_add]
theorem lp2_X8_note {m : Nat} {ρ : Nat → Nat} {post : PO} (hn : 105 ≤ n) (H0 : Hp) (nr : NR H0 93 ρ) (hm : H0 89 7 = nI m) (hm8 : m < 8)
    (K : ∀ h', (∀ a, a ≠ 95 → h' a = H0 a) → (∀ j, j < 52 * m → h' 95 j = H0 95 j) → (∀ k, k < 52 → h' 95 (52 * m + k) = nI (ρ k)) → post none (rf0 π) (hup h' 89 7 (nI (m + 1))) lg) :
    ∀ d i : Nat, i + d = 52 → ∀ h', (∀ a, a ≠ 95 → h' a = H0 a) → (∀ j, j < 52 * m → h' 95 j = H0 95 j) → (∀ k, k < i → h' 95 (52 * m + k) = nI (ρ k)) → WP l D cy B cX8_note 2 RX8 wsX8_note rmX8_note none (QE0 D cy B n 0 0 (post)) EX0 n (rf0 π) h' lg 0 0 51 [some (.ref (B + 89)), some (.int (nI i))] [] := by
  intro d
  induction d with
  | zero =>
    intro i hi h' e0 e1 e2
    have : i = 52 := by omega
    subst this
    refine wp_iload_n_1 (pc' := 52) dX8_note_51 rfl ?_
    refine wp_bipush (pc' := 54) (52) dX8_note_52 rfl (by decide) ?_
    refine wp_icmp_ge (pc' := 57) (tgt := 83) dX8_note_54 rfl rfl (fun c54 => ?_) (fun c54 => by exfalso; exact c54 (by decide))
    refine wp_aload_n_0 (pc' := 84) dX8_note_83 rfl ?_
    refine wp_dup (pc' := 85) dX8_note_84 rfl rfl ?_
    refine wp_get_8_7 (pc' := 88) (by omega) rfl me_X8_note_1 ic_X8_note_8 dX8_note_85 rfl ?_
    rw [e0 89 (by decide), hm]
    refine wp_iconst (pc' := 89) (1) dX8_note_88 rfl (by decide) ?_
    refine wp_iadd (pc' := 90) dX8_note_89 rfl ?_
    rw [nI_1]
    refine wp_put_8_7 (pc' := 93) (by omega) rfl me_X8_note_1 ic_X8_note_8 dX8_note_90 rfl ?_
    refine wp_return dX8_note_93 rfl rfl (Nat.le_refl _) (Nat.le_refl _) ?_
    exact K h' e0 e1 e2
  | succ d ih =>
    intro i hi h' e0 e1 e2
    refine wp_iload_n_1 (pc' := 52) dX8_note_51 rfl ?_
    refine wp_bipush (pc' := 54) (52) dX8_note_52 rfl (by decide) ?_
    refine wp_icmp_ge (pc' := 57) (tgt := 83) dX8_note_54 rfl rfl (fun c54 => by exfalso; (simp (disch := omega) only [Int32.lt_iff_toInt_lt, Int32.le_iff_toInt_le, ← Int32.toInt_inj, nI_toInt, il_0, il_1, il_2, il_3, il_4, il_5, il_6, il_8, il_9, il_10, il_16, il_26, il_32, il_40, il_n4, il_n1, il_n2, il_11, il_48, il_57, il_59, il_44, il_126, il_200, il_9999, il_66666, il_10000, il_1000000, il_15, il_12, il_256, il_4096, il_53, il_52] at c54; omega)) (fun c54 => ?_)
    refine wp_aload_n_0 (pc' := 58) dX8_note_57 rfl ?_
    refine wp_get_8_6 (pc' := 61) (by omega) rfl rfl me_X8_note_0 ic_X8_note_8 dX8_note_58 rfl ?_
    refine wp_bipush (pc' := 63) (52) dX8_note_61 rfl (by decide) ?_
    refine wp_aload_n_0 (pc' := 64) dX8_note_63 rfl ?_
    refine wp_get_8_7 (pc' := 67) (by omega) rfl me_X8_note_1 ic_X8_note_8 dX8_note_64 rfl ?_
    rw [e0 89 (by decide), hm]
    refine wp_imul (pc' := 68) dX8_note_67 rfl ?_
    refine wp_iload_n_1 (pc' := 69) dX8_note_68 rfl ?_
    refine wp_iadd (pc' := 70) dX8_note_69 rfl ?_
    rw [ix52]
    refine wp_aload_n_0 (pc' := 71) dX8_note_70 rfl ?_
    refine wp_get_8_4 (pc' := 74) (by omega) rfl rfl me_X8_note_2 ic_X8_note_8 dX8_note_71 rfl ?_
    refine wp_iload_n_1 (pc' := 75) dX8_note_74 rfl ?_
    refine wp_iald (pc' := 76) (N := 52) (by omega) rfl rfl (by first | exact vp_in_nI (by omega) (by omega) | assumption | (unfold vp_in; decide)) dX8_note_75 rfl ?_
    rw [nI_clamp (by omega), e0 93 (by decide), nr i (by omega)]
    refine wp_iast (pc' := 77) (N := 416) (by omega) rfl rfl (by first | exact vp_in_nI (by omega) (by omega) | assumption | (unfold vp_in; decide)) dX8_note_76 rfl ?_
    refine wp_iinc_1 (pc' := 80) (v := nI (i + 1)) dX8_note_77 (by first | rfl | exact nI_1 _) (by decide) rfl rfl ?_
    refine wp_goto (tgt := 51) dX8_note_80 rfl ?_
    rw [nI_clamp (by omega)]
    refine ih (i + 1) (by omega) _ (fun a ha => by rw [hup_cell ha]; exact e0 a ha) (fun j hj => by rw [hup_off (by omega)]; exact e1 j hj) (fun k hk => ?_)
    by_cases e : k = i
    · subst e; rw [hup_at]
    · rw [hup_off (by omega)]; exact e2 k (by omega)
theorem MI.noted {H0 h' : Hp} (X : MI h σ) (e0 : ∀ a, a ≠ 95 → a ≠ 89 → h' a = h a) (f0 : h' 89 0 = h 89 0) (f9 : h' 89 9 = h 89 9) (hb : BR h' 95 (min σ.nu 7 + 1) (pushB σ.nu σ.bf σ.ρ)) (hm : h' 89 7 = nI (min σ.nu 7 + 1)) : MI h' σ.note := by
  obtain ⟨⟨t1, t2, t3⟩, x2, x3, x4, x5, ⟨b1, b2, b3, b4⟩, ⟨c1, c2, c3, c4⟩⟩ := X
  refine ⟨⟨f0.trans t1, t2, by rw [e0 90 (by decide) (by decide)]; exact t3⟩, x2.of (by rw [e0 91 (by decide) (by decide)]) (by rw [e0 91 (by decide) (by decide)]), fun k hk => by rw [e0 92 (by decide) (by decide)]; exact x3 k hk, x4, fun k hk => by rw [e0 93 (by decide) (by decide)]; exact x5 k hk, ⟨hm, by show min σ.nu 7 + 1 ≤ 8; omega, fun i hi => ?_, hb⟩, ⟨f9.trans c1, c2, c3, by unfold BR; rw [e0 96 (by decide) (by decide)]; exact c4⟩⟩
  have hi' : i < min σ.nu 7 + 1 := hi
  show RowOK (pushB σ.nu σ.bf σ.ρ i)
  unfold pushB upF
  by_cases z : σ.nu < 8
  · rw [if_pos z]
    by_cases e : i = σ.nu
    · simp only [e, if_true]; exact x4
    · simp only [e, if_false]; exact b3 i (by omega)
  · rw [if_neg z]
    by_cases e : i = 7
    · simp only [e, if_true]; exact x4
    · simp only [e, if_false]; exact b3 (i + 1) (by omega)
theorem c_X8_note (hn : 105 ≤ n) (X : MI h σ) : Ctr l D cy B yX8_note wsX8_note rmX8_note 0 0 n (rf0 π) h lg [.ref (B + 89)] (qV (fun h' => MI h' σ.note ∧ ∀ a, a < 89 → h' a = h a) (rf0 π) lg) := by
  obtain ⟨T, q, hm, ok, nr, ⟨b1, b2, b3, b4⟩, xk⟩ := id X
  by_cases z : σ.nu = 8
  · refine Ctr.of (cc := cX8_note) (nL := 2) (own := RX8) (rt := none) (ls := [some (.ref (B + 89)), none]) (by decide) rfl rfl (Nat.le_of_ble_eq_true rfl) rfl ?_
    refine wp_aload_n_0 (pc' := 1) dX8_note_0 rfl ?_
    refine wp_get_8_7 (pc' := 4) (by omega) rfl me_X8_note_1 ic_X8_note_8 dX8_note_1 rfl ?_
    rw [b1]
    refine wp_bipush (pc' := 6) (8) dX8_note_4 rfl (by decide) ?_
    refine wp_icmp_ne (pc' := 9) (tgt := 49) dX8_note_6 rfl rfl (fun c6 => by exfalso; exact c6 (by rw [z]; rfl)) (fun c6 => ?_)
    refine wp_iconst (pc' := 10) (0) dX8_note_9 rfl (by decide) ?_
    refine wp_istore_n_1 (pc' := 11) dX8_note_10 (by decide) rfl rfl ?_
    refine lp1_X8_note hn h (fun h1 a1 e0 e1 => ?_) 364 0 (by omega) h (fun _ _ => rfl) (fun j => by rw [if_neg (by omega)])
    refine wp_aload_n_0 (pc' := 40) dX8_note_39 rfl ?_
    refine wp_dup (pc' := 41) dX8_note_40 rfl rfl ?_
    refine wp_get_8_7 (pc' := 44) (by omega) rfl me_X8_note_1 ic_X8_note_8 dX8_note_41 rfl ?_
    rw [e0 89 (by decide), b1, z]
    refine wp_iconst (pc' := 45) (1) dX8_note_44 rfl (by decide) ?_
    refine wp_isub (pc' := 46) dX8_note_45 rfl ?_
    rw [show nI 8 - 1 = nI 7 by decide]
    refine wp_put_8_7 (pc' := 49) (by omega) rfl me_X8_note_1 ic_X8_note_8 dX8_note_46 rfl ?_
    refine wp_iconst (pc' := 50) (0) dX8_note_49 rfl (by decide) ?_
    refine wp_istore_n_1 (pc' := 51) dX8_note_50 (by decide) rfl rfl ?_
    refine lp2_X8_note (m := 7) (ρ := σ.ρ) hn (hup h1 89 7 (nI 7)) (fun k hk => by rw [hup_cell (by decide), e0 93 (by decide)]; exact nr k hk) (hup_at _ _ _ _) (by omega) (fun h2 f0 f1 f2 => qV_of ⟨?_, ?_⟩) 52 0 (by omega) _ (fun _ _ => rfl) (fun _ _ => rfl) (fun k hk => by omega)
    · refine MI.noted (H0 := h) X (fun a h1 h2 => ?_) ?_ ?_ (fun i hi k hk => ?_) ?_
      · rw [hup_cell h2, f0 a h1, hup_cell h2, e0 a h1]
      · rw [hup_off (by decide), f0 89 (by decide), hup_off (by decide), e0 89 (by decide)]
      · rw [hup_off (by decide), f0 89 (by decide), hup_off (by decide), e0 89 (by decide)]
      · rw [hup_cell (by decide)]
        unfold pushB upF
        rw [if_neg (by omega)]
        by_cases e : i = 7
        · simp only [e, if_true]; exact f2 k hk
        · simp only [e, if_false]
          rw [f1 _ (by omega), hup_cell (by decide), e1 _ (by omega), show 52 + (52 * i + k) = 52 * (i + 1) + k by omega]
          exact b4 (i + 1) (by omega) k hk
      · rw [hup_at, show min σ.nu 7 + 1 = 7 + 1 by omega]
    · intro a ha
      rw [hup_cell (by omega), f0 a (by omega), hup_cell (by omega), e0 a (by omega)]
  · refine Ctr.of (cc := cX8_note) (nL := 2) (own := RX8) (rt := none) (ls := [some (.ref (B + 89)), none]) (by decide) rfl rfl (Nat.le_of_ble_eq_true rfl) rfl ?_
    refine wp_aload_n_0 (pc' := 1) dX8_note_0 rfl ?_
    refine wp_get_8_7 (pc' := 4) (by omega) rfl me_X8_note_1 ic_X8_note_8 dX8_note_1 rfl ?_
    rw [b1]
    refine wp_bipush (pc' := 6) (8) dX8_note_4 rfl (by decide) ?_
    refine wp_icmp_ne (pc' := 9) (tgt := 49) dX8_note_6 rfl rfl (fun c6 => ?_) (fun c6 => by exfalso; exact z ((nI_eq (by omega) (by omega)).mp (show nI σ.nu = nI 8 from c6)))
    refine wp_iconst (pc' := 50) (0) dX8_note_49 rfl (by decide) ?_
    refine wp_istore_n_1 (pc' := 51) dX8_note_50 (by decide) rfl rfl ?_
    refine lp2_X8_note (m := σ.nu) (ρ := σ.ρ) hn h nr b1 (by omega) (fun h2 f0 f1 f2 => qV_of ⟨?_, ?_⟩) 52 0 (by omega) _ (fun _ _ => rfl) (fun _ _ => rfl) (fun k hk => by omega)
    · refine MI.noted (H0 := h) X (fun a h1 h2 => ?_) ?_ ?_ (fun i hi k hk => ?_) ?_
      · rw [hup_cell h2, f0 a h1]
      · rw [hup_off (by decide), f0 89 (by decide)]
      · rw [hup_off (by decide), f0 89 (by decide)]
      · rw [hup_cell (by decide)]
        unfold pushB upF
        rw [if_pos (by omega)]
        by_cases e : i = σ.nu
        · simp only [e, if_true]; exact f2 k hk
        · simp only [e, if_false]
          rw [f1 _ (by omega)]
          exact b4 i (by omega) k hk
      · rw [hup_at, show min σ.nu 7 + 1 = σ.nu + 1 by omega]
    · intro a ha
      rw [hup_cell (by omega), f0 a (by omega)]
theorem c_X8_exchange {x y : Nat} (hn : 105 ≤ n) (hx : x < 16) (hy : y < 16) : Ctr l D cy B yX8_exchange wsX8_exchange rmX8_exchange 0 0 n (rf0 π) h lg [.ref (B + 89), .int (nI x), .int (nI y)] (qV (fun h' => h' = hup (hup h 93 x (h 93 y)) 93 y (h 93 x)) (rf0 π) lg) := by
  refine Ctr.of (cc := cX8_exchange) (nL := 4) (own := RX8) (rt := none) (ls := [some (.ref (B + 89)), some (.int (nI x)), some (.int (nI y)), none]) (by decide) rfl rfl (Nat.le_of_ble_eq_true rfl) rfl ?_
  refine wp_aload_n_0 (pc' := 1) dX8_exchange_0 rfl ?_
  refine wp_get_8_4 (pc' := 4) (by omega) rfl rfl me_X8_exchange_0 ic_X8_exchange_8 dX8_exchange_1 rfl ?_
  refine wp_iload_n_1 (pc' := 5) dX8_exchange_4 rfl ?_
  refine wp_iald (pc' := 6) (N := 52) (by omega) rfl rfl (by first | exact vp_in_nI (by omega) (by omega) | assumption | (unfold vp_in; decide)) dX8_exchange_5 rfl ?_
  refine wp_istore_n_3 (pc' := 7) dX8_exchange_6 (by decide) rfl rfl ?_
  refine wp_aload_n_0 (pc' := 8) dX8_exchange_7 rfl ?_
  refine wp_get_8_4 (pc' := 11) (by omega) rfl rfl me_X8_exchange_0 ic_X8_exchange_8 dX8_exchange_8 rfl ?_
  refine wp_iload_n_1 (pc' := 12) dX8_exchange_11 rfl ?_
  refine wp_aload_n_0 (pc' := 13) dX8_exchange_12 rfl ?_
  refine wp_get_8_4 (pc' := 16) (by omega) rfl rfl me_X8_exchange_0 ic_X8_exchange_8 dX8_exchange_13 rfl ?_
  refine wp_iload_n_2 (pc' := 17) dX8_exchange_16 rfl ?_
  refine wp_iald (pc' := 18) (N := 52) (by omega) rfl rfl (by first | exact vp_in_nI (by omega) (by omega) | assumption | (unfold vp_in; decide)) dX8_exchange_17 rfl ?_
  refine wp_iast (pc' := 19) (N := 52) (by omega) rfl rfl (by first | exact vp_in_nI (by omega) (by omega) | assumption | (unfold vp_in; decide)) dX8_exchange_18 rfl ?_
  refine wp_aload_n_0 (pc' := 20) dX8_exchange_19 rfl ?_
  refine wp_get_8_4 (pc' := 23) (by omega) rfl rfl me_X8_exchange_0 ic_X8_exchange_8 dX8_exchange_20 rfl ?_
  refine wp_iload_n_2 (pc' := 24) dX8_exchange_23 rfl ?_
  refine wp_iload_n_3 (pc' := 25) dX8_exchange_24 rfl ?_
  refine wp_iast (pc' := 26) (N := 52) (by omega) rfl rfl (by first | exact vp_in_nI (by omega) (by omega) | assumption | (unfold vp_in; decide)) dX8_exchange_25 rfl ?_
  refine wp_return dX8_exchange_26 rfl rfl (Nat.le_refl _) (Nat.le_refl _) ?_
  exact qV_of (by rw [nI_clamp (by omega), nI_clamp (by omega)])
theorem NR.swap {ρ : Nat → Nat} {x y : Nat} (nr : NR h 93 ρ) (hx : x < 16) (hy : y < 16) : NR (hup (hup h 93 x (h 93 y)) 93 y (h 93 x)) 93 (swapR ρ x y) := fun i hi => by
  rw [nr x (by omega), nr y (by omega)]
  unfold swapR
  by_cases e : i = y
  · subst e; rw [hup_at, upN_at]
  · rw [hup_off e, upN_off e]
    by_cases e2 : i = x
    · subst e2; rw [hup_at, upN_at]
    · rw [hup_off e2, upN_off e2]; exact nr i hi
theorem NR.alter {ρ : Nat → Nat} {x m : Nat} (nr : NR h 93 ρ) : NR (hup h 93 x (nI m)) 93 (upN ρ x m) := fun i hi => by
  by_cases e2 : i = x
  · subst e2; rw [hup_at, upN_at]
  · rw [hup_off e2, upN_off e2]; exact nr i hi
/-- all but the row that stands now is as it was -/
def MG (h' h : Hp) : Prop := (∀ a, a < 89 ∨ (90 ≤ a ∧ a ≤ 96 ∧ a ≠ 93) ∨ a = 104 → h' a = h a) ∧ h' 89 0 = h 89 0 ∧ h' 89 7 = h 89 7 ∧ h' 89 9 = h 89 9
theorem MF.mg {h' h : Hp} (f : MF h' h) : MG h' h := ⟨fun a ha => f.1 a (by omega), f.2⟩
theorem MG.tr {h1 h2 h3 : Hp} (a : MG h3 h2) (b : MG h2 h1) : MG h3 h1 := ⟨fun c hc => (a.1 c hc).trans (b.1 c hc), a.2.1.trans b.2.1, a.2.2.1.trans b.2.2.1, a.2.2.2.trans b.2.2.2⟩
theorem MG.of {h h' : Hp} (e : ∀ a, a ≠ 93 → h' a = h a) : MG h' h := ⟨fun a ha => e a (by omega), by rw [e 89 (by decide)], by rw [e 89 (by decide)], by rw [e 89 (by decide)]⟩
theorem MG.sh {h' h : Hp} {R C : Nat} (f : MG h' h) (q : ShM h R C) : ShM h' R C := q.of (by rw [f.1 91 (by omega)]) (by rw [f.1 91 (by omega)])
theorem MI.toNow {h' : Hp} {ρ' : Nat → Nat} (X : MI h σ) (ok : RowOK ρ') (nr : NR h' 93 ρ') (f : MG h' h) : MI h' (σ.now ρ') := by
  obtain ⟨⟨a1, a2, a3⟩, x2, x3, x4, x5, ⟨b1, b2, b3, b4⟩, ⟨c1, c2, c3, c4⟩⟩ := X
  exact ⟨⟨f.2.1.trans a1, a2, by rw [f.1 90 (by omega)]; exact a3⟩, f.sh x2, fun k hk => by rw [f.1 92 (by omega)]; exact x3 k hk, ok, nr, ⟨f.2.2.1.trans b1, b2, b3, by unfold BR; rw [f.1 95 (by omega)]; exact b4⟩, ⟨f.2.2.2.trans c1, c2, c3, by unfold BR; rw [f.1 96 (by omega)]; exact c4⟩⟩
theorem MI.back' {h' : Hp} (X : MI h σ) (nr : NR h' 93 σ.ρ) (f : MG h' h) : MI h' σ := X.toNow X.2.2.2.1 nr f
theorem c_X8_swap (hn : 105 ≤ n) (X : MI h σ) (x y : Int32) : Ctr l D cy B yX8_swap wsX8_swap rmX8_swap 0 0 n (rf0 π) h lg [.ref (B + 89), .int x, .int y] (ZQ π h (aSwap σ x y) (sSwap σ x y)) := by
  obtain ⟨T, q, hm, ok, nr, xp, xk⟩ := id X
  have hl := q.1.le
  cases e : ix x (σ.R * σ.C) with
  | none =>
    rw [show aSwap σ x y = -1 by simp only [aSwap, e], show sSwap σ x y = σ by simp only [sSwap, e]]
    refine Ctr.of (cc := cX8_swap) (nL := 3) (own := RX8) (rt := (some .int)) (ls := [some (.ref (B + 89)), some (.int x), some (.int y)]) (by decide) rfl rfl (Nat.le_of_ble_eq_true rfl) rfl ?_
    refine wp_aload_n_0 (pc' := 1) dX8_swap_0 rfl ?_
    refine wp_iload_n_1 (pc' := 2) dX8_swap_1 rfl ?_
    refine wp_callVu (pc' := 5) (c_X8_isPlace hn q _) gX8_swap_X8_isPlace rfl rfl hy_X8_isPlace ⟨Nat.le_of_ble_eq_true rfl, Nat.le_of_ble_eq_true rfl⟩ ⟨rfl, rfl⟩ (Nat.le_of_ble_eq_true rfl) ⟨Nat.le_of_ble_eq_true rfl, Nat.le_of_ble_eq_true rfl⟩ (by omega) (ce8 rfl) rfl rfl dX8_swap_2 rfl ?_
    rw [e]
    refine wp_if_eq (pc' := 8) (tgt := 21) dX8_swap_5 rfl rfl (fun c5 => ?_) (fun c5 => by exfalso; exact c5 rfl)
    refine wp_iconst (pc' := 22) (-1) dX8_swap_21 rfl (by decide) ?_
    refine wp_ireturn dX8_swap_22 rfl rfl (Nat.le_refl _) (Nat.le_refl _) ?_
    exact ZQ.id rfl X
  | some a =>
    cases e2 : ix y (σ.R * σ.C) with
    | none =>
      rw [show aSwap σ x y = -1 by simp only [aSwap, e, e2], show sSwap σ x y = σ by simp only [sSwap, e, e2]]
      refine Ctr.of (cc := cX8_swap) (nL := 3) (own := RX8) (rt := (some .int)) (ls := [some (.ref (B + 89)), some (.int x), some (.int y)]) (by decide) rfl rfl (Nat.le_of_ble_eq_true rfl) rfl ?_
      refine wp_aload_n_0 (pc' := 1) dX8_swap_0 rfl ?_
      refine wp_iload_n_1 (pc' := 2) dX8_swap_1 rfl ?_
      refine wp_callVu (pc' := 5) (c_X8_isPlace hn q _) gX8_swap_X8_isPlace rfl rfl hy_X8_isPlace ⟨Nat.le_of_ble_eq_true rfl, Nat.le_of_ble_eq_true rfl⟩ ⟨rfl, rfl⟩ (Nat.le_of_ble_eq_true rfl) ⟨Nat.le_of_ble_eq_true rfl, Nat.le_of_ble_eq_true rfl⟩ (by omega) (ce8 rfl) rfl rfl dX8_swap_2 rfl ?_
      rw [e]
      refine wp_if_eq (pc' := 8) (tgt := 21) dX8_swap_5 rfl rfl (fun c5 => by exfalso; exact absurd c5 bS) (fun c5 => ?_)
      refine wp_aload_n_0 (pc' := 9) dX8_swap_8 rfl ?_
      refine wp_iload_n_2 (pc' := 10) dX8_swap_9 rfl ?_
      refine wp_callVu (pc' := 13) (c_X8_isPlace hn q _) gX8_swap_X8_isPlace rfl rfl hy_X8_isPlace ⟨Nat.le_of_ble_eq_true rfl, Nat.le_of_ble_eq_true rfl⟩ ⟨rfl, rfl⟩ (Nat.le_of_ble_eq_true rfl) ⟨Nat.le_of_ble_eq_true rfl, Nat.le_of_ble_eq_true rfl⟩ (by omega) (ce8 rfl) rfl rfl dX8_swap_10 rfl ?_
      rw [e2]
      refine wp_if_eq (pc' := 16) (tgt := 21) dX8_swap_13 rfl rfl (fun c13 => ?_) (fun c13 => by exfalso; exact c13 rfl)
      refine wp_iconst (pc' := 22) (-1) dX8_swap_21 rfl (by decide) ?_
      refine wp_ireturn dX8_swap_22 rfl rfl (Nat.le_refl _) (Nat.le_refl _) ?_
      exact ZQ.id rfl X
    | some b =>
      obtain ⟨rfl, z1⟩ := ix_some e
      obtain ⟨rfl, z2⟩ := ix_some e2
      by_cases z : a = b
      · rw [show aSwap σ (nI a) (nI b) = -1 by simp only [aSwap, e, e2, z, if_true], show sSwap σ (nI a) (nI b) = σ by simp only [sSwap, e, e2, z, if_true]]
        refine Ctr.of (cc := cX8_swap) (nL := 3) (own := RX8) (rt := (some .int)) (ls := [some (.ref (B + 89)), some (.int (nI a)), some (.int (nI b))]) (by decide) rfl rfl (Nat.le_of_ble_eq_true rfl) rfl ?_
        refine wp_aload_n_0 (pc' := 1) dX8_swap_0 rfl ?_
        refine wp_iload_n_1 (pc' := 2) dX8_swap_1 rfl ?_
        refine wp_callVu (pc' := 5) (c_X8_isPlace hn q _) gX8_swap_X8_isPlace rfl rfl hy_X8_isPlace ⟨Nat.le_of_ble_eq_true rfl, Nat.le_of_ble_eq_true rfl⟩ ⟨rfl, rfl⟩ (Nat.le_of_ble_eq_true rfl) ⟨Nat.le_of_ble_eq_true rfl, Nat.le_of_ble_eq_true rfl⟩ (by omega) (ce8 rfl) rfl rfl dX8_swap_2 rfl ?_
        rw [e]
        refine wp_if_eq (pc' := 8) (tgt := 21) dX8_swap_5 rfl rfl (fun c5 => by exfalso; exact absurd c5 bS) (fun c5 => ?_)
        refine wp_aload_n_0 (pc' := 9) dX8_swap_8 rfl ?_
        refine wp_iload_n_2 (pc' := 10) dX8_swap_9 rfl ?_
        refine wp_callVu (pc' := 13) (c_X8_isPlace hn q _) gX8_swap_X8_isPlace rfl rfl hy_X8_isPlace ⟨Nat.le_of_ble_eq_true rfl, Nat.le_of_ble_eq_true rfl⟩ ⟨rfl, rfl⟩ (Nat.le_of_ble_eq_true rfl) ⟨Nat.le_of_ble_eq_true rfl, Nat.le_of_ble_eq_true rfl⟩ (by omega) (ce8 rfl) rfl rfl dX8_swap_10 rfl ?_
        rw [e2]
        refine wp_if_eq (pc' := 16) (tgt := 21) dX8_swap_13 rfl rfl (fun c13 => by exfalso; exact absurd c13 bS) (fun c13 => ?_)
        refine wp_iload_n_1 (pc' := 17) dX8_swap_16 rfl ?_
        refine wp_iload_n_2 (pc' := 18) dX8_swap_17 rfl ?_
        refine wp_icmp_ne (pc' := 21) (tgt := 23) dX8_swap_18 rfl rfl (fun c18 => by exfalso; exact c18 (by rw [z])) (fun c18 => ?_)
        refine wp_iconst (pc' := 22) (-1) dX8_swap_21 rfl (by decide) ?_
        refine wp_ireturn dX8_swap_22 rfl rfl (Nat.le_refl _) (Nat.le_refl _) ?_
        exact ZQ.id rfl X
      · rw [show aSwap σ (nI a) (nI b) = nI (σ.ρ b) by simp only [aSwap, e, e2, z, if_false], show sSwap σ (nI a) (nI b) = σ.note.now (swapR σ.ρ a b) by simp only [sSwap, e, e2, z, if_false]]
        refine Ctr.of (cc := cX8_swap) (nL := 3) (own := RX8) (rt := (some .int)) (ls := [some (.ref (B + 89)), some (.int (nI a)), some (.int (nI b))]) (by decide) rfl rfl (Nat.le_of_ble_eq_true rfl) rfl ?_
        refine wp_aload_n_0 (pc' := 1) dX8_swap_0 rfl ?_
        refine wp_iload_n_1 (pc' := 2) dX8_swap_1 rfl ?_
        refine wp_callVu (pc' := 5) (c_X8_isPlace hn q _) gX8_swap_X8_isPlace rfl rfl hy_X8_isPlace ⟨Nat.le_of_ble_eq_true rfl, Nat.le_of_ble_eq_true rfl⟩ ⟨rfl, rfl⟩ (Nat.le_of_ble_eq_true rfl) ⟨Nat.le_of_ble_eq_true rfl, Nat.le_of_ble_eq_true rfl⟩ (by omega) (ce8 rfl) rfl rfl dX8_swap_2 rfl ?_
        rw [e]
        refine wp_if_eq (pc' := 8) (tgt := 21) dX8_swap_5 rfl rfl (fun c5 => by exfalso; exact absurd c5 bS) (fun c5 => ?_)
        refine wp_aload_n_0 (pc' := 9) dX8_swap_8 rfl ?_
        refine wp_iload_n_2 (pc' := 10) dX8_swap_9 rfl ?_
        refine wp_callVu (pc' := 13) (c_X8_isPlace hn q _) gX8_swap_X8_isPlace rfl rfl hy_X8_isPlace ⟨Nat.le_of_ble_eq_true rfl, Nat.le_of_ble_eq_true rfl⟩ ⟨rfl, rfl⟩ (Nat.le_of_ble_eq_true rfl) ⟨Nat.le_of_ble_eq_true rfl, Nat.le_of_ble_eq_true rfl⟩ (by omega) (ce8 rfl) rfl rfl dX8_swap_10 rfl ?_
        rw [e2]
        refine wp_if_eq (pc' := 16) (tgt := 21) dX8_swap_13 rfl rfl (fun c13 => by exfalso; exact absurd c13 bS) (fun c13 => ?_)
        refine wp_iload_n_1 (pc' := 17) dX8_swap_16 rfl ?_
        refine wp_iload_n_2 (pc' := 18) dX8_swap_17 rfl ?_
        refine wp_icmp_ne (pc' := 21) (tgt := 23) dX8_swap_18 rfl rfl (fun c18 => ?_) (fun c18 => by exfalso; exact z ((nI_eq (by omega) (by omega)).mp c18))
        refine wp_aload_n_0 (pc' := 24) dX8_swap_23 rfl ?_
        refine wp_callVv (pc' := 27) (c_X8_note hn X) gX8_swap_X8_note rfl rfl hy_X8_note ⟨Nat.le_of_ble_eq_true rfl, Nat.le_of_ble_eq_true rfl⟩ ⟨rfl, rfl⟩ (Nat.le_of_ble_eq_true rfl) ⟨Nat.le_of_ble_eq_true rfl, Nat.le_of_ble_eq_true rfl⟩ (by omega) (ce8 rfl) rfl rfl dX8_swap_24 rfl (fun h24 q24 => ?_)
        obtain ⟨X1, f1⟩ := q24
        have nr1 : NR h24 93 σ.ρ := X1.2.2.2.2.1
        have nr2 := nr1.swap (x := a) (y := b) (by omega) (by omega)
        refine wp_aload_n_0 (pc' := 28) dX8_swap_27 rfl ?_
        refine wp_iload_n_1 (pc' := 29) dX8_swap_28 rfl ?_
        refine wp_iload_n_2 (pc' := 30) dX8_swap_29 rfl ?_
        refine wp_callVv (pc' := 33) (c_X8_exchange hn (by omega) (by omega)) gX8_swap_X8_exchange rfl rfl hy_X8_exchange ⟨Nat.le_of_ble_eq_true rfl, Nat.le_of_ble_eq_true rfl⟩ ⟨rfl, rfl⟩ (Nat.le_of_ble_eq_true rfl) ⟨Nat.le_of_ble_eq_true rfl, Nat.le_of_ble_eq_true rfl⟩ (by omega) (ce8 rfl) rfl rfl dX8_swap_30 rfl (fun h30 q30 => ?_)
        subst q30
        refine wp_aload_n_0 (pc' := 34) dX8_swap_33 rfl ?_
        refine wp_get_8_4 (pc' := 37) (by omega) rfl rfl me_X8_swap_0 ic_X8_swap_8 dX8_swap_34 rfl ?_
        refine wp_iload_n_1 (pc' := 38) dX8_swap_37 rfl ?_
        refine wp_iald (pc' := 39) (N := 52) (by omega) rfl rfl (by first | exact vp_in_nI (by omega) (by omega) | assumption | (unfold vp_in; decide)) dX8_swap_38 rfl ?_
        rw [nI_clamp (by omega), nr2 a (by omega)]
        refine wp_ireturn dX8_swap_39 rfl rfl (Nat.le_refl _) (Nat.le_refl _) ?_
        exact ZQ.of (by unfold swapR; rw [upN_off z, upN_at]) (X1.toNow (swapR_ok ok (by omega) (by omega)) nr2 (MG.of (fun c hc => by rw [hup_cell hc, hup_cell hc]))) (fun k hk => by rw [hup_cell (by omega), hup_cell (by omega)]; exact f1 k hk)
theorem c_X8_alter (hn : 105 ≤ n) (X : MI h σ) (x m : Int32) : Ctr l D cy B yX8_alter wsX8_alter rmX8_alter 0 0 n (rf0 π) h lg [.ref (B + 89), .int x, .int m] (ZQ π h (aAlter σ x m) (sAlter σ x m)) := by
  obtain ⟨T, q, hm, ok, nr, xp, xk⟩ := id X
  have hl := q.1.le
  cases e : ix x (σ.R * σ.C) with
  | none =>
    rw [show aAlter σ x m = -1 by simp only [aAlter, e], show sAlter σ x m = σ by simp only [sAlter, e]]
    refine Ctr.of (cc := cX8_alter) (nL := 4) (own := RX8) (rt := (some .int)) (ls := [some (.ref (B + 89)), some (.int x), some (.int m), none]) (by decide) rfl rfl (Nat.le_of_ble_eq_true rfl) rfl ?_
    refine wp_aload_n_0 (pc' := 1) dX8_alter_0 rfl ?_
    refine wp_iload_n_1 (pc' := 2) dX8_alter_1 rfl ?_
    refine wp_callVu (pc' := 5) (c_X8_isPlace hn q _) gX8_alter_X8_isPlace rfl rfl hy_X8_isPlace ⟨Nat.le_of_ble_eq_true rfl, Nat.le_of_ble_eq_true rfl⟩ ⟨rfl, rfl⟩ (Nat.le_of_ble_eq_true rfl) ⟨Nat.le_of_ble_eq_true rfl, Nat.le_of_ble_eq_true rfl⟩ (by omega) (ce8 rfl) rfl rfl dX8_alter_2 rfl ?_
    rw [e]
    refine wp_if_eq (pc' := 8) (tgt := 20) dX8_alter_5 rfl rfl (fun c5 => ?_) (fun c5 => by exfalso; exact c5 rfl)
    refine wp_iconst (pc' := 21) (-1) dX8_alter_20 rfl (by decide) ?_
    refine wp_ireturn dX8_alter_21 rfl rfl (Nat.le_refl _) (Nat.le_refl _) ?_
    exact ZQ.id rfl X
  | some a =>
    cases e2 : ix m 6 with
    | none =>
      rw [show aAlter σ x m = -1 by simp only [aAlter, e, e2], show sAlter σ x m = σ by simp only [sAlter, e, e2]]
      refine Ctr.of (cc := cX8_alter) (nL := 4) (own := RX8) (rt := (some .int)) (ls := [some (.ref (B + 89)), some (.int x), some (.int m), none]) (by decide) rfl rfl (Nat.le_of_ble_eq_true rfl) rfl ?_
      refine wp_aload_n_0 (pc' := 1) dX8_alter_0 rfl ?_
      refine wp_iload_n_1 (pc' := 2) dX8_alter_1 rfl ?_
      refine wp_callVu (pc' := 5) (c_X8_isPlace hn q _) gX8_alter_X8_isPlace rfl rfl hy_X8_isPlace ⟨Nat.le_of_ble_eq_true rfl, Nat.le_of_ble_eq_true rfl⟩ ⟨rfl, rfl⟩ (Nat.le_of_ble_eq_true rfl) ⟨Nat.le_of_ble_eq_true rfl, Nat.le_of_ble_eq_true rfl⟩ (by omega) (ce8 rfl) rfl rfl dX8_alter_2 rfl ?_
      rw [e]
      refine wp_if_eq (pc' := 8) (tgt := 20) dX8_alter_5 rfl rfl (fun c5 => by exfalso; exact absurd c5 bS) (fun c5 => ?_)
      refine wp_iload_n_2 (pc' := 9) dX8_alter_8 rfl ?_
      refine wp_i2l (pc' := 10) dX8_alter_9 rfl ?_
      refine wp_lconst (pc' := 11) (0) dX8_alter_10 rfl (by decide) ?_
      refine wp_ldc2 (pc' := 14) (v := (5)) me_X8_alter_0 dX8_alter_11 rfl ?_
      refine wp_callSu (pc' := 17) (c_in_rg m (lo := 0) (hi := 5) (by omega) (by omega)) gX8_alter_X8_in rfl rfl hz_X8_in ⟨Nat.le_of_ble_eq_true rfl, Nat.le_of_ble_eq_true rfl⟩ ⟨rfl, rfl⟩ (Nat.le_of_ble_eq_true rfl) ⟨Nat.le_of_ble_eq_true rfl, Nat.le_of_ble_eq_true rfl⟩ rfl dX8_alter_14 rfl ?_
      rw [rg_ix, e2]
      refine wp_if_ne (pc' := 20) (tgt := 22) dX8_alter_17 rfl rfl (fun c17 => by exfalso; exact c17 rfl) (fun c17 => ?_)
      refine wp_iconst (pc' := 21) (-1) dX8_alter_20 rfl (by decide) ?_
      refine wp_ireturn dX8_alter_21 rfl rfl (Nat.le_refl _) (Nat.le_refl _) ?_
      exact ZQ.id rfl X
    | some b =>
      obtain ⟨rfl, z1⟩ := ix_some e
      obtain ⟨rfl, z2⟩ := ix_some e2
      rw [show aAlter σ (nI a) (nI b) = nI (σ.ρ a) by simp only [aAlter, e, e2], show sAlter σ (nI a) (nI b) = σ.note.now (upN σ.ρ a b) by simp only [sAlter, e, e2]]
      refine Ctr.of (cc := cX8_alter) (nL := 4) (own := RX8) (rt := (some .int)) (ls := [some (.ref (B + 89)), some (.int (nI a)), some (.int (nI b)), none]) (by decide) rfl rfl (Nat.le_of_ble_eq_true rfl) rfl ?_
      refine wp_aload_n_0 (pc' := 1) dX8_alter_0 rfl ?_
      refine wp_iload_n_1 (pc' := 2) dX8_alter_1 rfl ?_
      refine wp_callVu (pc' := 5) (c_X8_isPlace hn q _) gX8_alter_X8_isPlace rfl rfl hy_X8_isPlace ⟨Nat.le_of_ble_eq_true rfl, Nat.le_of_ble_eq_true rfl⟩ ⟨rfl, rfl⟩ (Nat.le_of_ble_eq_true rfl) ⟨Nat.le_of_ble_eq_true rfl, Nat.le_of_ble_eq_true rfl⟩ (by omega) (ce8 rfl) rfl rfl dX8_alter_2 rfl ?_
      rw [e]
      refine wp_if_eq (pc' := 8) (tgt := 20) dX8_alter_5 rfl rfl (fun c5 => by exfalso; exact absurd c5 bS) (fun c5 => ?_)
      refine wp_iload_n_2 (pc' := 9) dX8_alter_8 rfl ?_
      refine wp_i2l (pc' := 10) dX8_alter_9 rfl ?_
      refine wp_lconst (pc' := 11) (0) dX8_alter_10 rfl (by decide) ?_
      refine wp_ldc2 (pc' := 14) (v := (5)) me_X8_alter_0 dX8_alter_11 rfl ?_
      refine wp_callSu (pc' := 17) (c_in_rg (nI b) (lo := 0) (hi := 5) (by omega) (by omega)) gX8_alter_X8_in rfl rfl hz_X8_in ⟨Nat.le_of_ble_eq_true rfl, Nat.le_of_ble_eq_true rfl⟩ ⟨rfl, rfl⟩ (Nat.le_of_ble_eq_true rfl) ⟨Nat.le_of_ble_eq_true rfl, Nat.le_of_ble_eq_true rfl⟩ rfl dX8_alter_14 rfl ?_
      rw [rg_ix, e2]
      refine wp_if_ne (pc' := 20) (tgt := 22) dX8_alter_17 rfl rfl (fun c17 => ?_) (fun c17 => by exfalso; exact absurd c17 bS)
      refine wp_aload_n_0 (pc' := 23) dX8_alter_22 rfl ?_
      refine wp_callVv (pc' := 26) (c_X8_note hn X) gX8_alter_X8_note rfl rfl hy_X8_note ⟨Nat.le_of_ble_eq_true rfl, Nat.le_of_ble_eq_true rfl⟩ ⟨rfl, rfl⟩ (Nat.le_of_ble_eq_true rfl) ⟨Nat.le_of_ble_eq_true rfl, Nat.le_of_ble_eq_true rfl⟩ (by omega) (ce8 rfl) rfl rfl dX8_alter_23 rfl (fun h23 q23 => ?_)
      obtain ⟨X1, f1⟩ := q23
      have nr1 : NR h23 93 σ.ρ := X1.2.2.2.2.1
      refine wp_aload_n_0 (pc' := 27) dX8_alter_26 rfl ?_
      refine wp_get_8_4 (pc' := 30) (by omega) rfl rfl me_X8_alter_1 ic_X8_alter_8 dX8_alter_27 rfl ?_
      refine wp_iload_n_1 (pc' := 31) dX8_alter_30 rfl ?_
      refine wp_iald (pc' := 32) (N := 52) (by omega) rfl rfl (by first | exact vp_in_nI (by omega) (by omega) | assumption | (unfold vp_in; decide)) dX8_alter_31 rfl ?_
      rw [nI_clamp (by omega), nr1 a (by omega)]
      refine wp_istore_n_3 (pc' := 33) dX8_alter_32 (by decide) rfl rfl ?_
      refine wp_aload_n_0 (pc' := 34) dX8_alter_33 rfl ?_
      refine wp_get_8_4 (pc' := 37) (by omega) rfl rfl me_X8_alter_1 ic_X8_alter_8 dX8_alter_34 rfl ?_
      refine wp_iload_n_1 (pc' := 38) dX8_alter_37 rfl ?_
      refine wp_iload_n_2 (pc' := 39) dX8_alter_38 rfl ?_
      refine wp_iast (pc' := 40) (N := 52) (by omega) rfl rfl (by first | exact vp_in_nI (by omega) (by omega) | assumption | (unfold vp_in; decide)) dX8_alter_39 rfl ?_
      rw [nI_clamp (by omega)]
      refine wp_iload_n_3 (pc' := 41) dX8_alter_40 rfl ?_
      refine wp_ireturn dX8_alter_41 rfl rfl (Nat.le_refl _) (Nat.le_refl _) ?_
      exact ZQ.of rfl (X1.toNow (upN_ok ok (by omega) (by omega)) nr1.alter (MG.of (fun c hc => hup_cell hc))) (fun k hk => by rw [hup_cell (by omega)]; exact f1 k hk)
theorem lp_X8_strike {w : Nat} {ρ : Nat → Nat} {post : PO} (hn : 105 ≤ n) (H0 : Hp) (nr : NR H0 93 ρ) (w5 : w < 5) (hw : w < ρ 16) (hr : ρ 16 ≤ 5)
    (K : ∀ h', (∀ a, a ≠ 93 → h' a = H0 a) → NR h' 93 (dropR ρ w) → post (some (.int (nI (ρ 16 - 1)))) (rf0 π) h' lg) :
    ∀ d k : Nat, k + d = 52 → 17 + 7 * w ≤ k → ∀ h', (∀ a, a ≠ 93 → h' a = H0 a) → (∀ j, j < 52 → h' 93 j = nI (if 17 + 7 * w ≤ j ∧ j < k then (if j + 7 < 52 then ρ (j + 7) else 0) else ρ j)) → WP l D cy B cX8_strike 3 RX8 wsX8_strike rmX8_strike (some .int) (QE0 D cy B n 0 0 (post)) EX0 n (rf0 π) h' lg 0 0 22 [some (.ref (B + 89)), some (.int (nI w)), some (.int (nI k))] [] := by
  intro d
  induction d with
  | zero =>
    intro k hk hk2 h' e0 e1
    have : k = 52 := by omega
    subst this
    have e16 := e1 16 (by omega)
    rw [if_neg (by omega)] at e16
    refine wp_iload_n_2 (pc' := 23) dX8_strike_22 rfl ?_
    refine wp_bipush (pc' := 25) (52) dX8_strike_23 rfl (by decide) ?_
    refine wp_icmp_ge (pc' := 28) (tgt := 62) dX8_strike_25 rfl rfl (fun c25 => ?_) (fun c25 => by exfalso; exact c25 (by decide))
    refine wp_aload_n_0 (pc' := 63) dX8_strike_62 rfl ?_
    refine wp_get_8_4 (pc' := 66) (by omega) rfl rfl me_X8_strike_0 ic_X8_strike_8 dX8_strike_63 rfl ?_
    refine wp_bipush (pc' := 68) (16) dX8_strike_66 rfl (by decide) ?_
    refine wp_dup2 (pc' := 69) dX8_strike_68 rfl rfl rfl ?_
    refine wp_iald (pc' := 70) (N := 52) (by omega) rfl rfl (by first | exact vp_in_nI (by omega) (by omega) | assumption | (unfold vp_in; decide)) dX8_strike_69 rfl ?_
    rw [show (16 : Int32).toNatClampNeg = 16 from rfl, e16]
    refine wp_iconst (pc' := 71) (1) dX8_strike_70 rfl (by decide) ?_
    refine wp_isub (pc' := 72) dX8_strike_71 rfl ?_
    rw [nI_pred' (by omega)]
    refine wp_iast (pc' := 73) (N := 52) (by omega) rfl rfl (by first | exact vp_in_nI (by omega) (by omega) | assumption | (unfold vp_in; decide)) dX8_strike_72 rfl ?_
    refine wp_aload_n_0 (pc' := 74) dX8_strike_73 rfl ?_
    refine wp_get_8_4 (pc' := 77) (by omega) rfl rfl me_X8_strike_0 ic_X8_strike_8 dX8_strike_74 rfl ?_
    refine wp_bipush (pc' := 79) (16) dX8_strike_77 rfl (by decide) ?_
    refine wp_iald (pc' := 80) (N := 52) (by omega) rfl rfl (by first | exact vp_in_nI (by omega) (by omega) | assumption | (unfold vp_in; decide)) dX8_strike_79 rfl ?_
    rw [show (16 : Int32).toNatClampNeg = 16 from rfl, hup_at]
    refine wp_ireturn dX8_strike_80 rfl rfl (Nat.le_refl _) (Nat.le_refl _) ?_
    refine K _ (fun a ha => by rw [hup_cell ha]; exact e0 a ha) (fun j hj => ?_)
    unfold dropR
    by_cases e : j = 16
    · subst e; rw [hup_at, if_pos rfl]
    · rw [hup_off e, if_neg e, e1 j hj]
  | succ d ih =>
    intro k hk hk2 h' e0 e1
    have go : ∀ v, v = nI (if k + 7 < 52 then ρ (k + 7) else 0) → WP l D cy B cX8_strike 3 RX8 wsX8_strike rmX8_strike (some .int) (QE0 D cy B n 0 0 (post)) EX0 n (rf0 π) (hup h' 93 k v) lg 0 0 22 [some (.ref (B + 89)), some (.int (nI w)), some (.int (nI (k + 1)))] [] := by
      intro v hv
      refine ih (k + 1) (by omega) (by omega) _ (fun a ha => by rw [hup_cell ha]; exact e0 a ha) (fun j hj => ?_)
      by_cases e : j = k
      · subst e; rw [hup_at, hv, if_pos (show 17 + 7 * w ≤ j ∧ j < j + 1 by omega)]
      · rw [hup_off e, e1 j hj]
        by_cases z : 17 + 7 * w ≤ j ∧ j < k
        · rw [if_pos z, if_pos (show 17 + 7 * w ≤ j ∧ j < k + 1 by omega)]
        · rw [if_neg z, if_neg (show ¬ (17 + 7 * w ≤ j ∧ j < k + 1) by omega)]
    refine wp_iload_n_2 (pc' := 23) dX8_strike_22 rfl ?_
    refine wp_bipush (pc' := 25) (52) dX8_strike_23 rfl (by decide) ?_
    refine wp_icmp_ge (pc' := 28) (tgt := 62) dX8_strike_25 rfl rfl (fun c25 => by exfalso; exact nI_ge (a := k) (b := 52) (by omega) (by omega) c25) (fun c25 => ?_)
    refine wp_aload_n_0 (pc' := 29) dX8_strike_28 rfl ?_
    refine wp_get_8_4 (pc' := 32) (by omega) rfl rfl me_X8_strike_0 ic_X8_strike_8 dX8_strike_29 rfl ?_
    refine wp_iload_n_2 (pc' := 33) dX8_strike_32 rfl ?_
    refine wp_iload_n_2 (pc' := 34) dX8_strike_33 rfl ?_
    refine wp_bipush (pc' := 36) (7) dX8_strike_34 rfl (by decide) ?_
    refine wp_iadd (pc' := 37) dX8_strike_36 rfl ?_
    rw [show (7 : Int32) = nI 7 from rfl, nI_add]
    refine wp_bipush (pc' := 39) (52) dX8_strike_37 rfl (by decide) ?_
    refine wp_icmp_ge (pc' := 42) (tgt := 54) dX8_strike_39 rfl rfl (fun c39 => ?_) (fun c39 => ?_)
    · skip -- 39 taken
      have z : ¬ k + 7 < 52 := fun z => nI_ge (a := k + 7) (b := 52) (by omega) (by omega) c39
      refine wp_iconst (pc' := 55) (0) dX8_strike_54 rfl (by decide) ?_
      refine wp_iast (pc' := 56) (N := 52) (by omega) rfl rfl (by first | exact vp_in_nI (by omega) (by omega) | assumption | (unfold vp_in; decide)) dX8_strike_55 rfl ?_
      refine wp_iinc_2 (pc' := 59) (v := nI (k + 1)) dX8_strike_56 (by first | rfl | exact nI_1 _) (by decide) rfl rfl ?_
      refine wp_goto (tgt := 22) dX8_strike_59 rfl ?_
      rw [nI_clamp (by omega)]
      exact go _ (by rw [if_neg z]; rfl)
    · skip -- 39 not taken
      have z : k + 7 < 52 := by
        apply Classical.byContradiction
        intro v
        exact c39 (nI_le (a := 52) (b := k + 7) (by omega) (by omega))
      refine wp_aload_n_0 (pc' := 43) dX8_strike_42 rfl ?_
      refine wp_get_8_4 (pc' := 46) (by omega) rfl rfl me_X8_strike_0 ic_X8_strike_8 dX8_strike_43 rfl ?_
      refine wp_iload_n_2 (pc' := 47) dX8_strike_46 rfl ?_
      refine wp_bipush (pc' := 49) (7) dX8_strike_47 rfl (by decide) ?_
      refine wp_iadd (pc' := 50) dX8_strike_49 rfl ?_
      rw [show (7 : Int32) = nI 7 from rfl, nI_add]
      refine wp_iald (pc' := 51) (N := 52) (by omega) rfl rfl (by first | exact vp_in_nI (by omega) (by omega) | assumption | (unfold vp_in; decide)) dX8_strike_50 rfl ?_
      refine wp_goto (tgt := 55) dX8_strike_51 rfl ?_
      refine wp_iast (pc' := 56) (N := 52) (by omega) rfl rfl (by first | exact vp_in_nI (by omega) (by omega) | assumption | (unfold vp_in; decide)) dX8_strike_55 rfl ?_
      refine wp_iinc_2 (pc' := 59) (v := nI (k + 1)) dX8_strike_56 (by first | rfl | exact nI_1 _) (by decide) rfl rfl ?_
      refine wp_goto (tgt := 22) dX8_strike_59 rfl ?_
      rw [nI_clamp (by omega), nI_clamp (by omega)]
      exact go _ (by rw [if_pos z, e1 (k + 7) (by omega), if_neg (by omega)])
theorem c_X8_strike (hn : 105 ≤ n) (X : MI h σ) (w : Int32) : Ctr l D cy B yX8_strike wsX8_strike rmX8_strike 0 0 n (rf0 π) h lg [.ref (B + 89), .int w] (ZQ π h (aStrike σ w) (sStrike σ w)) := by
  obtain ⟨T, q, hm, ok, nr, xp, xk⟩ := id X
  cases e : ix w (σ.ρ 16) with
  | none =>
    rw [show aStrike σ w = -1 by simp only [aStrike, e], show sStrike σ w = σ by simp only [sStrike, e]]
    refine Ctr.of (cc := cX8_strike) (nL := 3) (own := RX8) (rt := (some .int)) (ls := [some (.ref (B + 89)), some (.int w), none]) (by decide) rfl rfl (Nat.le_of_ble_eq_true rfl) rfl ?_
    refine wp_aload_n_0 (pc' := 1) dX8_strike_0 rfl ?_
    refine wp_iload_n_1 (pc' := 2) dX8_strike_1 rfl ?_
    refine wp_callVu (pc' := 5) (c_X8_isWalk hn (nr 16 (by omega)) ok.2.1 _) gX8_strike_X8_isWalk rfl rfl hy_X8_isWalk ⟨Nat.le_of_ble_eq_true rfl, Nat.le_of_ble_eq_true rfl⟩ ⟨rfl, rfl⟩ (Nat.le_of_ble_eq_true rfl) ⟨Nat.le_of_ble_eq_true rfl, Nat.le_of_ble_eq_true rfl⟩ (by omega) (ce8 rfl) rfl rfl dX8_strike_2 rfl ?_
    rw [e]
    refine wp_if_ne (pc' := 8) (tgt := 10) dX8_strike_5 rfl rfl (fun c5 => by exfalso; exact c5 rfl) (fun c5 => ?_)
    refine wp_iconst (pc' := 9) (-1) dX8_strike_8 rfl (by decide) ?_
    refine wp_ireturn dX8_strike_9 rfl rfl (Nat.le_refl _) (Nat.le_refl _) ?_
    exact ZQ.id rfl X
  | some a =>
    obtain ⟨rfl, z1⟩ := ix_some e
    have w5 := (ok.w z1).1
    rw [show aStrike σ (nI a) = nI (σ.ρ 16 - 1) by simp only [aStrike, e], show sStrike σ (nI a) = σ.note.now (dropR σ.ρ a) by simp only [sStrike, e]]
    refine Ctr.of (cc := cX8_strike) (nL := 3) (own := RX8) (rt := (some .int)) (ls := [some (.ref (B + 89)), some (.int (nI a)), none]) (by decide) rfl rfl (Nat.le_of_ble_eq_true rfl) rfl ?_
    refine wp_aload_n_0 (pc' := 1) dX8_strike_0 rfl ?_
    refine wp_iload_n_1 (pc' := 2) dX8_strike_1 rfl ?_
    refine wp_callVu (pc' := 5) (c_X8_isWalk hn (nr 16 (by omega)) ok.2.1 _) gX8_strike_X8_isWalk rfl rfl hy_X8_isWalk ⟨Nat.le_of_ble_eq_true rfl, Nat.le_of_ble_eq_true rfl⟩ ⟨rfl, rfl⟩ (Nat.le_of_ble_eq_true rfl) ⟨Nat.le_of_ble_eq_true rfl, Nat.le_of_ble_eq_true rfl⟩ (by omega) (ce8 rfl) rfl rfl dX8_strike_2 rfl ?_
    rw [e]
    refine wp_if_ne (pc' := 8) (tgt := 10) dX8_strike_5 rfl rfl (fun c5 => ?_) (fun c5 => by exfalso; exact absurd c5 bS)
    refine wp_aload_n_0 (pc' := 11) dX8_strike_10 rfl ?_
    refine wp_callVv (pc' := 14) (c_X8_note hn X) gX8_strike_X8_note rfl rfl hy_X8_note ⟨Nat.le_of_ble_eq_true rfl, Nat.le_of_ble_eq_true rfl⟩ ⟨rfl, rfl⟩ (Nat.le_of_ble_eq_true rfl) ⟨Nat.le_of_ble_eq_true rfl, Nat.le_of_ble_eq_true rfl⟩ (by omega) (ce8 rfl) rfl rfl dX8_strike_11 rfl (fun h11 q11 => ?_)
    obtain ⟨X1, f1⟩ := q11
    have nr1 : NR h11 93 σ.ρ := X1.2.2.2.2.1
    refine wp_bipush (pc' := 16) (17) dX8_strike_14 rfl (by decide) ?_
    refine wp_bipush (pc' := 18) (7) dX8_strike_16 rfl (by decide) ?_
    refine wp_iload_n_1 (pc' := 19) dX8_strike_18 rfl ?_
    refine wp_imul (pc' := 20) dX8_strike_19 rfl ?_
    refine wp_iadd (pc' := 21) dX8_strike_20 rfl ?_
    rw [nI_7w]
    refine wp_istore_n_2 (pc' := 22) dX8_strike_21 (by decide) rfl rfl ?_
    refine lp_X8_strike hn h11 nr1 w5 z1 ok.2.1 (fun h' e0 e1 => ZQ.of rfl (X1.toNow (dropR_ok ok) e1 (MG.of e0)) (fun k hk => by rw [e0 k (by omega)]; exact f1 k hk)) (35 - 7 * a) (17 + 7 * a) (by omega) (by omega) h11 (fun _ _ => rfl) (fun j hj => by rw [if_neg (by omega)]; exact nr1 j hj)
theorem lp_X8_undo {m : Nat} {f : Nat → Nat} {post : PO} (hn : 105 ≤ n) (H0 : Hp) (hm : H0 89 7 = nI m) (hm8 : m < 8) (hb : ∀ k, k < 52 → H0 95 (52 * m + k) = nI (f k))
    (K : ∀ h', (∀ a, a ≠ 93 → h' a = H0 a) → NR h' 93 f → post (some (.int (nI m))) (rf0 π) h' lg) :
    ∀ d i : Nat, i + d = 52 → ∀ h', (∀ a, a ≠ 93 → h' a = H0 a) → (∀ k, k < i → h' 93 k = nI (f k)) → WP l D cy B cX8_undo 2 RX8 wsX8_undo rmX8_undo (some .int) (QE0 D cy B n 0 0 (post)) EX0 n (rf0 π) h' lg 0 0 22 [some (.ref (B + 89)), some (.int (nI i))] [] := by
  intro d
  induction d with
  | zero =>
    intro i hi h' e0 e1
    have : i = 52 := by omega
    subst this
    refine wp_iload_n_1 (pc' := 23) dX8_undo_22 rfl ?_
    refine wp_bipush (pc' := 25) (52) dX8_undo_23 rfl (by decide) ?_
    refine wp_icmp_ge (pc' := 28) (tgt := 54) dX8_undo_25 rfl rfl (fun c25 => ?_) (fun c25 => by exfalso; exact c25 (by decide))
    refine wp_aload_n_0 (pc' := 55) dX8_undo_54 rfl ?_
    refine wp_get_8_7 (pc' := 58) (by omega) rfl me_X8_undo_0 ic_X8_undo_8 dX8_undo_55 rfl ?_
    rw [e0 89 (by decide), hm]
    refine wp_ireturn dX8_undo_58 rfl rfl (Nat.le_refl _) (Nat.le_refl _) ?_
    exact K h' e0 e1
  | succ d ih =>
    intro i hi h' e0 e1
    refine wp_iload_n_1 (pc' := 23) dX8_undo_22 rfl ?_
    refine wp_bipush (pc' := 25) (52) dX8_undo_23 rfl (by decide) ?_
    refine wp_icmp_ge (pc' := 28) (tgt := 54) dX8_undo_25 rfl rfl (fun c25 => by exfalso; exact nI_ge (a := i) (b := 52) (by omega) (by omega) c25) (fun c25 => ?_)
    refine wp_aload_n_0 (pc' := 29) dX8_undo_28 rfl ?_
    refine wp_get_8_4 (pc' := 32) (by omega) rfl rfl me_X8_undo_1 ic_X8_undo_8 dX8_undo_29 rfl ?_
    refine wp_iload_n_1 (pc' := 33) dX8_undo_32 rfl ?_
    refine wp_aload_n_0 (pc' := 34) dX8_undo_33 rfl ?_
    refine wp_get_8_6 (pc' := 37) (by omega) rfl rfl me_X8_undo_2 ic_X8_undo_8 dX8_undo_34 rfl ?_
    refine wp_bipush (pc' := 39) (52) dX8_undo_37 rfl (by decide) ?_
    refine wp_aload_n_0 (pc' := 40) dX8_undo_39 rfl ?_
    refine wp_get_8_7 (pc' := 43) (by omega) rfl me_X8_undo_0 ic_X8_undo_8 dX8_undo_40 rfl ?_
    rw [e0 89 (by decide), hm]
    refine wp_imul (pc' := 44) dX8_undo_43 rfl ?_
    refine wp_iload_n_1 (pc' := 45) dX8_undo_44 rfl ?_
    refine wp_iadd (pc' := 46) dX8_undo_45 rfl ?_
    rw [ix52]
    refine wp_iald (pc' := 47) (N := 416) (by omega) rfl rfl (by first | exact vp_in_nI (by omega) (by omega) | assumption | (unfold vp_in; decide)) dX8_undo_46 rfl ?_
    rw [nI_clamp (by omega), e0 95 (by decide), hb i (by omega)]
    refine wp_iast (pc' := 48) (N := 52) (by omega) rfl rfl (by first | exact vp_in_nI (by omega) (by omega) | assumption | (unfold vp_in; decide)) dX8_undo_47 rfl ?_
    refine wp_iinc_1 (pc' := 51) (v := nI (i + 1)) dX8_undo_48 (by first | rfl | exact nI_1 _) (by decide) rfl rfl ?_
    refine wp_goto (tgt := 22) dX8_undo_51 rfl ?_
    rw [nI_clamp (by omega)]
    refine ih (i + 1) (by omega) _ (fun a ha => by rw [hup_cell ha]; exact e0 a ha) (fun k hk => ?_)
    by_cases e : k = i
    · subst e; rw [hup_at]
    · rw [hup_off e]; exact e1 k (by omega)
theorem c_X8_undo (hn : 105 ≤ n) (X : MI h σ) : Ctr l D cy B yX8_undo wsX8_undo rmX8_undo 0 0 n (rf0 π) h lg [.ref (B + 89)] (ZQ π h (aUndo σ) (sUndo σ)) := by
  obtain ⟨⟨t1, t2, t3⟩, q, hm, ok, nr, ⟨b1, b2, b3, b4⟩, ⟨k1, k2, k3, k4⟩⟩ := id X
  by_cases z : σ.nu = 0
  · rw [show aUndo σ = -2 from if_pos z, show sUndo σ = σ from if_pos z]
    refine Ctr.of (cc := cX8_undo) (nL := 2) (own := RX8) (rt := (some .int)) (ls := [some (.ref (B + 89)), none]) (by decide) rfl rfl (Nat.le_of_ble_eq_true rfl) rfl ?_
    refine wp_aload_n_0 (pc' := 1) dX8_undo_0 rfl ?_
    refine wp_get_8_7 (pc' := 4) (by omega) rfl me_X8_undo_0 ic_X8_undo_8 dX8_undo_1 rfl ?_
    rw [b1, z]
    refine wp_if_ne (pc' := 7) (tgt := 10) dX8_undo_4 rfl rfl (fun c4 => by exfalso; exact c4 rfl) (fun c4 => ?_)
    refine wp_bipush (pc' := 9) (-2) dX8_undo_7 rfl (by decide) ?_
    refine wp_ireturn dX8_undo_9 rfl rfl (Nat.le_refl _) (Nat.le_refl _) ?_
    exact ZQ.id rfl X
  · rw [show aUndo σ = nI (σ.nu - 1) from if_neg z, show sUndo σ = σ.undo from if_neg z]
    refine Ctr.of (cc := cX8_undo) (nL := 2) (own := RX8) (rt := (some .int)) (ls := [some (.ref (B + 89)), none]) (by decide) rfl rfl (Nat.le_of_ble_eq_true rfl) rfl ?_
    refine wp_aload_n_0 (pc' := 1) dX8_undo_0 rfl ?_
    refine wp_get_8_7 (pc' := 4) (by omega) rfl me_X8_undo_0 ic_X8_undo_8 dX8_undo_1 rfl ?_
    rw [b1]
    refine wp_if_ne (pc' := 7) (tgt := 10) dX8_undo_4 rfl rfl (fun c4 => ?_) (fun c4 => by exfalso; exact nI_ne0 (by omega) (by omega) c4)
    refine wp_aload_n_0 (pc' := 11) dX8_undo_10 rfl ?_
    refine wp_dup (pc' := 12) dX8_undo_11 rfl rfl ?_
    refine wp_get_8_7 (pc' := 15) (by omega) rfl me_X8_undo_0 ic_X8_undo_8 dX8_undo_12 rfl ?_
    rw [b1]
    refine wp_iconst (pc' := 16) (1) dX8_undo_15 rfl (by decide) ?_
    refine wp_isub (pc' := 17) dX8_undo_16 rfl ?_
    rw [nI_pred' (by omega)]
    refine wp_put_8_7 (pc' := 20) (by omega) rfl me_X8_undo_0 ic_X8_undo_8 dX8_undo_17 rfl ?_
    refine wp_iconst (pc' := 21) (0) dX8_undo_20 rfl (by decide) ?_
    refine wp_istore_n_1 (pc' := 22) dX8_undo_21 (by decide) rfl rfl ?_
    refine lp_X8_undo (m := σ.nu - 1) (f := σ.bf (σ.nu - 1)) hn _ (hup_at _ _ _ _) (by omega) (fun k hk => by rw [hup_cell (by decide)]; exact b4 (σ.nu - 1) (by omega) k hk) (fun h' e0 e1 => ZQ.of rfl ?_ (fun k hk => by rw [e0 k (by omega), hup_cell (by omega)])) 52 0 (by omega) _ (fun _ _ => rfl) (fun k hk => by omega)
    have f : ∀ a, a ≠ 93 → a ≠ 89 → h' a = h a := fun a h1 h2 => by rw [e0 a h1, hup_cell h2]
    exact ⟨⟨by rw [e0 89 (by decide), hup_off (by decide)]; exact t1, t2, by rw [f 90 (by decide) (by decide)]; exact t3⟩, q.of (by rw [f 91 (by decide) (by decide)]) (by rw [f 91 (by decide) (by decide)]), fun k hk => by rw [f 92 (by decide) (by decide)]; exact hm k hk, b3 (σ.nu - 1) (by omega), e1, ⟨by rw [e0 89 (by decide), hup_at]; rfl, by show σ.nu - 1 ≤ 8; omega, fun i hi => b3 i (by have : i < σ.nu - 1 := hi; omega), fun i hi k hk => by rw [f 95 (by decide) (by decide)]; exact b4 i (by have : i < σ.nu - 1 := hi; omega) k hk⟩, ⟨by rw [e0 89 (by decide), hup_off (by decide)]; exact k1, k2, k3, by unfold BR; rw [f 96 (by decide) (by decide)]; exact k4⟩⟩
theorem lp_X8_back {m : Nat} {f : Nat → Nat} {post : PO} (hn : 105 ≤ n) (H0 : Hp) (hm : H0 89 9 = nI m) (hm8 : m < 2) (hb : ∀ k, k < 52 → H0 96 (52 * m + k) = nI (f k))
    (K : ∀ h', (∀ a, a ≠ 93 → h' a = H0 a) → NR h' 93 f → post (some (.int (nI m))) (rf0 π) (hup h' 89 7 0) lg) :
    ∀ d i : Nat, i + d = 52 → ∀ h', (∀ a, a ≠ 93 → h' a = H0 a) → (∀ k, k < i → h' 93 k = nI (f k)) → WP l D cy B cX8_back 2 RX8 wsX8_back rmX8_back (some .int) (QE0 D cy B n 0 0 (post)) EX0 n (rf0 π) h' lg 0 0 22 [some (.ref (B + 89)), some (.int (nI i))] [] := by
  intro d
  induction d with
  | zero =>
    intro i hi h' e0 e1
    have : i = 52 := by omega
    subst this
    refine wp_iload_n_1 (pc' := 23) dX8_back_22 rfl ?_
    refine wp_bipush (pc' := 25) (52) dX8_back_23 rfl (by decide) ?_
    refine wp_icmp_ge (pc' := 28) (tgt := 54) dX8_back_25 rfl rfl (fun c25 => ?_) (fun c25 => by exfalso; exact c25 (by decide))
    refine wp_aload_n_0 (pc' := 55) dX8_back_54 rfl ?_
    refine wp_iconst (pc' := 56) (0) dX8_back_55 rfl (by decide) ?_
    refine wp_put_8_7 (pc' := 59) (by omega) rfl me_X8_back_0 ic_X8_back_8 dX8_back_56 rfl ?_
    refine wp_aload_n_0 (pc' := 60) dX8_back_59 rfl ?_
    refine wp_get_8_9 (pc' := 63) (by omega) rfl me_X8_back_1 ic_X8_back_8 dX8_back_60 rfl ?_
    rw [hup_off (by decide), e0 89 (by decide), hm]
    refine wp_ireturn dX8_back_63 rfl rfl (Nat.le_refl _) (Nat.le_refl _) ?_
    exact K h' e0 e1
  | succ d ih =>
    intro i hi h' e0 e1
    refine wp_iload_n_1 (pc' := 23) dX8_back_22 rfl ?_
    refine wp_bipush (pc' := 25) (52) dX8_back_23 rfl (by decide) ?_
    refine wp_icmp_ge (pc' := 28) (tgt := 54) dX8_back_25 rfl rfl (fun c25 => by exfalso; exact nI_ge (a := i) (b := 52) (by omega) (by omega) c25) (fun c25 => ?_)
    refine wp_aload_n_0 (pc' := 29) dX8_back_28 rfl ?_
    refine wp_get_8_4 (pc' := 32) (by omega) rfl rfl me_X8_back_2 ic_X8_back_8 dX8_back_29 rfl ?_
    refine wp_iload_n_1 (pc' := 33) dX8_back_32 rfl ?_
    refine wp_aload_n_0 (pc' := 34) dX8_back_33 rfl ?_
    refine wp_get_8_8 (pc' := 37) (by omega) rfl rfl me_X8_back_3 ic_X8_back_8 dX8_back_34 rfl ?_
    refine wp_bipush (pc' := 39) (52) dX8_back_37 rfl (by decide) ?_
    refine wp_aload_n_0 (pc' := 40) dX8_back_39 rfl ?_
    refine wp_get_8_9 (pc' := 43) (by omega) rfl me_X8_back_1 ic_X8_back_8 dX8_back_40 rfl ?_
    rw [e0 89 (by decide), hm]
    refine wp_imul (pc' := 44) dX8_back_43 rfl ?_
    refine wp_iload_n_1 (pc' := 45) dX8_back_44 rfl ?_
    refine wp_iadd (pc' := 46) dX8_back_45 rfl ?_
    rw [ix52]
    refine wp_iald (pc' := 47) (N := 104) (by omega) rfl rfl (by first | exact vp_in_nI (by omega) (by omega) | assumption | (unfold vp_in; decide)) dX8_back_46 rfl ?_
    rw [nI_clamp (by omega), e0 96 (by decide), hb i (by omega)]
    refine wp_iast (pc' := 48) (N := 52) (by omega) rfl rfl (by first | exact vp_in_nI (by omega) (by omega) | assumption | (unfold vp_in; decide)) dX8_back_47 rfl ?_
    refine wp_iinc_1 (pc' := 51) (v := nI (i + 1)) dX8_back_48 (by first | rfl | exact nI_1 _) (by decide) rfl rfl ?_
    refine wp_goto (tgt := 22) dX8_back_51 rfl ?_
    rw [nI_clamp (by omega)]
    refine ih (i + 1) (by omega) _ (fun a ha => by rw [hup_cell ha]; exact e0 a ha) (fun k hk => ?_)
    by_cases e : k = i
    · subst e; rw [hup_at]
    · rw [hup_off e]; exact e1 k (by omega)
theorem c_X8_back (hn : 105 ≤ n) (X : MI h σ) : Ctr l D cy B yX8_back wsX8_back rmX8_back 0 0 n (rf0 π) h lg [.ref (B + 89)] (ZQ π h (aBack σ) (sBack σ)) := by
  obtain ⟨⟨t1, t2, t3⟩, q, hm, ok, nr, ⟨b1, b2, b3, b4⟩, ⟨k1, k2, k3, k4⟩⟩ := id X
  by_cases z : σ.nk = 0
  · rw [show aBack σ = -2 from if_pos z, show sBack σ = σ from if_pos z]
    refine Ctr.of (cc := cX8_back) (nL := 2) (own := RX8) (rt := (some .int)) (ls := [some (.ref (B + 89)), none]) (by decide) rfl rfl (Nat.le_of_ble_eq_true rfl) rfl ?_
    refine wp_aload_n_0 (pc' := 1) dX8_back_0 rfl ?_
    refine wp_get_8_9 (pc' := 4) (by omega) rfl me_X8_back_1 ic_X8_back_8 dX8_back_1 rfl ?_
    rw [k1, z]
    refine wp_if_ne (pc' := 7) (tgt := 10) dX8_back_4 rfl rfl (fun c4 => by exfalso; exact c4 rfl) (fun c4 => ?_)
    refine wp_bipush (pc' := 9) (-2) dX8_back_7 rfl (by decide) ?_
    refine wp_ireturn dX8_back_9 rfl rfl (Nat.le_refl _) (Nat.le_refl _) ?_
    exact ZQ.id rfl X
  · rw [show aBack σ = nI (σ.nk - 1) from if_neg z, show sBack σ = σ.back from if_neg z]
    refine Ctr.of (cc := cX8_back) (nL := 2) (own := RX8) (rt := (some .int)) (ls := [some (.ref (B + 89)), none]) (by decide) rfl rfl (Nat.le_of_ble_eq_true rfl) rfl ?_
    refine wp_aload_n_0 (pc' := 1) dX8_back_0 rfl ?_
    refine wp_get_8_9 (pc' := 4) (by omega) rfl me_X8_back_1 ic_X8_back_8 dX8_back_1 rfl ?_
    rw [k1]
    refine wp_if_ne (pc' := 7) (tgt := 10) dX8_back_4 rfl rfl (fun c4 => ?_) (fun c4 => by exfalso; exact nI_ne0 (by omega) (by omega) c4)
    refine wp_aload_n_0 (pc' := 11) dX8_back_10 rfl ?_
    refine wp_dup (pc' := 12) dX8_back_11 rfl rfl ?_
    refine wp_get_8_9 (pc' := 15) (by omega) rfl me_X8_back_1 ic_X8_back_8 dX8_back_12 rfl ?_
    rw [k1]
    refine wp_iconst (pc' := 16) (1) dX8_back_15 rfl (by decide) ?_
    refine wp_isub (pc' := 17) dX8_back_16 rfl ?_
    rw [nI_pred' (by omega)]
    refine wp_put_8_9 (pc' := 20) (by omega) rfl me_X8_back_1 ic_X8_back_8 dX8_back_17 rfl ?_
    refine wp_iconst (pc' := 21) (0) dX8_back_20 rfl (by decide) ?_
    refine wp_istore_n_1 (pc' := 22) dX8_back_21 (by decide) rfl rfl ?_
    refine lp_X8_back (m := σ.nk - 1) (f := σ.kp (σ.nk - 1)) hn _ (hup_at _ _ _ _) (by omega) (fun k hk => by rw [hup_cell (by decide)]; exact k4 (σ.nk - 1) (by omega) k hk) (fun h' e0 e1 => ZQ.of rfl ?_ (fun k hk => by rw [hup_cell (by omega), e0 k (by omega), hup_cell (by omega)])) 52 0 (by omega) _ (fun _ _ => rfl) (fun k hk => by omega)
    have f : ∀ a, a ≠ 93 → a ≠ 89 → hup h' 89 7 0 a = h a := fun a h1 h2 => by rw [hup_cell h2, e0 a h1, hup_cell h2]
    exact ⟨⟨by rw [hup_off (by decide), e0 89 (by decide), hup_off (by decide)]; exact t1, t2, by rw [f 90 (by decide) (by decide)]; exact t3⟩, q.of (by rw [f 91 (by decide) (by decide)]) (by rw [f 91 (by decide) (by decide)]), fun k hk => by rw [f 92 (by decide) (by decide)]; exact hm k hk, k3 (σ.nk - 1) (by omega), fun k hk => by rw [hup_cell (by decide)]; exact e1 k hk, ⟨hup_at _ _ _ _, by show 0 ≤ 8; omega, fun i hi => absurd hi (Nat.not_lt_zero i), fun i hi => absurd hi (Nat.not_lt_zero i)⟩, ⟨by rw [hup_off (by decide), e0 89 (by decide), hup_at]; rfl, by show σ.nk - 1 ≤ 2; omega, fun i hi => k3 i (by have : i < σ.nk - 1 := hi; omega), fun i hi k hk => by rw [f 96 (by decide) (by decide)]; exact k4 i (by have : i < σ.nk - 1 := hi; omega) k hk⟩⟩
theorem lp_X8_keep {m : Nat} {ρ : Nat → Nat} {post : PO} (hn : 105 ≤ n) (H0 : Hp) (nr : NR H0 93 ρ) (hm : H0 89 9 = nI m) (hm8 : m < 2)
    (K : ∀ h', (∀ a, a ≠ 96 → h' a = H0 a) → (∀ j, j < 52 * m → h' 96 j = H0 96 j) → (∀ k, k < 52 → h' 96 (52 * m + k) = nI (ρ k)) → post (some (.int (nI (m + 1)))) (rf0 π) (hup h' 89 9 (nI (m + 1))) lg) :
    ∀ d i : Nat, i + d = 52 → ∀ h', (∀ a, a ≠ 96 → h' a = H0 a) → (∀ j, j < 52 * m → h' 96 j = H0 96 j) → (∀ k, k < i → h' 96 (52 * m + k) = nI (ρ k)) → WP l D cy B cX8_keep 2 RX8 wsX8_keep rmX8_keep (some .int) (QE0 D cy B n 0 0 (post)) EX0 n (rf0 π) h' lg 0 0 13 [some (.ref (B + 89)), some (.int (nI i))] [] := by
  intro d
  induction d with
  | zero =>
    intro i hi h' e0 e1 e2
    have : i = 52 := by omega
    subst this
    refine wp_iload_n_1 (pc' := 14) dX8_keep_13 rfl ?_
    refine wp_bipush (pc' := 16) (52) dX8_keep_14 rfl (by decide) ?_
    refine wp_icmp_ge (pc' := 19) (tgt := 45) dX8_keep_16 rfl rfl (fun c16 => ?_) (fun c16 => by exfalso; exact c16 (by decide))
    refine wp_aload_n_0 (pc' := 46) dX8_keep_45 rfl ?_
    refine wp_dup (pc' := 47) dX8_keep_46 rfl rfl ?_
    refine wp_get_8_9 (pc' := 50) (by omega) rfl me_X8_keep_0 ic_X8_keep_8 dX8_keep_47 rfl ?_
    rw [e0 89 (by decide), hm]
    refine wp_iconst (pc' := 51) (1) dX8_keep_50 rfl (by decide) ?_
    refine wp_iadd (pc' := 52) dX8_keep_51 rfl ?_
    rw [nI_1]
    refine wp_put_8_9 (pc' := 55) (by omega) rfl me_X8_keep_0 ic_X8_keep_8 dX8_keep_52 rfl ?_
    refine wp_aload_n_0 (pc' := 56) dX8_keep_55 rfl ?_
    refine wp_get_8_9 (pc' := 59) (by omega) rfl me_X8_keep_0 ic_X8_keep_8 dX8_keep_56 rfl ?_
    rw [hup_at]
    refine wp_ireturn dX8_keep_59 rfl rfl (Nat.le_refl _) (Nat.le_refl _) ?_
    exact K h' e0 e1 e2
  | succ d ih =>
    intro i hi h' e0 e1 e2
    refine wp_iload_n_1 (pc' := 14) dX8_keep_13 rfl ?_
    refine wp_bipush (pc' := 16) (52) dX8_keep_14 rfl (by decide) ?_
    refine wp_icmp_ge (pc' := 19) (tgt := 45) dX8_keep_16 rfl rfl (fun c16 => by exfalso; exact nI_ge (a := i) (b := 52) (by omega) (by omega) c16) (fun c16 => ?_)
    refine wp_aload_n_0 (pc' := 20) dX8_keep_19 rfl ?_
    refine wp_get_8_8 (pc' := 23) (by omega) rfl rfl me_X8_keep_1 ic_X8_keep_8 dX8_keep_20 rfl ?_
    refine wp_bipush (pc' := 25) (52) dX8_keep_23 rfl (by decide) ?_
    refine wp_aload_n_0 (pc' := 26) dX8_keep_25 rfl ?_
    refine wp_get_8_9 (pc' := 29) (by omega) rfl me_X8_keep_0 ic_X8_keep_8 dX8_keep_26 rfl ?_
    rw [e0 89 (by decide), hm]
    refine wp_imul (pc' := 30) dX8_keep_29 rfl ?_
    refine wp_iload_n_1 (pc' := 31) dX8_keep_30 rfl ?_
    refine wp_iadd (pc' := 32) dX8_keep_31 rfl ?_
    rw [ix52]
    refine wp_aload_n_0 (pc' := 33) dX8_keep_32 rfl ?_
    refine wp_get_8_4 (pc' := 36) (by omega) rfl rfl me_X8_keep_2 ic_X8_keep_8 dX8_keep_33 rfl ?_
    refine wp_iload_n_1 (pc' := 37) dX8_keep_36 rfl ?_
    refine wp_iald (pc' := 38) (N := 52) (by omega) rfl rfl (by first | exact vp_in_nI (by omega) (by omega) | assumption | (unfold vp_in; decide)) dX8_keep_37 rfl ?_
    rw [nI_clamp (by omega), e0 93 (by decide), nr i (by omega)]
    refine wp_iast (pc' := 39) (N := 104) (by omega) rfl rfl (by first | exact vp_in_nI (by omega) (by omega) | assumption | (unfold vp_in; decide)) dX8_keep_38 rfl ?_
    refine wp_iinc_1 (pc' := 42) (v := nI (i + 1)) dX8_keep_39 (by first | rfl | exact nI_1 _) (by decide) rfl rfl ?_
    refine wp_goto (tgt := 13) dX8_keep_42 rfl ?_
    rw [nI_clamp (by omega)]
    refine ih (i + 1) (by omega) _ (fun a ha => by rw [hup_cell ha]; exact e0 a ha) (fun j hj => by rw [hup_off (by omega)]; exact e1 j hj) (fun k hk => ?_)
    by_cases e : k = i
    · subst e; rw [hup_at]
    · rw [hup_off (by omega)]; exact e2 k (by omega)
theorem c_X8_keep (hn : 105 ≤ n) (X : MI h σ) : Ctr l D cy B yX8_keep wsX8_keep rmX8_keep 0 0 n (rf0 π) h lg [.ref (B + 89)] (ZQ π h (aKeep σ) (sKeep σ)) := by
  obtain ⟨⟨t1, t2, t3⟩, q, hm, ok, nr, ⟨b1, b2, b3, b4⟩, ⟨k1, k2, k3, k4⟩⟩ := id X
  by_cases z : σ.nk < 2
  · rw [show aKeep σ = nI (σ.nk + 1) from if_pos z, show sKeep σ = σ.keep from if_pos z]
    refine Ctr.of (cc := cX8_keep) (nL := 2) (own := RX8) (rt := (some .int)) (ls := [some (.ref (B + 89)), none]) (by decide) rfl rfl (Nat.le_of_ble_eq_true rfl) rfl ?_
    refine wp_aload_n_0 (pc' := 1) dX8_keep_0 rfl ?_
    refine wp_get_8_9 (pc' := 4) (by omega) rfl me_X8_keep_0 ic_X8_keep_8 dX8_keep_1 rfl ?_
    rw [k1]
    refine wp_iconst (pc' := 5) (2) dX8_keep_4 rfl (by decide) ?_
    refine wp_icmp_ne (pc' := 8) (tgt := 11) dX8_keep_5 rfl rfl (fun c5 => ?_) (fun c5 => by exfalso; (simp (disch := omega) only [Int32.lt_iff_toInt_lt, Int32.le_iff_toInt_le, ← Int32.toInt_inj, nI_toInt, il_0, il_1, il_2, il_3, il_4, il_5, il_6, il_8, il_9, il_10, il_16, il_26, il_32, il_40, il_n4, il_n1, il_n2, il_11, il_48, il_57, il_59, il_44, il_126, il_200, il_9999, il_66666, il_10000, il_1000000, il_15, il_12, il_256, il_4096, il_53, il_52] at c5; omega))
    refine wp_iconst (pc' := 12) (0) dX8_keep_11 rfl (by decide) ?_
    refine wp_istore_n_1 (pc' := 13) dX8_keep_12 (by decide) rfl rfl ?_
    refine lp_X8_keep (m := σ.nk) (ρ := σ.ρ) hn h nr k1 z (fun h' e0 e1 e2 => ZQ.of rfl ?_ (fun k hk => by rw [hup_cell (by omega), e0 k (by omega)])) 52 0 (by omega) _ (fun _ _ => rfl) (fun _ _ => rfl) (fun k hk => by omega)
    have f : ∀ a, a ≠ 96 → a ≠ 89 → hup h' 89 9 (nI (σ.nk + 1)) a = h a := fun a h1 h2 => by rw [hup_cell h2, e0 a h1]
    refine ⟨⟨by rw [hup_off (by decide), e0 89 (by decide)]; exact t1, t2, by rw [f 90 (by decide) (by decide)]; exact t3⟩, q.of (by rw [f 91 (by decide) (by decide)]) (by rw [f 91 (by decide) (by decide)]), fun k hk => by rw [f 92 (by decide) (by decide)]; exact hm k hk, ok, fun k hk => by rw [f 93 (by decide) (by decide)]; exact nr k hk, ⟨by rw [hup_off (by decide), e0 89 (by decide)]; exact b1, b2, b3, by unfold BR; rw [f 95 (by decide) (by decide)]; exact b4⟩, ⟨hup_at _ _ _ _, by show σ.nk + 1 ≤ 2; omega, fun i hi => ?_, fun i hi k hk => ?_⟩⟩
    · have hi' : i < σ.nk + 1 := hi
      show RowOK (upF σ.kp σ.nk σ.ρ i)
      unfold upF
      by_cases e : i = σ.nk
      · simp only [e, if_true]; exact ok
      · simp only [e, if_false]; exact k3 i (by omega)
    · have hi' : i < σ.nk + 1 := hi
      show hup h' 89 9 (nI (σ.nk + 1)) 96 (52 * i + k) = nI (upF σ.kp σ.nk σ.ρ i k)
      rw [hup_cell (by decide)]
      unfold upF
      by_cases e : i = σ.nk
      · simp only [e, if_true]; exact e2 k hk
      · simp only [e, if_false]; rw [e1 _ (by omega)]; exact k4 i (by omega) k hk
  · rw [show aKeep σ = -3 from if_neg z, show sKeep σ = σ from if_neg z]
    refine Ctr.of (cc := cX8_keep) (nL := 2) (own := RX8) (rt := (some .int)) (ls := [some (.ref (B + 89)), none]) (by decide) rfl rfl (Nat.le_of_ble_eq_true rfl) rfl ?_
    refine wp_aload_n_0 (pc' := 1) dX8_keep_0 rfl ?_
    refine wp_get_8_9 (pc' := 4) (by omega) rfl me_X8_keep_0 ic_X8_keep_8 dX8_keep_1 rfl ?_
    rw [k1, show σ.nk = 2 by omega]
    refine wp_iconst (pc' := 5) (2) dX8_keep_4 rfl (by decide) ?_
    refine wp_icmp_ne (pc' := 8) (tgt := 11) dX8_keep_5 rfl rfl (fun c5 => by exfalso; exact c5 rfl) (fun c5 => ?_)
    refine wp_bipush (pc' := 10) (-3) dX8_keep_8 rfl (by decide) ?_
    refine wp_ireturn dX8_keep_10 rfl rfl (Nat.le_refl _) (Nat.le_refl _) ?_
    exact ZQ.id rfl X
end VM5

