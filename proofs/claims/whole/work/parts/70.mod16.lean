abbrev rmX8_begin : Room := { frames := 0, cells := 0, slots := 0, locals := 0 }
theorem hy_X8_begin : yX8_begin.cls = RX8 ∧ yX8_begin.cls ≠ "java/lang/invoke/MethodHandle" ∧ yX8_begin.cls ≠ "java/lang/invoke/VarHandle" ∧ (parseMethodDescriptor yX8_begin.desc).map (fun d => d.parameters.length) = some 0 := by decide +kernel
theorem hz_X8_begin : yX8_begin.cls ≠ "java/lang/invoke/MethodHandle" ∧ yX8_begin.cls ≠ "java/lang/invoke/VarHandle" ∧ (parseMethodDescriptor yX8_begin.desc).map (fun d => d.parameters.length) = some 0 := by decide +kernel
abbrev rmX8_lay : Room := { frames := 4, cells := 0, slots := 0, locals := 92 }
theorem hy_X8_lay : yX8_lay.cls = RX8 ∧ yX8_lay.cls ≠ "java/lang/invoke/MethodHandle" ∧ yX8_lay.cls ≠ "java/lang/invoke/VarHandle" ∧ (parseMethodDescriptor yX8_lay.desc).map (fun d => d.parameters.length) = some 0 := by decide +kernel
theorem hz_X8_lay : yX8_lay.cls ≠ "java/lang/invoke/MethodHandle" ∧ yX8_lay.cls ≠ "java/lang/invoke/VarHandle" ∧ (parseMethodDescriptor yX8_lay.desc).map (fun d => d.parameters.length) = some 0 := by decide +kernel
abbrev rmX8_tell : Room := { frames := 1, cells := 0, slots := 0, locals := 26 }
theorem hy_X8_tell : yX8_tell.cls = RX8 ∧ yX8_tell.cls ≠ "java/lang/invoke/MethodHandle" ∧ yX8_tell.cls ≠ "java/lang/invoke/VarHandle" ∧ (parseMethodDescriptor yX8_tell.desc).map (fun d => d.parameters.length) = some 2 := by decide +kernel
theorem hz_X8_tell : yX8_tell.cls ≠ "java/lang/invoke/MethodHandle" ∧ yX8_tell.cls ≠ "java/lang/invoke/VarHandle" ∧ (parseMethodDescriptor yX8_tell.desc).map (fun d => d.parameters.length) = some 2 := by decide +kernel
theorem me_X8_begin_0 : Cond.fieldLink RX8 16 "DrawnByLostModel" "hunger" "[I" ∈ wsX8_begin := by decide +kernel
theorem me_X8_begin_1 : Cond.fieldLink RX8 19 "DrawnByLostModel" "now" "[I" ∈ wsX8_begin := by decide +kernel
theorem me_X8_begin_2 : Cond.fieldLink RX8 22 "DrawnByLostModel" "read" "[I" ∈ wsX8_begin := by decide +kernel
theorem me_X8_begin_3 : Cond.fieldLink RX8 13 "DrawnByLostModel" "sizes" "[I" ∈ wsX8_begin := by decide +kernel
theorem me_X8_begin_4 : Cond.fieldLink RX8 122 "DrawnByLostModel" "undoMany" "I" ∈ wsX8_begin := by decide +kernel
theorem me_X8_begin_5 : Cond.fieldLink RX8 125 "DrawnByLostModel" "keptMany" "I" ∈ wsX8_begin := by decide +kernel
theorem me_X8_lay_0 : Cond.fieldLink RX8 22 "DrawnByLostModel" "read" "[I" ∈ wsX8_lay := by decide +kernel
theorem me_X8_tell_0 : Cond.constantLong RX8 153 (6) ∈ wsX8_tell := by decide +kernel
theorem me_X8_tell_1 : Cond.constantLong RX8 93 (3) ∈ wsX8_tell := by decide +kernel
theorem me_X8_tell_2 : Cond.constantLong RX8 149 (11) ∈ wsX8_tell := by decide +kernel
theorem me_X8_tell_3 : Cond.constantLong RX8 151 (66666) ∈ wsX8_tell := by decide +kernel
theorem me_X8_tell_4 : Cond.fieldLink RX8 19 "DrawnByLostModel" "now" "[I" ∈ wsX8_tell := by decide +kernel
theorem ic_X8_begin_8 : ∀ w ∈ wsX80, w ∈ wsX8_begin := by decide +kernel
theorem ic_X8_lay_8 : ∀ w ∈ wsX80, w ∈ wsX8_lay := by decide +kernel
theorem ic_X8_tell_8 : ∀ w ∈ wsX80, w ∈ wsX8_tell := by decide +kernel
-- the reference: the text laid, a walk told
section VMG
variable {l : Launch} {D : va_G} {cy : CY} {B n : Nat} {h : Hp} {lg : Lg} {π : Nat → Nat} {σ : Sg}
theorem lp1_X8_begin {post : PO} (hn : 105 ≤ n) (H0 : Hp)
    (K : ∀ h' a1, (∀ a, a ≠ 92 → h' a = H0 a) → (∀ m, m < 6 → h' 92 m = H0 92 (6 + m)) → WP l D cy B cX8_begin 2 RX8 wsX8_begin rmX8_begin none (QE0 D cy B n 0 0 (post)) EX0 n (rf0 π) h' lg 0 0 53 [some (.ref (B + 89)), a1] []) :
    ∀ d i : Nat, i + d = 6 → ∀ h', (∀ a, a ≠ 92 → h' a = H0 a) → (∀ m, m < i → h' 92 m = H0 92 (6 + m)) → (∀ m, m < 6 → h' 92 (6 + m) = H0 92 (6 + m)) → WP l D cy B cX8_begin 2 RX8 wsX8_begin rmX8_begin none (QE0 D cy B n 0 0 (post)) EX0 n (rf0 π) h' lg 0 0 26 [some (.ref (B + 89)), some (.int (nI i))] [] := by
  intro d
  induction d with
  | zero =>
    intro i hi h' e0 e1 e2
    have : i = 6 := by omega
    subst this
    refine wp_iload_n_1 (pc' := 27) dX8_begin_26 rfl ?_
    refine wp_bipush (pc' := 29) (6) dX8_begin_27 rfl (by decide) ?_
    refine wp_icmp_ge (pc' := 32) (tgt := 53) dX8_begin_29 rfl rfl (fun c29 => ?_) (fun c29 => by exfalso; exact c29 (by decide))
    exact K h' _ e0 e1
  | succ d ih =>
    intro i hi h' e0 e1 e2
    refine wp_iload_n_1 (pc' := 27) dX8_begin_26 rfl ?_
    refine wp_bipush (pc' := 29) (6) dX8_begin_27 rfl (by decide) ?_
    refine wp_icmp_ge (pc' := 32) (tgt := 53) dX8_begin_29 rfl rfl (fun c29 => by exfalso; (simp (disch := omega) only [Int32.lt_iff_toInt_lt, Int32.le_iff_toInt_le, ← Int32.toInt_inj, nI_toInt, il_0, il_1, il_2, il_3, il_4, il_5, il_6, il_8, il_9, il_10, il_16, il_26, il_32, il_40, il_n4, il_n1, il_n2, il_11, il_48, il_57, il_59, il_44, il_126, il_200, il_9999, il_66666, il_10000, il_1000000, il_15, il_12, il_256, il_4096, il_53, il_52] at c29; omega)) (fun c29 => ?_)
    refine wp_aload_n_0 (pc' := 33) dX8_begin_32 rfl ?_
    refine wp_get_8_3 (pc' := 36) (by omega) rfl rfl me_X8_begin_0 ic_X8_begin_8 dX8_begin_33 rfl ?_
    refine wp_iload_n_1 (pc' := 37) dX8_begin_36 rfl ?_
    refine wp_aload_n_0 (pc' := 38) dX8_begin_37 rfl ?_
    refine wp_get_8_3 (pc' := 41) (by omega) rfl rfl me_X8_begin_0 ic_X8_begin_8 dX8_begin_38 rfl ?_
    refine wp_bipush (pc' := 43) (6) dX8_begin_41 rfl (by decide) ?_
    refine wp_iload_n_1 (pc' := 44) dX8_begin_43 rfl ?_
    refine wp_iadd (pc' := 45) dX8_begin_44 rfl ?_
    rw [show (6 : Int32) = nI 6 from rfl, nI_add]
    refine wp_iald (pc' := 46) (N := 12) (by omega) rfl rfl (by first | exact vp_in_nI (by omega) (by omega) | assumption | (unfold vp_in; decide)) dX8_begin_45 rfl ?_
    rw [nI_clamp (by omega), e2 i (by omega)]
    refine wp_iast (pc' := 47) (N := 12) (by omega) rfl rfl (by first | exact vp_in_nI (by omega) (by omega) | assumption | (unfold vp_in; decide)) dX8_begin_46 rfl ?_
    rw [nI_clamp (by omega)]
    refine wp_iinc_1 (pc' := 50) (v := nI (i + 1)) dX8_begin_47 (by first | rfl | exact nI_1 _) (by decide) rfl rfl ?_
    refine wp_goto (tgt := 26) dX8_begin_50 rfl ?_
    refine ih (i + 1) (by omega) _ (fun a ha => by rw [hup_cell ha]; exact e0 a ha) (fun m hm => ?_) (fun m hm => by rw [hup_off (by omega)]; exact e2 m hm)
    by_cases e : m = i
    · subst e; rw [hup_at]
    · rw [hup_off e]; exact e1 m (by omega)
theorem lp2_X8_begin {post : PO} (hn : 105 ≤ n) (H0 : Hp)
    (K : ∀ h' a1, (∀ a, a ≠ 93 → h' a = H0 a) → (∀ k, k < 52 → h' 93 k = H0 94 k) → WP l D cy B cX8_begin 2 RX8 wsX8_begin rmX8_begin none (QE0 D cy B n 0 0 (post)) EX0 n (rf0 π) h' lg 0 0 79 [some (.ref (B + 89)), a1] []) :
    ∀ d i : Nat, i + d = 52 → ∀ h', (∀ a, a ≠ 93 → h' a = H0 a) → (∀ k, k < i → h' 93 k = H0 94 k) → WP l D cy B cX8_begin 2 RX8 wsX8_begin rmX8_begin none (QE0 D cy B n 0 0 (post)) EX0 n (rf0 π) h' lg 0 0 55 [some (.ref (B + 89)), some (.int (nI i))] [] := by
  intro d
  induction d with
  | zero =>
    intro i hi h' e0 e1
    have : i = 52 := by omega
    subst this
    refine wp_iload_n_1 (pc' := 56) dX8_begin_55 rfl ?_
    refine wp_bipush (pc' := 58) (52) dX8_begin_56 rfl (by decide) ?_
    refine wp_icmp_ge (pc' := 61) (tgt := 79) dX8_begin_58 rfl rfl (fun c58 => ?_) (fun c58 => by exfalso; exact c58 (by decide))
    exact K h' _ e0 e1
  | succ d ih =>
    intro i hi h' e0 e1
    refine wp_iload_n_1 (pc' := 56) dX8_begin_55 rfl ?_
    refine wp_bipush (pc' := 58) (52) dX8_begin_56 rfl (by decide) ?_
    refine wp_icmp_ge (pc' := 61) (tgt := 79) dX8_begin_58 rfl rfl (fun c58 => by exfalso; exact nI_ge (a := i) (b := 52) (by omega) (by omega) c58) (fun c58 => ?_)
    refine wp_aload_n_0 (pc' := 62) dX8_begin_61 rfl ?_
    refine wp_get_8_4 (pc' := 65) (by omega) rfl rfl me_X8_begin_1 ic_X8_begin_8 dX8_begin_62 rfl ?_
    refine wp_iload_n_1 (pc' := 66) dX8_begin_65 rfl ?_
    refine wp_aload_n_0 (pc' := 67) dX8_begin_66 rfl ?_
    refine wp_get_8_5 (pc' := 70) (by omega) rfl rfl me_X8_begin_2 ic_X8_begin_8 dX8_begin_67 rfl ?_
    refine wp_iload_n_1 (pc' := 71) dX8_begin_70 rfl ?_
    refine wp_iald (pc' := 72) (N := 52) (by omega) rfl rfl (by first | exact vp_in_nI (by omega) (by omega) | assumption | (unfold vp_in; decide)) dX8_begin_71 rfl ?_
    rw [nI_clamp (by omega), e0 94 (by decide)]
    refine wp_iast (pc' := 73) (N := 52) (by omega) rfl rfl (by first | exact vp_in_nI (by omega) (by omega) | assumption | (unfold vp_in; decide)) dX8_begin_72 rfl ?_
    rw [nI_clamp (by omega)]
    refine wp_iinc_1 (pc' := 76) (v := nI (i + 1)) dX8_begin_73 (by first | rfl | exact nI_1 _) (by decide) rfl rfl ?_
    refine wp_goto (tgt := 55) dX8_begin_76 rfl ?_
    refine ih (i + 1) (by omega) _ (fun a ha => by rw [hup_cell ha]; exact e0 a ha) (fun k hk => ?_)
    by_cases e : k = i
    · subst e; rw [hup_at]
    · rw [hup_off e]; exact e1 k (by omega)
theorem c_X8_begin {len : Nat} {tx : Nat → Nat} {s : PSt} (bf kp : Nat → Nat → Nat) (hn : 105 ≤ n) (T : TM h len tx) (rs : RSm h s) (ps : PSok s) : Ctr l D cy B yX8_begin wsX8_begin rmX8_begin 0 0 n (rf0 π) h lg [.ref (B + 89)] (qV (fun h' => MI h' ((len, tx), (s.1, s.2.1), (s.2.2.2.1, s.2.2.2.2), (0, bf), (0, kp)) ∧ ∀ a, a < 89 → h' a = h a) (rf0 π) lg) := by
  obtain ⟨r1, r2, r3, r4, r5⟩ := id rs
  obtain ⟨p1, p2, p3⟩ := id ps
  refine Ctr.of (cc := cX8_begin) (nL := 2) (own := RX8) (rt := none) (ls := [some (.ref (B + 89)), none]) (by decide) rfl rfl (Nat.le_of_ble_eq_true rfl) rfl ?_
  refine wp_aload_n_0 (pc' := 1) dX8_begin_0 rfl ?_
  refine wp_get_8_2 (pc' := 4) (by omega) rfl rfl me_X8_begin_3 ic_X8_begin_8 dX8_begin_1 rfl ?_
  refine wp_iconst (pc' := 5) (0) dX8_begin_4 rfl (by decide) ?_
  refine wp_aload_n_0 (pc' := 6) dX8_begin_5 rfl ?_
  refine wp_get_8_2 (pc' := 9) (by omega) rfl rfl me_X8_begin_3 ic_X8_begin_8 dX8_begin_6 rfl ?_
  refine wp_iconst (pc' := 10) (2) dX8_begin_9 rfl (by decide) ?_
  refine wp_iald (pc' := 11) (N := 4) (by omega) rfl rfl (by first | exact vp_in_nI (by omega) (by omega) | assumption | (unfold vp_in; decide)) dX8_begin_10 rfl ?_
  rw [show (2 : Int32).toNatClampNeg = 2 from rfl, r1]
  refine wp_iast (pc' := 12) (N := 4) (by omega) rfl rfl (by first | exact vp_in_nI (by omega) (by omega) | assumption | (unfold vp_in; decide)) dX8_begin_11 rfl ?_
  rw [show (0 : Int32).toNatClampNeg = 0 from rfl]
  refine wp_aload_n_0 (pc' := 13) dX8_begin_12 rfl ?_
  refine wp_get_8_2 (pc' := 16) (by omega) rfl rfl me_X8_begin_3 ic_X8_begin_8 dX8_begin_13 rfl ?_
  refine wp_iconst (pc' := 17) (1) dX8_begin_16 rfl (by decide) ?_
  refine wp_aload_n_0 (pc' := 18) dX8_begin_17 rfl ?_
  refine wp_get_8_2 (pc' := 21) (by omega) rfl rfl me_X8_begin_3 ic_X8_begin_8 dX8_begin_18 rfl ?_
  refine wp_iconst (pc' := 22) (3) dX8_begin_21 rfl (by decide) ?_
  refine wp_iald (pc' := 23) (N := 4) (by omega) rfl rfl (by first | exact vp_in_nI (by omega) (by omega) | assumption | (unfold vp_in; decide)) dX8_begin_22 rfl ?_
  rw [show (3 : Int32).toNatClampNeg = 3 from rfl, hup_off (by decide), r2]
  refine wp_iast (pc' := 24) (N := 4) (by omega) rfl rfl (by first | exact vp_in_nI (by omega) (by omega) | assumption | (unfold vp_in; decide)) dX8_begin_23 rfl ?_
  rw [show (1 : Int32).toNatClampNeg = 1 from rfl]
  refine wp_iconst (pc' := 25) (0) dX8_begin_24 rfl (by decide) ?_
  refine wp_istore_n_1 (pc' := 26) dX8_begin_25 (by decide) rfl rfl ?_
  refine lp1_X8_begin hn (hup (hup h 91 0 (nI s.1)) 91 1 (nI s.2.1)) (fun h1 a1 e0 e1 => ?_) 6 0 (by omega) _ (fun _ _ => rfl) (fun m hm => by omega) (fun _ _ => rfl)
  refine wp_iconst (pc' := 54) (0) dX8_begin_53 rfl (by decide) ?_
  refine wp_istore_n_1 (pc' := 55) dX8_begin_54 (by decide) rfl rfl ?_
  refine lp2_X8_begin hn h1 (fun h2 a2 f0 f1 => ?_) 52 0 (by omega) h1 (fun _ _ => rfl) (fun m hm => by omega)
  refine wp_aload_n_0 (pc' := 80) dX8_begin_79 rfl ?_
  refine wp_iconst (pc' := 81) (0) dX8_begin_80 rfl (by decide) ?_
  refine wp_put_8_7 (pc' := 84) (by omega) rfl me_X8_begin_4 ic_X8_begin_8 dX8_begin_81 rfl ?_
  refine wp_aload_n_0 (pc' := 85) dX8_begin_84 rfl ?_
  refine wp_iconst (pc' := 86) (0) dX8_begin_85 rfl (by decide) ?_
  refine wp_put_8_9 (pc' := 89) (by omega) rfl me_X8_begin_5 ic_X8_begin_8 dX8_begin_86 rfl ?_
  refine wp_return dX8_begin_89 rfl rfl (Nat.le_refl _) (Nat.le_refl _) ?_
  have c0 : ∀ a, a ≠ 89 → a ≠ 91 → a ≠ 92 → a ≠ 93 → hup (hup h2 89 7 0) 89 9 0 a = h a := fun a z1 z2 z3 z4 => by rw [hup_cell z1, hup_cell z1, f0 a z4, e0 a z3, hup_cell z2, hup_cell z2]
  refine qV_of ⟨⟨T.of ?_ (c0 90 (by decide) (by decide) (by decide) (by decide)), ⟨p1, ?_, ?_⟩, fun m hm => ⟨?_, p3 m hm⟩, p2, fun k hk => ?_, ⟨?_, by show 0 ≤ 8; omega, fun i hi => absurd hi (Nat.not_lt_zero i), fun i hi => absurd hi (Nat.not_lt_zero i)⟩, ⟨?_, by show 0 ≤ 2; omega, fun i hi => absurd hi (Nat.not_lt_zero i), fun i hi => absurd hi (Nat.not_lt_zero i)⟩⟩, fun a ha => c0 a (by omega) (by omega) (by omega) (by omega)⟩
  · rw [hup_off (by decide), hup_off (by decide), f0 89 (by decide), e0 89 (by decide), hup_cell (by decide), hup_cell (by decide)]
  · rw [hup_cell (by decide), hup_cell (by decide), f0 91 (by decide), e0 91 (by decide), hup_off (by decide), hup_at]
  · rw [hup_cell (by decide), hup_cell (by decide), f0 91 (by decide), e0 91 (by decide), hup_at]
  · rw [hup_cell (by decide), hup_cell (by decide), f0 92 (by decide), e1 m hm, hup_cell (by decide), hup_cell (by decide)]; exact r4 m hm
  · rw [hup_cell (by decide), hup_cell (by decide), f1 k hk, e0 94 (by decide), hup_cell (by decide), hup_cell (by decide)]; exact r5 k hk
  · rw [hup_off (by decide), hup_at]; rfl
  · rw [hup_at]; rfl
theorem c_X8_lay (hn : 105 ≤ n) (X : MI h σ) : Ctr l D cy B yX8_lay wsX8_lay rmX8_lay 0 0 n (rf0 π) h lg [.ref (B + 89)] (ZQ π h (aLay σ) (sLay σ)) := by
  obtain ⟨T, q, hm, ok, nr, xp, xk⟩ := id X
  cases e : layO σ.len σ.tx with
  | none =>
    rw [show aLay σ = -2 by simp only [aLay, e], show sLay σ = σ by simp only [sLay, e]]
    refine Ctr.of (cc := cX8_lay) (nL := 1) (own := RX8) (rt := (some .int)) (ls := [some (.ref (B + 89))]) (by decide) rfl rfl (Nat.le_of_ble_eq_true rfl) rfl ?_
    refine wp_aload_n_0 (pc' := 1) dX8_lay_0 rfl ?_
    refine wp_callVq (pc' := 4) (c_X8_readAll hn T) gX8_lay_X8_readAll rfl rfl hy_X8_readAll ⟨Nat.le_of_ble_eq_true rfl, Nat.le_of_ble_eq_true rfl⟩ ⟨rfl, rfl⟩ (Nat.le_of_ble_eq_true rfl) ⟨Nat.le_of_ble_eq_true rfl, Nat.le_of_ble_eq_true rfl⟩ (by omega) (ce8 rfl) rfl rfl dX8_lay_1 rfl (fun x1 h1 q1 => ?_)
    obtain ⟨g0, g1, g2⟩ := q1
    refine wp_bipush (pc' := 6) (-4) dX8_lay_4 rfl (by decide) ?_
    refine wp_icmp_ne (pc' := 9) (tgt := 19) dX8_lay_6 rfl rfl (fun c6 => ?_) (fun c6 => ?_)
    · skip -- 6 taken
      refine wp_bipush (pc' := 21) (-2) dX8_lay_19 rfl (by decide) ?_
      refine wp_ireturn dX8_lay_21 rfl rfl (Nat.le_refl _) (Nat.le_refl _) ?_
      exact ZQ.of rfl (X.rf g1) (fun k hk => g1.1 k (Or.inl hk))
    · skip -- 6 not taken
      obtain ⟨rs, ps⟩ := g2 c6
      refine wp_aload_n_0 (pc' := 10) dX8_lay_9 rfl ?_
      refine wp_get_8_5 (pc' := 13) (by omega) rfl rfl me_X8_lay_0 ic_X8_lay_8 dX8_lay_10 rfl ?_
      refine wp_bipush (pc' := 15) (16) dX8_lay_13 rfl (by decide) ?_
      refine wp_iald (pc' := 16) (N := 52) (by omega) rfl rfl (by first | exact vp_in_nI (by omega) (by omega) | assumption | (unfold vp_in; decide)) dX8_lay_15 rfl ?_
      rw [show (16 : Int32).toNatClampNeg = 16 from rfl, rs.2.2.2.2 16 (by omega)]
      refine wp_if_ne (pc' := 19) (tgt := 22) dX8_lay_16 rfl rfl (fun c16 => by exfalso; have z : (prs σ.len σ.tx 200 0 ps0).2.2.2.2.2 16 ≠ 0 := fun z => c16 (by rw [z]; rfl); unfold layO at e; rw [if_pos ⟨by rw [← g0]; exact c6, z⟩] at e; cases e) (fun c16 => ?_)
      refine wp_bipush (pc' := 21) (-2) dX8_lay_19 rfl (by decide) ?_
      refine wp_ireturn dX8_lay_21 rfl rfl (Nat.le_refl _) (Nat.le_refl _) ?_
      exact ZQ.of rfl (X.rf g1) (fun k hk => g1.1 k (Or.inl hk))
  | some s =>
    rw [show aLay σ = nI (s.1 * s.2.1) by simp only [aLay, e], show sLay σ = (σ.1, (s.1, s.2.1), (s.2.2.2.1, s.2.2.2.2), (0, σ.bf), (0, σ.kp)) by simp only [sLay, e]]
    obtain ⟨f1, f2, f3⟩ : (prs σ.len σ.tx 200 0 ps0).1 = -4 ∧ (prs σ.len σ.tx 200 0 ps0).2 = s ∧ s.2.2.2.2 16 ≠ 0 := by
      unfold layO at e
      split at e
      · rename_i z; cases e; exact ⟨z.1, rfl, z.2⟩
      · cases e
    refine Ctr.of (cc := cX8_lay) (nL := 1) (own := RX8) (rt := (some .int)) (ls := [some (.ref (B + 89))]) (by decide) rfl rfl (Nat.le_of_ble_eq_true rfl) rfl ?_
    refine wp_aload_n_0 (pc' := 1) dX8_lay_0 rfl ?_
    refine wp_callVq (pc' := 4) (c_X8_readAll hn T) gX8_lay_X8_readAll rfl rfl hy_X8_readAll ⟨Nat.le_of_ble_eq_true rfl, Nat.le_of_ble_eq_true rfl⟩ ⟨rfl, rfl⟩ (Nat.le_of_ble_eq_true rfl) ⟨Nat.le_of_ble_eq_true rfl, Nat.le_of_ble_eq_true rfl⟩ (by omega) (ce8 rfl) rfl rfl dX8_lay_1 rfl (fun x1 h1 q1 => ?_)
    obtain ⟨g0, g1, g2⟩ := q1
    rw [f1] at g0
    rw [f2] at g2
    subst g0
    obtain ⟨rs, ps⟩ := g2 rfl
    refine wp_bipush (pc' := 6) (-4) dX8_lay_4 rfl (by decide) ?_
    refine wp_icmp_ne (pc' := 9) (tgt := 19) dX8_lay_6 rfl rfl (fun c6 => by exfalso; exact c6 rfl) (fun c6 => ?_)
    refine wp_aload_n_0 (pc' := 10) dX8_lay_9 rfl ?_
    refine wp_get_8_5 (pc' := 13) (by omega) rfl rfl me_X8_lay_0 ic_X8_lay_8 dX8_lay_10 rfl ?_
    refine wp_bipush (pc' := 15) (16) dX8_lay_13 rfl (by decide) ?_
    refine wp_iald (pc' := 16) (N := 52) (by omega) rfl rfl (by first | exact vp_in_nI (by omega) (by omega) | assumption | (unfold vp_in; decide)) dX8_lay_15 rfl ?_
    rw [show (16 : Int32).toNatClampNeg = 16 from rfl, rs.2.2.2.2 16 (by omega)]
    refine wp_if_ne (pc' := 19) (tgt := 22) dX8_lay_16 rfl rfl (fun c16 => ?_) (fun c16 => by exfalso; exact nI_ne0 (by omega) (by have := ps.2.1.2.1; omega) c16)
    refine wp_aload_n_0 (pc' := 23) dX8_lay_22 rfl ?_
    refine wp_callVv (pc' := 26) (c_X8_begin σ.bf σ.kp hn (g1.tm T) rs ps) gX8_lay_X8_begin rfl rfl hy_X8_begin ⟨Nat.le_of_ble_eq_true rfl, Nat.le_of_ble_eq_true rfl⟩ ⟨rfl, rfl⟩ (Nat.le_of_ble_eq_true rfl) ⟨Nat.le_of_ble_eq_true rfl, Nat.le_of_ble_eq_true rfl⟩ (by omega) (ce8 rfl) rfl rfl dX8_lay_23 rfl (fun h23 q23 => ?_)
    refine wp_aload_n_0 (pc' := 27) dX8_lay_26 rfl ?_
    refine wp_callVu (pc' := 30) (c_X8_places hn q23.1.2.1) gX8_lay_X8_places rfl rfl hy_X8_places ⟨Nat.le_of_ble_eq_true rfl, Nat.le_of_ble_eq_true rfl⟩ ⟨rfl, rfl⟩ (Nat.le_of_ble_eq_true rfl) ⟨Nat.le_of_ble_eq_true rfl, Nat.le_of_ble_eq_true rfl⟩ (by omega) (ce8 rfl) rfl rfl dX8_lay_27 rfl ?_
    refine wp_ireturn dX8_lay_30 rfl rfl (Nat.le_refl _) (Nat.le_refl _) ?_
    exact ZQ.of rfl q23.1 (fun k hk => by rw [q23.2 k hk]; exact g1.1 k (Or.inl hk))
theorem lp_X8_tell {v : Nat} {κ : Int32} {post : PO} (hn : 105 ≤ n) (h1 : 11 ≤ v) (h2 : v ≤ 66666)
    (K1 : fgB v = true → ∀ a4, WP l D cy B cX8_tell 5 RX8 wsX8_tell rmX8_tell (some .int) (QE0 D cy B n 0 0 (post)) EX0 n (rf0 π) h lg 0 0 68 [some (.ref (B + 89)), some (.int κ), some (.int (nI v)), some (.int 1), a4] [])
    (K0 : fgB v = false → ∀ a4, WP l D cy B cX8_tell 5 RX8 wsX8_tell rmX8_tell (some .int) (QE0 D cy B n 0 0 (post)) EX0 n (rf0 π) h lg 0 0 68 [some (.ref (B + 89)), some (.int κ), some (.int (nI v)), some (.int 0), a4] []) :
    ∀ d i : Nat, i + d = 5 → (∀ j, j < i → 1 ≤ v / 10 ^ j % 10 ∧ v / 10 ^ j % 10 ≤ 6) → WP l D cy B cX8_tell 5 RX8 wsX8_tell rmX8_tell (some .int) (QE0 D cy B n 0 0 (post)) EX0 n (rf0 π) h lg 0 0 35 [some (.ref (B + 89)), some (.int κ), some (.int (nI v)), some (.int 1), some (.int (nI (v / 10 ^ i)))] [] := by
  have stop : ∀ i, i ≤ 5 → (∀ j, j < i → 1 ≤ v / 10 ^ j % 10 ∧ v / 10 ^ j % 10 ≤ 6) → v / 10 ^ i = 0 → fgB v = true := by
    intro i hi hall z
    refine fgB_iff.mpr (fun j hj hv => ?_)
    by_cases e : j < i
    · exact hall j e
    · exfalso
      have a1 := p10_b i (by omega)
      have a2 : v < 10 ^ i := by
        rcases Nat.div_eq_zero_iff.mp z with a | a
        · omega
        · exact a
      have a3 : 10 ^ i ≤ 10 ^ j := Nat.pow_le_pow_right (by decide) (by omega)
      omega
  intro d
  induction d with
  | zero =>
    intro i hi hall
    have : i = 5 := by omega
    subst this
    have z : v / 10 ^ 5 = 0 := by omega
    rw [z]
    refine wp_iload_4 (pc' := 37) dX8_tell_35 rfl ?_
    refine wp_if_le (pc' := 40) (tgt := 68) dX8_tell_37 rfl rfl (fun c37 => ?_) (fun c37 => by exfalso; exact c37 (by decide))
    exact K1 (stop 5 (by omega) hall z) _
  | succ d ih =>
    intro i hi hall
    have dl := Nat.div_le_self v (10 ^ i)
    by_cases z : v / 10 ^ i = 0
    · rw [z]
      refine wp_iload_4 (pc' := 37) dX8_tell_35 rfl ?_
      refine wp_if_le (pc' := 40) (tgt := 68) dX8_tell_37 rfl rfl (fun c37 => ?_) (fun c37 => by exfalso; exact c37 (by decide))
      exact K1 (stop i (by omega) hall z) _
    · have e1 : v / 10 ^ i / 10 = v / 10 ^ (i + 1) := by rw [Nat.div_div_eq_div_mul, ← Nat.pow_succ]
      have hm := Nat.mod_lt (v / 10 ^ i) (show 0 < 10 by decide)
      generalize hc : v / 10 ^ i = c at *
      refine wp_iload_4 (pc' := 37) dX8_tell_35 rfl ?_
      refine wp_if_le (pc' := 40) (tgt := 68) dX8_tell_37 rfl rfl (fun c37 => by exfalso; (simp (disch := omega) only [Int32.lt_iff_toInt_lt, Int32.le_iff_toInt_le, ← Int32.toInt_inj, nI_toInt, il_0, il_1, il_2, il_3, il_4, il_5, il_6, il_8, il_9, il_10, il_16, il_26, il_32, il_40, il_n4, il_n1, il_n2, il_11, il_48, il_57, il_59, il_44, il_126, il_200, il_9999, il_66666, il_10000, il_1000000, il_15, il_12, il_256, il_4096, il_53, il_52] at c37; omega)) (fun c37 => ?_)
      refine wp_iload_n_3 (pc' := 41) dX8_tell_40 rfl ?_
      refine wp_if_eq (pc' := 44) (tgt := 68) dX8_tell_41 rfl rfl (fun c41 => by exfalso; exact absurd c41 (by decide)) (fun c41 => ?_)
      refine wp_iload_4 (pc' := 46) dX8_tell_44 rfl ?_
      refine wp_bipush (pc' := 48) (10) dX8_tell_46 rfl (by decide) ?_
      refine wp_irem (pc' := 49) dX8_tell_48 rfl (by decide) ?_
      rw [show nI c - nI c / 10 * 10 = nI (c % 10) from pk_rem (d := 10) (by omega) (by omega) (by omega)]
      refine wp_i2l (pc' := 50) dX8_tell_49 rfl ?_
      refine wp_lconst (pc' := 51) (1) dX8_tell_50 rfl (by decide) ?_
      refine wp_ldc2 (pc' := 54) (v := (6)) me_X8_tell_0 dX8_tell_51 rfl ?_
      refine wp_callSu (pc' := 57) (c_in_rg (nI (c % 10)) (lo := 1) (hi := 6) (by omega) (by omega)) gX8_tell_X8_in rfl rfl hz_X8_in ⟨Nat.le_of_ble_eq_true rfl, Nat.le_of_ble_eq_true rfl⟩ ⟨rfl, rfl⟩ (Nat.le_of_ble_eq_true rfl) ⟨Nat.le_of_ble_eq_true rfl, Nat.le_of_ble_eq_true rfl⟩ rfl dX8_tell_54 rfl ?_
      rw [rg_nI (by omega)]
      refine wp_istore_n_3 (pc' := 58) dX8_tell_57 (by decide) rfl rfl ?_
      refine wp_iload_4 (pc' := 60) dX8_tell_58 rfl ?_
      refine wp_bipush (pc' := 62) (10) dX8_tell_60 rfl (by decide) ?_
      refine wp_idiv (pc' := 63) dX8_tell_62 rfl (by decide) ?_
      rw [show nI c / 10 = nI (c / 10) from pk_div (d := 10) (by omega) (by omega) (by omega), e1]
      refine wp_istore_4 (pc' := 65) dX8_tell_63 (by decide) rfl rfl ?_
      refine wp_goto (tgt := 35) dX8_tell_65 rfl ?_
      skip
      by_cases g : 1 ≤ c % 10 ∧ c % 10 ≤ 6
      · rw [if_pos g]
        refine ih (i + 1) (by omega) (fun j hj => ?_)
        by_cases e : j = i
        · subst e; rw [hc]; exact g
        · exact hall j (by omega)
      · rw [if_neg g]
        have hf : fgB v = false := by
          rw [Bool.eq_false_iff]
          intro q
          have a1 := p10_b i (by omega)
          have q2 := fgB_iff.mp q i (by omega) (by
            apply Classical.byContradiction
            intro w
            exact z (by rw [← hc]; exact Nat.div_eq_of_lt (by omega)))
          rw [hc] at q2
          exact g q2
        refine wp_iload_4 (pc' := 37) dX8_tell_35 rfl ?_
        refine wp_if_le (pc' := 40) (tgt := 68) dX8_tell_37 rfl rfl (fun c37 => ?_) (fun c37 => ?_)
        · skip -- 37 taken
          exact K0 hf _
        · skip -- 37 not taken
          refine wp_iload_n_3 (pc' := 41) dX8_tell_40 rfl ?_
          refine wp_if_eq (pc' := 44) (tgt := 68) dX8_tell_41 rfl rfl (fun c41 => ?_) (fun c41 => by exfalso; exact absurd rfl c41)
          exact K0 hf _
theorem tell_Fg {v : Nat} (h1 : 11 ≤ v) (h2 : v ≤ 66666) (hf : fgB v = true) : Fg v (ndg v) := by
  have nb := ndg_b (v := v)
  refine ⟨by omega, by omega, ?_, fun j hj => (fgB_iff.mp hf j (by omega) ((ndg_iff h1 h2 (by omega)).mpr hj)).1⟩
  unfold ndg
  split <;> (try split) <;> (try split) <;> omega
theorem c_X8_tell (hn : 105 ≤ n) (X : MI h σ) (κ m : Int32) : Ctr l D cy B yX8_tell wsX8_tell rmX8_tell 0 0 n (rf0 π) h lg [.ref (B + 89), .int κ, .int m] (ZQ π h (aTell σ κ m) (sTell σ κ m)) := by
  obtain ⟨T, q, hm, ok, nr, xp, xk⟩ := id X
  have h5 := ok.2.1
  have bad : (ix κ 4).isSome = false ∨ (rg m 11 66666).isSome = false → aTell σ κ m = -1 ∧ sTell σ κ m = σ := by
    intro hb
    unfold aTell sTell
    cases e : ix κ 4 <;> cases e2 : rg m 11 66666 <;> first | exact ⟨rfl, rfl⟩ | (rw [e, e2] at hb; rcases hb with z | z <;> cases z)
  by_cases b : (ix κ 4).isSome = true ∧ (rg m 11 66666).isSome = true
  · obtain ⟨a, e⟩ := Option.isSome_iff_exists.mp b.1
    obtain ⟨v, e3⟩ := Option.isSome_iff_exists.mp b.2
    obtain ⟨rfl, z1⟩ := ix_some e
    obtain ⟨rfl, z2, z3⟩ := rg_some e3
    have nb := ndg_b (v := v)
    refine Ctr.of (cc := cX8_tell) (nL := 5) (own := RX8) (rt := (some .int)) (ls := [some (.ref (B + 89)), some (.int (nI a)), some (.int (nI v)), none, none]) (by decide) rfl rfl (Nat.le_of_ble_eq_true rfl) rfl ?_
    refine wp_iload_n_1 (pc' := 1) dX8_tell_0 rfl ?_
    refine wp_i2l (pc' := 2) dX8_tell_1 rfl ?_
    refine wp_lconst (pc' := 3) (0) dX8_tell_2 rfl (by decide) ?_
    refine wp_ldc2 (pc' := 6) (v := (3)) me_X8_tell_1 dX8_tell_3 rfl ?_
    refine wp_callSu (pc' := 9) (c_in_rg (nI a) (lo := 0) (hi := 3) (by omega) (by omega)) gX8_tell_X8_in rfl rfl hz_X8_in ⟨Nat.le_of_ble_eq_true rfl, Nat.le_of_ble_eq_true rfl⟩ ⟨rfl, rfl⟩ (Nat.le_of_ble_eq_true rfl) ⟨Nat.le_of_ble_eq_true rfl, Nat.le_of_ble_eq_true rfl⟩ rfl dX8_tell_6 rfl ?_
    rw [rg_ix, e]
    refine wp_if_eq (pc' := 12) (tgt := 30) dX8_tell_9 rfl rfl (fun c9 => by exfalso; exact absurd c9 bS) (fun c9 => ?_)
    refine wp_iload_n_2 (pc' := 13) dX8_tell_12 rfl ?_
    refine wp_i2l (pc' := 14) dX8_tell_13 rfl ?_
    refine wp_ldc2 (pc' := 17) (v := (11)) me_X8_tell_2 dX8_tell_14 rfl ?_
    refine wp_ldc2 (pc' := 20) (v := (66666)) me_X8_tell_3 dX8_tell_17 rfl ?_
    refine wp_callSu (pc' := 23) (c_in_rg (nI v) (lo := 11) (hi := 66666) (by omega) (by omega)) gX8_tell_X8_in rfl rfl hz_X8_in ⟨Nat.le_of_ble_eq_true rfl, Nat.le_of_ble_eq_true rfl⟩ ⟨rfl, rfl⟩ (Nat.le_of_ble_eq_true rfl) ⟨Nat.le_of_ble_eq_true rfl, Nat.le_of_ble_eq_true rfl⟩ rfl dX8_tell_20 rfl ?_
    rw [e3]
    refine wp_if_eq (pc' := 26) (tgt := 30) dX8_tell_23 rfl rfl (fun c23 => by exfalso; exact absurd c23 bS) (fun c23 => ?_)
    refine wp_iconst (pc' := 27) (1) dX8_tell_26 rfl (by decide) ?_
    refine wp_goto (tgt := 31) dX8_tell_27 rfl ?_
    refine wp_istore_n_3 (pc' := 32) dX8_tell_31 (by decide) rfl rfl ?_
    refine wp_iload_n_2 (pc' := 33) dX8_tell_32 rfl ?_
    refine wp_istore_4 (pc' := 35) dX8_tell_33 (by decide) rfl rfl ?_
    skip
    have e0 : nI v = nI (v / 10 ^ 0) := by rw [Nat.pow_zero, Nat.div_one]
    have L := lp_X8_tell (l := l) (D := D) (cy := cy) (B := B) (n := n) (h := h) (lg := lg) (π := π) (v := v) (κ := nI a) (post := ZQ π h (aTell σ (nI a) (nI v)) (sTell σ (nI a) (nI v))) hn z2 z3 (fun hf a4 => ?_) (fun hf a4 => ?_) 5 0 (by omega) (fun j hj => by omega)
    · rw [← e0] at L; exact L
    · by_cases z : σ.ρ 16 < 5
      · rw [show aTell σ (nI a) (nI v) = nI (σ.ρ 16 + 1) by simp only [aTell, e, e3, hf, z, if_true], show sTell σ (nI a) (nI v) = σ.note.now (addW σ.ρ a (ndg v) (tg v)) by simp only [sTell, e, e3, hf, z, if_true]]
        refine wp_iload_n_3 (pc' := 69) dX8_tell_68 rfl ?_
        refine wp_if_ne (pc' := 72) (tgt := 74) dX8_tell_69 rfl rfl (fun c69 => ?_) (fun c69 => by exfalso; exact absurd c69 (by decide))
        refine wp_aload_n_0 (pc' := 75) dX8_tell_74 rfl ?_
        refine wp_get_8_4 (pc' := 78) (by omega) rfl rfl me_X8_tell_4 ic_X8_tell_8 dX8_tell_75 rfl ?_
        refine wp_bipush (pc' := 80) (16) dX8_tell_78 rfl (by decide) ?_
        refine wp_iald (pc' := 81) (N := 52) (by omega) rfl rfl (by first | exact vp_in_nI (by omega) (by omega) | assumption | (unfold vp_in; decide)) dX8_tell_80 rfl ?_
        rw [show (16 : Int32).toNatClampNeg = 16 from rfl, nr 16 (by omega)]
        refine wp_iconst (pc' := 82) (5) dX8_tell_81 rfl (by decide) ?_
        refine wp_icmp_ne (pc' := 85) (tgt := 88) dX8_tell_82 rfl rfl (fun c82 => ?_) (fun c82 => by exfalso; have zz := (nI_eq (by omega) (by omega)).mp (show nI (σ.ρ 16) = nI 5 from c82); omega)
        refine wp_aload_n_0 (pc' := 89) dX8_tell_88 rfl ?_
        refine wp_callVv (pc' := 92) (c_X8_note hn X) gX8_tell_X8_note rfl rfl hy_X8_note ⟨Nat.le_of_ble_eq_true rfl, Nat.le_of_ble_eq_true rfl⟩ ⟨rfl, rfl⟩ (Nat.le_of_ble_eq_true rfl) ⟨Nat.le_of_ble_eq_true rfl, Nat.le_of_ble_eq_true rfl⟩ (by omega) (ce8 rfl) rfl rfl dX8_tell_89 rfl (fun h89 q89 => ?_)
        obtain ⟨g0, g1⟩ := q89
        refine wp_aload_n_0 (pc' := 93) dX8_tell_92 rfl ?_
        refine wp_get_8_4 (pc' := 96) (by omega) rfl rfl me_X8_tell_4 ic_X8_tell_8 dX8_tell_93 rfl ?_
        refine wp_iload_n_1 (pc' := 97) dX8_tell_96 rfl ?_
        refine wp_iload_n_2 (pc' := 98) dX8_tell_97 rfl ?_
        refine wp_callSv (pc' := 101) (c_X8_addWalk (v := v) (m := ndg v) (κ := a) (c := 93) (ρ := σ.ρ) hn (Or.inl rfl) (tell_Fg z2 z3 hf) z g0.2.2.2.2.1) gX8_tell_X8_addWalk rfl rfl hz_X8_addWalk ⟨Nat.le_of_ble_eq_true rfl, Nat.le_of_ble_eq_true rfl⟩ ⟨rfl, rfl⟩ (Nat.le_of_ble_eq_true rfl) ⟨Nat.le_of_ble_eq_true rfl, Nat.le_of_ble_eq_true rfl⟩ rfl dX8_tell_98 rfl (fun h98 q98 => ?_)
        obtain ⟨g2, g3⟩ := q98
        refine wp_aload_n_0 (pc' := 102) dX8_tell_101 rfl ?_
        refine wp_get_8_4 (pc' := 105) (by omega) rfl rfl me_X8_tell_4 ic_X8_tell_8 dX8_tell_102 rfl ?_
        refine wp_bipush (pc' := 107) (16) dX8_tell_105 rfl (by decide) ?_
        refine wp_iald (pc' := 108) (N := 52) (by omega) rfl rfl (by first | exact vp_in_nI (by omega) (by omega) | assumption | (unfold vp_in; decide)) dX8_tell_107 rfl ?_
        rw [show (16 : Int32).toNatClampNeg = 16 from rfl, g3 16 (by omega), addW_16]
        refine wp_ireturn dX8_tell_108 rfl rfl (Nat.le_refl _) (Nat.le_refl _) ?_
        exact ZQ.of rfl (g0.toNow (rowOK_addW ok z (by omega) nb.1 nb.2 (fun j hj => tg_le z2 z3 hf hj)) g3 (MG.of g2)) (fun k hk => by rw [g2 k (by omega)]; exact g1 k hk)
      · rw [show aTell σ (nI a) (nI v) = -3 by simp only [aTell, e, e3, hf, z, if_true, if_false], show sTell σ (nI a) (nI v) = σ by simp only [sTell, e, e3, hf, z, if_true, if_false]]
        refine wp_iload_n_3 (pc' := 69) dX8_tell_68 rfl ?_
        refine wp_if_ne (pc' := 72) (tgt := 74) dX8_tell_69 rfl rfl (fun c69 => ?_) (fun c69 => by exfalso; exact absurd c69 (by decide))
        refine wp_aload_n_0 (pc' := 75) dX8_tell_74 rfl ?_
        refine wp_get_8_4 (pc' := 78) (by omega) rfl rfl me_X8_tell_4 ic_X8_tell_8 dX8_tell_75 rfl ?_
        refine wp_bipush (pc' := 80) (16) dX8_tell_78 rfl (by decide) ?_
        refine wp_iald (pc' := 81) (N := 52) (by omega) rfl rfl (by first | exact vp_in_nI (by omega) (by omega) | assumption | (unfold vp_in; decide)) dX8_tell_80 rfl ?_
        rw [show (16 : Int32).toNatClampNeg = 16 from rfl, nr 16 (by omega), show σ.ρ 16 = 5 by omega]
        refine wp_iconst (pc' := 82) (5) dX8_tell_81 rfl (by decide) ?_
        refine wp_icmp_ne (pc' := 85) (tgt := 88) dX8_tell_82 rfl rfl (fun c82 => by exfalso; exact c82 rfl) (fun c82 => ?_)
        refine wp_bipush (pc' := 87) (-3) dX8_tell_85 rfl (by decide) ?_
        refine wp_ireturn dX8_tell_87 rfl rfl (Nat.le_refl _) (Nat.le_refl _) ?_
        exact ZQ.id rfl X
    · rw [show aTell σ (nI a) (nI v) = -1 by simp only [aTell, e, e3, hf, Bool.false_eq_true, if_false], show sTell σ (nI a) (nI v) = σ by simp only [sTell, e, e3, hf, Bool.false_eq_true, if_false]]
      refine wp_iload_n_3 (pc' := 69) dX8_tell_68 rfl ?_
      refine wp_if_ne (pc' := 72) (tgt := 74) dX8_tell_69 rfl rfl (fun c69 => by exfalso; exact c69 rfl) (fun c69 => ?_)
      refine wp_iconst (pc' := 73) (-1) dX8_tell_72 rfl (by decide) ?_
      refine wp_ireturn dX8_tell_73 rfl rfl (Nat.le_refl _) (Nat.le_refl _) ?_
      exact ZQ.id rfl X
  · have b' : (ix κ 4).isSome = false ∨ (rg m 11 66666).isSome = false := by
      cases e1 : (ix κ 4).isSome
      · exact Or.inl rfl
      · cases e2 : (rg m 11 66666).isSome
        · exact Or.inr rfl
        · exact absurd ⟨e1, e2⟩ b
    obtain ⟨b1, b2⟩ := bad b'
    rw [b1, b2]
    refine Ctr.of (cc := cX8_tell) (nL := 5) (own := RX8) (rt := (some .int)) (ls := [some (.ref (B + 89)), some (.int κ), some (.int m), none, none]) (by decide) rfl rfl (Nat.le_of_ble_eq_true rfl) rfl ?_
    refine wp_iload_n_1 (pc' := 1) dX8_tell_0 rfl ?_
    refine wp_i2l (pc' := 2) dX8_tell_1 rfl ?_
    refine wp_lconst (pc' := 3) (0) dX8_tell_2 rfl (by decide) ?_
    refine wp_ldc2 (pc' := 6) (v := (3)) me_X8_tell_1 dX8_tell_3 rfl ?_
    refine wp_callSu (pc' := 9) (c_in_rg κ (lo := 0) (hi := 3) (by omega) (by omega)) gX8_tell_X8_in rfl rfl hz_X8_in ⟨Nat.le_of_ble_eq_true rfl, Nat.le_of_ble_eq_true rfl⟩ ⟨rfl, rfl⟩ (Nat.le_of_ble_eq_true rfl) ⟨Nat.le_of_ble_eq_true rfl, Nat.le_of_ble_eq_true rfl⟩ rfl dX8_tell_6 rfl ?_
    rw [rg_ix]
    refine wp_if_eq (pc' := 12) (tgt := 30) dX8_tell_9 rfl rfl (fun c9 => ?_) (fun c9 => ?_)
    · skip -- 9 taken
      refine wp_iconst (pc' := 31) (0) dX8_tell_30 rfl (by decide) ?_
      refine wp_istore_n_3 (pc' := 32) dX8_tell_31 (by decide) rfl rfl ?_
      refine wp_iload_n_2 (pc' := 33) dX8_tell_32 rfl ?_
      refine wp_istore_4 (pc' := 35) dX8_tell_33 (by decide) rfl rfl ?_
      refine wp_iload_4 (pc' := 37) dX8_tell_35 rfl ?_
      refine wp_if_le (pc' := 40) (tgt := 68) dX8_tell_37 rfl rfl (fun c37 => ?_) (fun c37 => ?_)
      · skip -- 37 taken
        refine wp_iload_n_3 (pc' := 69) dX8_tell_68 rfl ?_
        refine wp_if_ne (pc' := 72) (tgt := 74) dX8_tell_69 rfl rfl (fun c69 => by exfalso; exact c69 rfl) (fun c69 => ?_)
        refine wp_iconst (pc' := 73) (-1) dX8_tell_72 rfl (by decide) ?_
        refine wp_ireturn dX8_tell_73 rfl rfl (Nat.le_refl _) (Nat.le_refl _) ?_
        exact ZQ.id rfl X
      · skip -- 37 not taken
        refine wp_iload_n_3 (pc' := 41) dX8_tell_40 rfl ?_
        refine wp_if_eq (pc' := 44) (tgt := 68) dX8_tell_41 rfl rfl (fun c41 => ?_) (fun c41 => by exfalso; exact absurd rfl c41)
        refine wp_iload_n_3 (pc' := 69) dX8_tell_68 rfl ?_
        refine wp_if_ne (pc' := 72) (tgt := 74) dX8_tell_69 rfl rfl (fun c69 => by exfalso; exact c69 rfl) (fun c69 => ?_)
        refine wp_iconst (pc' := 73) (-1) dX8_tell_72 rfl (by decide) ?_
        refine wp_ireturn dX8_tell_73 rfl rfl (Nat.le_refl _) (Nat.le_refl _) ?_
        exact ZQ.id rfl X
    · skip -- 9 not taken
      refine wp_iload_n_2 (pc' := 13) dX8_tell_12 rfl ?_
      refine wp_i2l (pc' := 14) dX8_tell_13 rfl ?_
      refine wp_ldc2 (pc' := 17) (v := (11)) me_X8_tell_2 dX8_tell_14 rfl ?_
      refine wp_ldc2 (pc' := 20) (v := (66666)) me_X8_tell_3 dX8_tell_17 rfl ?_
      refine wp_callSu (pc' := 23) (c_in_rg m (lo := 11) (hi := 66666) (by omega) (by omega)) gX8_tell_X8_in rfl rfl hz_X8_in ⟨Nat.le_of_ble_eq_true rfl, Nat.le_of_ble_eq_true rfl⟩ ⟨rfl, rfl⟩ (Nat.le_of_ble_eq_true rfl) ⟨Nat.le_of_ble_eq_true rfl, Nat.le_of_ble_eq_true rfl⟩ rfl dX8_tell_20 rfl ?_
      refine wp_if_eq (pc' := 26) (tgt := 30) dX8_tell_23 rfl rfl (fun c23 => ?_) (fun c23 => by exfalso; rcases b' with z | z; rw [z] at c9; exact c9 rfl; rw [z] at c23; exact c23 rfl)
      refine wp_iconst (pc' := 31) (0) dX8_tell_30 rfl (by decide) ?_
      refine wp_istore_n_3 (pc' := 32) dX8_tell_31 (by decide) rfl rfl ?_
      refine wp_iload_n_2 (pc' := 33) dX8_tell_32 rfl ?_
      refine wp_istore_4 (pc' := 35) dX8_tell_33 (by decide) rfl rfl ?_
      refine wp_iload_4 (pc' := 37) dX8_tell_35 rfl ?_
      refine wp_if_le (pc' := 40) (tgt := 68) dX8_tell_37 rfl rfl (fun c37 => ?_) (fun c37 => ?_)
      · skip -- 37 taken
        refine wp_iload_n_3 (pc' := 69) dX8_tell_68 rfl ?_
        refine wp_if_ne (pc' := 72) (tgt := 74) dX8_tell_69 rfl rfl (fun c69 => by exfalso; exact c69 rfl) (fun c69 => ?_)
        refine wp_iconst (pc' := 73) (-1) dX8_tell_72 rfl (by decide) ?_
        refine wp_ireturn dX8_tell_73 rfl rfl (Nat.le_refl _) (Nat.le_refl _) ?_
        exact ZQ.id rfl X
      · skip -- 37 not taken
        refine wp_iload_n_3 (pc' := 41) dX8_tell_40 rfl ?_
        refine wp_if_eq (pc' := 44) (tgt := 68) dX8_tell_41 rfl rfl (fun c41 => ?_) (fun c41 => by exfalso; exact absurd rfl c41)
        refine wp_iload_n_3 (pc' := 69) dX8_tell_68 rfl ?_
        refine wp_if_ne (pc' := 72) (tgt := 74) dX8_tell_69 rfl rfl (fun c69 => by exfalso; exact c69 rfl) (fun c69 => ?_)
        refine wp_iconst (pc' := 73) (-1) dX8_tell_72 rfl (by decide) ?_
        refine wp_ireturn dX8_tell_73 rfl rfl (Nat.le_refl _) (Nat.le_refl _) ?_
        exact ZQ.id rfl X
end VMG

