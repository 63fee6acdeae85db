abbrev rmX3_clear : Room := { frames := 0, cells := 0, slots := 0, locals := 0 }
theorem hy_X3_clear : yX3_clear.cls = RX3 ∧ yX3_clear.cls ≠ "java/lang/invoke/MethodHandle" ∧ yX3_clear.cls ≠ "java/lang/invoke/VarHandle" ∧ (parseMethodDescriptor yX3_clear.desc).map (fun d => d.parameters.length) = some 0 := by decide +kernel
theorem hz_X3_clear : yX3_clear.cls ≠ "java/lang/invoke/MethodHandle" ∧ yX3_clear.cls ≠ "java/lang/invoke/VarHandle" ∧ (parseMethodDescriptor yX3_clear.desc).map (fun d => d.parameters.length) = some 0 := by decide +kernel
abbrev rmX3_put : Room := { frames := 0, cells := 0, slots := 0, locals := 0 }
theorem hy_X3_put : yX3_put.cls = RX3 ∧ yX3_put.cls ≠ "java/lang/invoke/MethodHandle" ∧ yX3_put.cls ≠ "java/lang/invoke/VarHandle" ∧ (parseMethodDescriptor yX3_put.desc).map (fun d => d.parameters.length) = some 1 := by decide +kernel
theorem hz_X3_put : yX3_put.cls ≠ "java/lang/invoke/MethodHandle" ∧ yX3_put.cls ≠ "java/lang/invoke/VarHandle" ∧ (parseMethodDescriptor yX3_put.desc).map (fun d => d.parameters.length) = some 1 := by decide +kernel
abbrev rmX3_read : Room := { frames := 4, cells := 0, slots := 0, locals := 86 }
theorem hy_X3_read : yX3_read.cls = RX3 ∧ yX3_read.cls ≠ "java/lang/invoke/MethodHandle" ∧ yX3_read.cls ≠ "java/lang/invoke/VarHandle" ∧ (parseMethodDescriptor yX3_read.desc).map (fun d => d.parameters.length) = some 0 := by decide +kernel
theorem hz_X3_read : yX3_read.cls ≠ "java/lang/invoke/MethodHandle" ∧ yX3_read.cls ≠ "java/lang/invoke/VarHandle" ∧ (parseMethodDescriptor yX3_read.desc).map (fun d => d.parameters.length) = some 0 := by decide +kernel
theorem me_X3_read_0 : Cond.fieldLink RX3 18 "DrawnByLost$Reader" "land" "LDrawnByLost$Land;" ∈ wsX3_read := by decide +kernel
theorem me_X3_read_1 : Cond.fieldLink RX3 44 "DrawnByLost$Land" "hunger" "[I" ∈ wsX3_read := by decide +kernel
theorem me_X3_read_2 : Cond.fieldLink RX3 33 "DrawnByLost$Reader" "at" "I" ∈ wsX3_read := by decide +kernel
theorem me_X3_read_3 : Cond.fieldLink RX3 29 "DrawnByLost$Reader" "length" "I" ∈ wsX3_read := by decide +kernel
theorem me_X3_read_4 : Cond.fieldLink RX3 36 "DrawnByLost$Reader" "onlyDeltas" "Z" ∈ wsX3_read := by decide +kernel
theorem me_X3_read_5 : Cond.fieldLink RX3 25 "DrawnByLost$Reader" "story" "LDrawnByLost$Story;" ∈ wsX3_read := by decide +kernel
theorem me_X3_put_0 : Cond.fieldLink RX3 29 "DrawnByLost$Reader" "length" "I" ∈ wsX3_put := by decide +kernel
theorem me_X3_put_1 : Cond.fieldLink RX3 9 "DrawnByLost$Reader" "letters" "[C" ∈ wsX3_put := by decide +kernel
theorem me_X3_clear_0 : Cond.fieldLink RX3 29 "DrawnByLost$Reader" "length" "I" ∈ wsX3_clear := by decide +kernel
theorem ic_X3_read_3 : ∀ w ∈ wsX30, w ∈ wsX3_read := by decide +kernel
theorem ic_X3_read_1 : ∀ w ∈ wsX10, w ∈ wsX3_read := by decide +kernel
theorem ic_X3_put_3 : ∀ w ∈ wsX30, w ∈ wsX3_put := by decide +kernel
theorem ic_X3_clear_3 : ∀ w ∈ wsX30, w ∈ wsX3_clear := by decide +kernel
-- Reader: the whole text; letters
section VR4
variable {l : Launch} {D : va_G} {cy : CY} {B n : Nat} {h : Hp} {lg : Lg} {π : Nat → Nat}
theorem lp1_X3_read {post : PO} (hn : 89 ≤ n) (H0 : Hp)
    (K : ∀ h', (∀ a, a ≠ 4 → h' a = H0 a) → (∀ m, m < 6 → h' 4 m = nI (m + 1)) → ∀ a1 a2, WP l D cy B cX3_read 3 RX3 wsX3_read rmX3_read (some .int) (QE0 D cy B n 0 0 (post)) EX0 n (rf0 π) h' lg 0 0 45 [some (.ref (B + 1)), a1, a2] []) :
    ∀ d i : Nat, i + d = 6 → ∀ h', (∀ a, a ≠ 4 → h' a = H0 a) → (∀ m, m < i → h' 4 m = nI (m + 1)) → ∀ a2, WP l D cy B cX3_read 3 RX3 wsX3_read rmX3_read (some .int) (QE0 D cy B n 0 0 (post)) EX0 n (rf0 π) h' lg 0 0 21 [some (.ref (B + 1)), some (.int (nI i)), a2] [] := by
  intro d
  induction d with
  | zero =>
    intro i hi h' e0 e1 a2
    have : i = 6 := by omega
    subst this
    refine wp_iload_n_1 (pc' := 22) dX3_read_21 rfl ?_
    refine wp_bipush (pc' := 24) (6) dX3_read_22 rfl (by decide) ?_
    refine wp_icmp_ge (pc' := 27) (tgt := 45) dX3_read_24 rfl rfl (fun c24 => ?_) (fun c24 => by exfalso; exact c24 (by decide))
    exact K h' e0 e1 _ _
  | succ d ih =>
    intro i hi h' e0 e1 a2
    refine wp_iload_n_1 (pc' := 22) dX3_read_21 rfl ?_
    refine wp_bipush (pc' := 24) (6) dX3_read_22 rfl (by decide) ?_
    refine wp_icmp_ge (pc' := 27) (tgt := 45) dX3_read_24 rfl rfl (fun c24 => by exfalso; (simp (disch := omega) only [Int32.lt_iff_toInt_lt, Int32.le_iff_toInt_le, ← Int32.toInt_inj, nI_toInt, il_0, il_1, il_2, il_3, il_4, il_5, il_6, il_8, il_9, il_10, il_16, il_26, il_32, il_40, il_n4, il_n1, il_n2, il_11, il_48, il_57, il_59, il_44, il_126, il_200, il_9999, il_66666, il_10000, il_1000000, il_15, il_12, il_256, il_4096, il_53, il_52] at c24; omega)) (fun c24 => ?_)
    refine wp_aload_n_0 (pc' := 28) dX3_read_27 rfl ?_
    refine wp_get_3_6 (pc' := 31) (by omega) rfl rfl me_X3_read_0 ic_X3_read_3 dX3_read_28 rfl ?_
    refine wp_get_1_5 (pc' := 34) (by omega) rfl rfl me_X3_read_1 ic_X3_read_1 dX3_read_31 rfl ?_
    refine wp_iload_n_1 (pc' := 35) dX3_read_34 rfl ?_
    refine wp_iload_n_1 (pc' := 36) dX3_read_35 rfl ?_
    refine wp_iconst (pc' := 37) (1) dX3_read_36 rfl (by decide) ?_
    refine wp_iadd (pc' := 38) dX3_read_37 rfl ?_
    rw [nI_1]
    refine wp_iast (pc' := 39) (N := 6) (by omega) rfl rfl (by first | exact vp_in_nI (by omega) (by omega) | assumption | (unfold vp_in; decide)) dX3_read_38 rfl ?_
    refine wp_iinc_1 (pc' := 42) (v := nI (i + 1)) dX3_read_39 (by first | rfl | exact nI_1 _) (by decide) rfl rfl ?_
    refine wp_goto (tgt := 21) dX3_read_42 rfl ?_
    refine ih (i + 1) (by omega) _ (fun a ha => by rw [hup_cell ha]; exact e0 a ha) (fun m hm => ?_) _
    rw [nI_clamp (by omega)]
    by_cases e : m = i
    · subst e; rw [hup_at]
    · rw [hup_off e]; exact e1 m (by omega)
theorem lp2_X3_read {len : Nat} {tx : Nat → Nat} {post : PO} (hn : 89 ≤ n) (H0 : Hp) (T0 : TX H0 len tx) (x : Int32) (sf : PSt)
    (K : ∀ h', (∀ a, a = 0 ∨ a = 2 ∨ 10 ≤ a → h' a = H0 a) → h' 1 1 = H0 1 1 → (x = -4 → RS h' sf ∧ PSok sf) → post (some (.int x)) (rf0 π) h' lg) :
    ∀ d i : Nat, i + d = 200 → ∀ h' p s, prs len tx d p s = (x, sf) → p ≤ 400 → (∀ a, a = 0 ∨ a = 2 ∨ 10 ≤ a → h' a = H0 a) → h' 1 1 = H0 1 1 → h' 1 2 = nI p → RS h' s → PSok s → ∀ a2, WP l D cy B cX3_read 3 RX3 wsX3_read rmX3_read (some .int) (QE0 D cy B n 0 0 (post)) EX0 n (rf0 π) h' lg 0 0 54 [some (.ref (B + 1)), some (.int (nI i)), a2] [] := by
  have hl := T0.2.1
  intro d
  induction d with
  | zero =>
    intro i hi h' p s hprs hp4 e0 e1 e2 rs ps a2
    have : i = 200 := by omega
    subst this
    simp only [prs] at hprs
    cases hprs
    refine wp_iload_n_1 (pc' := 55) dX3_read_54 rfl ?_
    refine wp_sipush (pc' := 58) (200) dX3_read_55 rfl (by decide) ?_
    refine wp_icmp_ge (pc' := 61) (tgt := 92) dX3_read_58 rfl rfl (fun c58 => ?_) (fun c58 => by exfalso; exact c58 (by decide))
    refine wp_bipush (pc' := 94) (-4) dX3_read_92 rfl (by decide) ?_
    refine wp_ireturn dX3_read_94 rfl rfl (Nat.le_refl _) (Nat.le_refl _) ?_
    exact K h' e0 e1 (fun _ => ⟨rs, ps⟩)
  | succ d ih =>
    intro i hi h' p s hprs hp4 e0 e1 e2 rs ps a2
    have T := T0.of_eq e1 (e0 2 (by omega))
    simp only [prs] at hprs
    refine wp_iload_n_1 (pc' := 55) dX3_read_54 rfl ?_
    refine wp_sipush (pc' := 58) (200) dX3_read_55 rfl (by decide) ?_
    refine wp_icmp_ge (pc' := 61) (tgt := 92) dX3_read_58 rfl rfl (fun c58 => by exfalso; (simp (disch := omega) only [Int32.lt_iff_toInt_lt, Int32.le_iff_toInt_le, ← Int32.toInt_inj, nI_toInt, il_0, il_1, il_2, il_3, il_4, il_5, il_6, il_8, il_9, il_10, il_16, il_26, il_32, il_40, il_n4, il_n1, il_n2, il_11, il_48, il_57, il_59, il_44, il_126, il_200, il_9999, il_66666, il_10000, il_1000000, il_15, il_12, il_256, il_4096, il_53, il_52] at c58; omega)) (fun c58 => ?_)
    refine wp_aload_n_0 (pc' := 62) dX3_read_61 rfl ?_
    refine wp_get_3_2 (pc' := 65) (by omega) rfl me_X3_read_2 ic_X3_read_3 dX3_read_62 rfl ?_
    refine wp_aload_n_0 (pc' := 66) dX3_read_65 rfl ?_
    refine wp_get_3_1 (pc' := 69) (by omega) rfl me_X3_read_3 ic_X3_read_3 dX3_read_66 rfl ?_
    refine wp_icmp_ge (pc' := 72) (tgt := 92) dX3_read_69 rfl rfl (fun c69 => ?_) (fun c69 => ?_)
    · skip -- 69 taken
      rw [e2, T.1] at c69
      have hge : ¬ p < len := fun z => nI_ge z (by omega) c69
      rw [if_neg hge] at hprs
      cases hprs
      refine wp_bipush (pc' := 94) (-4) dX3_read_92 rfl (by decide) ?_
      refine wp_ireturn dX3_read_94 rfl rfl (Nat.le_refl _) (Nat.le_refl _) ?_
      exact K h' e0 e1 (fun _ => ⟨rs, ps⟩)
    · skip -- 69 not taken
      rw [e2, T.1] at c69
      have hlt : p < len := by
        apply Classical.byContradiction
        intro z
        exact c69 (nI_le (by omega) (by omega))
      rw [if_pos hlt] at hprs
      refine wp_aload_n_0 (pc' := 73) dX3_read_72 rfl ?_
      refine wp_get_3_2 (pc' := 76) (by omega) rfl me_X3_read_2 ic_X3_read_3 dX3_read_73 rfl ?_
      rw [e2]
      refine wp_istore_n_2 (pc' := 77) dX3_read_76 (by decide) rfl rfl ?_
      refine wp_aload_n_0 (pc' := 78) dX3_read_77 rfl ?_
      refine wp_callVq (pc' := 81) (c_X3_readItem hn T e2 hlt rs ps) gX3_read_X3_readItem rfl rfl hy_X3_readItem ⟨Nat.le_of_ble_eq_true rfl, Nat.le_of_ble_eq_true rfl⟩ ⟨rfl, rfl⟩ (Nat.le_of_ble_eq_true rfl) ⟨Nat.le_of_ble_eq_true rfl, Nat.le_of_ble_eq_true rfl⟩ (by omega) (ce3 rfl) rfl rfl dX3_read_78 rfl (fun x78 h78 q78 => ?_)
      obtain ⟨g0, g1, g2, g3⟩ := q78
      subst g0
      refine wp_if_ne (pc' := 84) (tgt := 86) dX3_read_81 rfl rfl (fun c81 => ?_) (fun c81 => ?_)
      · skip -- 81 taken
        obtain ⟨q, s', f1⟩ : ∃ q s', item len tx p s = some (q, s') := by
          cases e : item len tx p s with
          | none => rw [e] at c81; exact absurd rfl c81
          | some y => exact ⟨y.1, y.2, rfl⟩
        rw [f1] at hprs
        simp only at hprs
        obtain ⟨g4, g5, g6⟩ := g3 q s' f1
        have adv := item_adv f1
        refine wp_iinc_1 (pc' := 89) (v := nI (i + 1)) dX3_read_86 (by first | rfl | exact nI_1 _) (by decide) rfl rfl ?_
        refine wp_goto (tgt := 54) dX3_read_89 rfl ?_
        exact ih (i + 1) (by omega) h78 q s' hprs (by omega) (fun a ha => by rw [g1 a ha]; exact e0 a ha) (g2.trans e1) g4 g5 g6 _
      · skip -- 81 not taken
        have f1 : item len tx p s = none := by
          cases e : item len tx p s with
          | none => rfl
          | some y => rw [e] at c81; exact absurd c81 (by simp [b2i])
        rw [f1] at hprs
        cases hprs
        refine wp_iload_n_2 (pc' := 85) dX3_read_84 rfl ?_
        refine wp_ireturn dX3_read_85 rfl rfl (Nat.le_refl _) (Nat.le_refl _) ?_
        exact K h78 (fun a ha => by rw [g1 a ha]; exact e0 a ha) (g2.trans e1) (fun z => by (simp (disch := omega) only [Int32.lt_iff_toInt_lt, Int32.le_iff_toInt_le, ← Int32.toInt_inj, nI_toInt, il_0, il_1, il_2, il_3, il_4, il_5, il_6, il_8, il_9, il_10, il_16, il_26, il_32, il_40, il_n4, il_n1, il_n2, il_11, il_48, il_57, il_59, il_44, il_126, il_200, il_9999, il_66666, il_10000, il_1000000, il_15, il_12, il_256, il_4096, il_53, il_52] at z; omega))
theorem c_X3_read {len : Nat} {tx : Nat → Nat} (hn : 89 ≤ n) (T : TX h len tx) : Ctr l D cy B yX3_read wsX3_read rmX3_read 0 0 n (rf0 π) h lg [.ref (B + 1)] (qI (fun x h' => x = (prs len tx 200 0 ps0).1 ∧ (∀ a, a = 0 ∨ a = 2 ∨ 10 ≤ a → h' a = h a) ∧ h' 1 1 = h 1 1 ∧ (x = -4 → RS h' (prs len tx 200 0 ps0).2 ∧ PSok (prs len tx 200 0 ps0).2)) (rf0 π) lg) := by
  have h44 : Sh 4 4 := by unfold Sh; decide
  refine Ctr.of (cc := cX3_read) (nL := 3) (own := RX3) (rt := (some .int)) (ls := [some (.ref (B + 1)), none, none]) (by decide) rfl rfl (Nat.le_of_ble_eq_true rfl) rfl ?_
  refine wp_aload_n_0 (pc' := 1) dX3_read_0 rfl ?_
  refine wp_iconst (pc' := 2) (0) dX3_read_1 rfl (by decide) ?_
  refine wp_put_3_2 (pc' := 5) (by omega) rfl me_X3_read_2 ic_X3_read_3 dX3_read_2 rfl ?_
  refine wp_aload_n_0 (pc' := 6) dX3_read_5 rfl ?_
  refine wp_iconst (pc' := 7) (1) dX3_read_6 rfl (by decide) ?_
  refine wp_put_3_5 (pc' := 10) (by omega) rfl me_X3_read_4 ic_X3_read_3 (by decide) dX3_read_7 rfl ?_
  refine wp_aload_n_0 (pc' := 11) dX3_read_10 rfl ?_
  refine wp_get_3_6 (pc' := 14) (by omega) rfl rfl me_X3_read_0 ic_X3_read_3 dX3_read_11 rfl ?_
  refine wp_iconst (pc' := 15) (4) dX3_read_14 rfl (by decide) ?_
  refine wp_iconst (pc' := 16) (4) dX3_read_15 rfl (by decide) ?_
  refine wp_callVv (pc' := 19) (c_X1_shape (R := 4) (C := 4) hn la3 h44) gX3_read_X1_shape rfl rfl hy_X1_shape ⟨Nat.le_of_ble_eq_true rfl, Nat.le_of_ble_eq_true rfl⟩ ⟨rfl, rfl⟩ (Nat.le_of_ble_eq_true rfl) ⟨Nat.le_of_ble_eq_true rfl, Nat.le_of_ble_eq_true rfl⟩ (by omega) (ce1 rfl) rfl rfl dX3_read_16 rfl (fun h16 q16 => ?_)
  obtain ⟨g0, g1⟩ := q16
  refine wp_iconst (pc' := 20) (0) dX3_read_19 rfl (by decide) ?_
  refine wp_istore_n_1 (pc' := 21) dX3_read_20 (by decide) rfl rfl ?_
  refine lp1_X3_read hn h16 (fun h2 e0 e1 a1 a2 => ?_) 6 0 (by omega) h16 (fun _ _ => rfl) (fun m hm => by omega) _
  refine wp_aload_n_0 (pc' := 46) dX3_read_45 rfl ?_
  refine wp_get_3_7 (pc' := 49) (by omega) rfl rfl me_X3_read_5 ic_X3_read_3 dX3_read_46 rfl ?_
  refine wp_callVv (pc' := 52) (c_X5_clear hn st5) gX3_read_X5_clear rfl rfl hy_X5_clear ⟨Nat.le_of_ble_eq_true rfl, Nat.le_of_ble_eq_true rfl⟩ ⟨rfl, rfl⟩ (Nat.le_of_ble_eq_true rfl) ⟨Nat.le_of_ble_eq_true rfl, Nat.le_of_ble_eq_true rfl⟩ (by omega) (ce5 rfl) rfl rfl dX3_read_49 rfl (fun h49 q49 => ?_)
  obtain ⟨g2, g3, g4⟩ := q49
  refine wp_iconst (pc' := 53) (0) dX3_read_52 rfl (by decide) ?_
  refine wp_istore_n_1 (pc' := 54) dX3_read_53 (by decide) rfl rfl ?_
  refine lp2_X3_read (len := len) (tx := tx) hn h49 ?_ (prs len tx 200 0 ps0).1 (prs len tx 200 0 ps0).2 (fun h3 f0 f1 f2 => ?_) 200 0 (by omega) h49 0 ps0 rfl (by omega) (fun _ _ => rfl) rfl ?_ ?_ ps0_ok _
  · exact T.of_eq (by rw [g2 1 (by decide) (by decide), e0 1 (by decide), g0 1 (by decide), hup_off (by decide), hup_off (by decide)]) (by rw [g2 2 (by decide) (by decide), e0 2 (by decide), g0 2 (by decide), hup_cell (by decide), hup_cell (by decide)])
  · exact qI_of ⟨rfl, fun a ha => by rw [f0 a ha, g2 a (by omega) (by omega), e0 a (by omega), g0 a (by omega), hup_cell (by omega), hup_cell (by omega)], by rw [f1, g2 1 (by decide) (by decide), e0 1 (by decide), g0 1 (by decide), hup_off (by decide), hup_off (by decide)], f2⟩
  · rw [g2 1 (by decide) (by decide), e0 1 (by decide), g0 1 (by decide), hup_off (by decide), hup_at]; rfl
  · refine ⟨g1.of_eq (by rw [g2 3 (by decide) (by decide), e0 3 (by decide)]), fun m hm => ?_, ⟨fun i hi => ?_, ?_, fun w hw => absurd hw (Nat.not_lt_zero w)⟩, ?_⟩
    · rw [g2 4 (by decide) (by decide)]; exact e1 m hm
    · exact g3 i hi
    · exact g4
    · rw [g2 1 (by decide) (by decide), e0 1 (by decide), g0 1 (by decide), hup_at]; rfl
theorem i2c_nI {c : Nat} (h : c < 65536) : ((nI c).toUInt32 % 65536).toInt32 = nI c := by
  apply Int32.toBitVec_inj.mp
  apply BitVec.eq_of_toNat_eq
  show ((nI c).toUInt32 % 65536).toNat = (BitVec.ofNat 32 c).toNat
  rw [UInt32.toNat_mod]
  show (BitVec.ofNat 32 c).toNat % 65536 = (BitVec.ofNat 32 c).toNat
  rw [BitVec.toNat_ofNat]
  omega
theorem vp_nar_c {c : Nat} (h : c < 65536) : vp_nar .char (nI c) = nI c := by
  unfold vp_nar narrow
  simp [i2c_nI h]
theorem c_X3_put {len c : Nat} {tx : Nat → Nat} (hn : 89 ≤ n) (T : TX h len tx) (hc : c < 1000) : Ctr l D cy B yX3_put wsX3_put rmX3_put 0 0 n (rf0 π) h lg [.ref (B + 1), .int (nI c)] (qI (fun x h' => if len < 200 then x = 1 ∧ h' = hup (hup h 2 len (nI c)) 1 1 (nI (len + 1)) else x = 0 ∧ h' = h) (rf0 π) lg) := by
  obtain ⟨t1, t2, t3⟩ := T
  refine Ctr.of (cc := cX3_put) (nL := 2) (own := RX3) (rt := (some .boolean)) (ls := [some (.ref (B + 1)), some (.int (nI c))]) (by decide) rfl rfl (Nat.le_of_ble_eq_true rfl) rfl ?_
  refine wp_aload_n_0 (pc' := 1) dX3_put_0 rfl ?_
  refine wp_get_3_1 (pc' := 4) (by omega) rfl me_X3_put_0 ic_X3_put_3 dX3_put_1 rfl ?_
  refine wp_if_lt (pc' := 7) (tgt := 17) dX3_put_4 rfl rfl (fun c4 => by exfalso; rw [t1] at c4; exact absurd c4 (nI_pos (by omega))) (fun c4 => ?_)
  refine wp_aload_n_0 (pc' := 8) dX3_put_7 rfl ?_
  refine wp_get_3_1 (pc' := 11) (by omega) rfl me_X3_put_0 ic_X3_put_3 dX3_put_8 rfl ?_
  refine wp_sipush (pc' := 14) (200) dX3_put_11 rfl (by decide) ?_
  refine wp_icmp_lt (pc' := 17) (tgt := 19) dX3_put_14 rfl rfl (fun c14 => ?_) (fun c14 => ?_)
  · skip -- 14 taken
    rw [t1] at c14
    have z : len < 200 := by (simp (disch := omega) only [Int32.lt_iff_toInt_lt, Int32.le_iff_toInt_le, ← Int32.toInt_inj, nI_toInt, il_0, il_1, il_2, il_3, il_4, il_5, il_6, il_8, il_9, il_10, il_16, il_26, il_32, il_40, il_n4, il_n1, il_n2, il_11, il_48, il_57, il_59, il_44, il_126, il_200, il_9999, il_66666, il_10000, il_1000000, il_15, il_12, il_256, il_4096, il_53, il_52] at c14; omega)
    refine wp_aload_n_0 (pc' := 20) dX3_put_19 rfl ?_
    refine wp_get_3_0 (pc' := 23) (by omega) rfl rfl me_X3_put_1 ic_X3_put_3 dX3_put_20 rfl ?_
    refine wp_aload_n_0 (pc' := 24) dX3_put_23 rfl ?_
    refine wp_get_3_1 (pc' := 27) (by omega) rfl me_X3_put_0 ic_X3_put_3 dX3_put_24 rfl ?_
    refine wp_iload_n_1 (pc' := 28) dX3_put_27 rfl ?_
    refine wp_cast (pc' := 29) (N := 200) (by omega) rfl rfl (by rw [t1]; exact vp_in_nI (by omega) (by omega)) dX3_put_28 rfl ?_
    refine wp_aload_n_0 (pc' := 30) dX3_put_29 rfl ?_
    refine wp_dup (pc' := 31) dX3_put_30 rfl rfl ?_
    refine wp_get_3_1 (pc' := 34) (by omega) rfl me_X3_put_0 ic_X3_put_3 dX3_put_31 rfl ?_
    refine wp_iconst (pc' := 35) (1) dX3_put_34 rfl (by decide) ?_
    refine wp_iadd (pc' := 36) dX3_put_35 rfl ?_
    refine wp_put_3_1 (pc' := 39) (by omega) rfl me_X3_put_0 ic_X3_put_3 dX3_put_36 rfl ?_
    refine wp_iconst (pc' := 40) (1) dX3_put_39 rfl (by decide) ?_
    refine wp_zreturn (by decide) dX3_put_40 rfl rfl (Nat.le_refl _) (Nat.le_refl _) ?_
    exact qI_of (by rw [if_pos z, vp_nar_c (by omega), hup_cell (by decide), t1, nI_clamp (by omega), nI_1]; exact ⟨rfl, rfl⟩)
  · skip -- 14 not taken
    rw [t1] at c14
    have z : ¬ len < 200 := fun q => c14 (nI_lt (b := 200) q (by omega))
    refine wp_iconst (pc' := 18) (0) dX3_put_17 rfl (by decide) ?_
    refine wp_zreturn (by decide) dX3_put_18 rfl rfl (Nat.le_refl _) (Nat.le_refl _) ?_
    exact qI_of (by rw [if_neg z]; exact ⟨rfl, rfl⟩)
theorem c_X3_clear (hn : 89 ≤ n) : Ctr l D cy B yX3_clear wsX3_clear rmX3_clear 0 0 n (rf0 π) h lg [.ref (B + 1)] (qV (fun h' => h' = hup h 1 1 0) (rf0 π) lg) := by
  refine Ctr.of (cc := cX3_clear) (nL := 1) (own := RX3) (rt := none) (ls := [some (.ref (B + 1))]) (by decide) rfl rfl (Nat.le_of_ble_eq_true rfl) rfl ?_
  refine wp_aload_n_0 (pc' := 1) dX3_clear_0 rfl ?_
  refine wp_iconst (pc' := 2) (0) dX3_clear_1 rfl (by decide) ?_
  refine wp_put_3_1 (pc' := 5) (by omega) rfl me_X3_clear_0 ic_X3_clear_3 dX3_clear_2 rfl ?_
  refine wp_return dX3_clear_5 rfl rfl (Nat.le_refl _) (Nat.le_refl _) ?_
  exact qV_of rfl
end VR4

