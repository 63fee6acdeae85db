abbrev rmX4_spell : Room := { frames := 4, cells := 0, slots := 0, locals := 94 }
theorem hy_X4_spell : yX4_spell.cls = RX4 ∧ yX4_spell.cls ≠ "java/lang/invoke/MethodHandle" ∧ yX4_spell.cls ≠ "java/lang/invoke/VarHandle" ∧ (parseMethodDescriptor yX4_spell.desc).map (fun d => d.parameters.length) = some 2 := by decide +kernel
theorem hz_X4_spell : yX4_spell.cls ≠ "java/lang/invoke/MethodHandle" ∧ yX4_spell.cls ≠ "java/lang/invoke/VarHandle" ∧ (parseMethodDescriptor yX4_spell.desc).map (fun d => d.parameters.length) = some 2 := by decide +kernel
abbrev rmX4_spellIn : Room := { frames := 3, cells := 0, slots := 0, locals := 68 }
theorem hy_X4_spellIn : yX4_spellIn.cls = RX4 ∧ yX4_spellIn.cls ≠ "java/lang/invoke/MethodHandle" ∧ yX4_spellIn.cls ≠ "java/lang/invoke/VarHandle" ∧ (parseMethodDescriptor yX4_spellIn.desc).map (fun d => d.parameters.length) = some 4 := by decide +kernel
theorem hz_X4_spellIn : yX4_spellIn.cls ≠ "java/lang/invoke/MethodHandle" ∧ yX4_spellIn.cls ≠ "java/lang/invoke/VarHandle" ∧ (parseMethodDescriptor yX4_spellIn.desc).map (fun d => d.parameters.length) = some 4 := by decide +kernel
theorem me_X4_spellIn_0 : Cond.fieldLink RX4 9 "DrawnByLost$Speller" "word" "[I" ∈ wsX4_spellIn := by decide +kernel
theorem me_X4_spellIn_1 : Cond.fieldLink RX4 15 "DrawnByLost$Speller" "ends" "[I" ∈ wsX4_spellIn := by decide +kernel
theorem ic_X4_spellIn_4 : ∀ w ∈ wsX40, w ∈ wsX4_spellIn := by decide +kernel
-- Speller: spellIn, spell
section VSQ
variable {l : Launch} {D : va_G} {cy : CY} {B n : Nat} {h : Hp} {lg : Lg} {π : Nat → Nat}
def KW (R C : Nat) (mk : Nat → Nat) (g : Int32) (s c : Nat) : Prop := S (WE R C mk s c (s - 1)) = g
theorem dg_0 (s j : Nat) : dg s 0 j = 0 := by simp [dg]
theorem p6_le : ∀ s, s ≤ 4 → 6 ^ s ≤ 1296 := by decide
theorem lp_X4_spellIn0 {s N : Nat} {g : Int32} {post : PO} (hn : 89 ≤ n) (H0 : Hp)
    (K : ∀ h', (∀ a, a ≠ 87 → h' a = H0 a) → (∀ i, i < 4 → h' 87 i = 0) → ∀ a5, WP l D cy B cX4_spellIn 7 RX4 wsX4_spellIn rmX4_spellIn (some .boolean) (QE0 D cy B n 0 0 (post)) EX0 n (rf0 π) h' lg 0 0 23 [some (.ref (B + 86)), some (.ref (B + 10)), some (.int (nI s)), some (.int (nI N)), some (.int g), a5, none] []) :
    ∀ d i : Nat, i + d = 4 → ∀ h', (∀ a, a ≠ 87 → h' a = H0 a) → (∀ j, j < i → h' 87 j = 0) → WP l D cy B cX4_spellIn 7 RX4 wsX4_spellIn rmX4_spellIn (some .boolean) (QE0 D cy B n 0 0 (post)) EX0 n (rf0 π) h' lg 0 0 3 [some (.ref (B + 86)), some (.ref (B + 10)), some (.int (nI s)), some (.int (nI N)), some (.int g), some (.int (nI i)), none] [] := by
  intro d
  induction d with
  | zero =>
    intro i hi h' e0 e1
    have : i = 4 := by omega
    subst this
    refine wp_iload_5 (pc' := 5) dX4_spellIn_3 rfl ?_
    refine wp_iconst (pc' := 6) (4) dX4_spellIn_5 rfl (by decide) ?_
    refine wp_icmp_ge (pc' := 9) (tgt := 23) dX4_spellIn_6 rfl rfl (fun c6 => ?_) (fun c6 => by exfalso; exact c6 (by decide))
    exact K h' e0 e1 _
  | succ d ih =>
    intro i hi h' e0 e1
    refine wp_iload_5 (pc' := 5) dX4_spellIn_3 rfl ?_
    refine wp_iconst (pc' := 6) (4) dX4_spellIn_5 rfl (by decide) ?_
    refine wp_icmp_ge (pc' := 9) (tgt := 23) dX4_spellIn_6 rfl rfl (fun c6 => by exfalso; (simp (disch := omega) only [Int32.lt_iff_toInt_lt, Int32.le_iff_toInt_le, ← Int32.toInt_inj, nI_toInt, il_0, il_1, il_2, il_3, il_4, il_5, il_6, il_8, il_9, il_10, il_16, il_26, il_32, il_40, il_n4, il_n1, il_n2, il_11, il_48, il_57, il_59, il_44, il_126, il_200, il_9999, il_66666, il_10000, il_1000000, il_15, il_12, il_256, il_4096, il_53, il_52] at c6; omega)) (fun c6 => ?_)
    refine wp_aload_n_0 (pc' := 10) dX4_spellIn_9 rfl ?_
    refine wp_get_4_0 (pc' := 13) (by omega) rfl rfl me_X4_spellIn_0 ic_X4_spellIn_4 dX4_spellIn_10 rfl ?_
    refine wp_iload_5 (pc' := 15) dX4_spellIn_13 rfl ?_
    refine wp_iconst (pc' := 16) (0) dX4_spellIn_15 rfl (by decide) ?_
    refine wp_iast (pc' := 17) (N := 4) (by omega) rfl rfl (by first | exact vp_in_nI (by omega) (by omega) | assumption | (unfold vp_in; decide)) dX4_spellIn_16 rfl ?_
    refine wp_iinc_5 (pc' := 20) (v := nI (i + 1)) dX4_spellIn_17 (by first | rfl | exact nI_1 _) (by decide) rfl rfl ?_
    refine wp_goto (tgt := 3) dX4_spellIn_20 rfl ?_
    refine ih (i + 1) (by omega) _ (fun a ha => by rw [hup_cell ha]; exact e0 a ha) (fun j hj => ?_)
    rw [nI_clamp (by omega)]
    by_cases e : j = i
    · subst e; rw [hup_at]
    · rw [hup_off e]; exact e1 j (by omega)
theorem wtail_spellIn {s N : Nat} {g : Int32} {post : PO} {a5 : Int32} (hN : N ≤ 1296) (K : post (some (.int 0)) (rf0 π) h lg) : WP l D cy B cX4_spellIn 7 RX4 wsX4_spellIn rmX4_spellIn (some .boolean) (QE0 D cy B n 0 0 (post)) EX0 n (rf0 π) h lg 0 0 29 [some (.ref (B + 86)), some (.ref (B + 10)), some (.int (nI s)), some (.int (nI N)), some (.int g), some (.int a5), some (.int (nI N))] [] := by
  refine wp_iload_6 (pc' := 31) dX4_spellIn_29 rfl ?_
  refine wp_iload_n_3 (pc' := 32) dX4_spellIn_31 rfl ?_
  refine wp_icmp_ge (pc' := 35) (tgt := 76) dX4_spellIn_32 rfl rfl (fun c32 => ?_) (fun c32 => by exfalso; (simp (disch := omega) only [Int32.lt_iff_toInt_lt, Int32.le_iff_toInt_le, ← Int32.toInt_inj, nI_toInt, il_0, il_1, il_2, il_3, il_4, il_5, il_6, il_8, il_9, il_10, il_16, il_26, il_32, il_40, il_n4, il_n1, il_n2, il_11, il_48, il_57, il_59, il_44, il_126, il_200, il_9999, il_66666, il_10000, il_1000000, il_15, il_12, il_256, il_4096, il_53, il_52] at c32; omega))
  refine wp_iconst (pc' := 77) (0) dX4_spellIn_76 rfl (by decide) ?_
  refine wp_zreturn rfl dX4_spellIn_77 rfl rfl (Nat.le_refl _) (Nat.le_refl _) ?_
  exact K
theorem lp_X4_spellIn {R C s N : Nat} {mk : Nat → Nat} {g : Int32} {post : PO} (hn : 89 ≤ n) (H0 : Hp) (q0 : ShL H0 11 R C) (sp0 : Sp H0 R C mk) (hs : s ≤ 4) (h1 : 1 ≤ s) (hN : N = 6 ^ s) (hN2 : N ≤ 1296)
    (K1 : ∀ h' c, c < N → (∀ a, a ≠ 87 → a ≠ 88 → h' a = H0 a) → (∀ j, j < s → h' 87 j = nI (dg s c j)) → KW R C mk g s c → (∀ c', c' < c → ¬ KW R C mk g s c') → post (some (.int 1)) (rf0 π) h' lg)
    (K2 : ∀ h', (∀ a, a ≠ 87 → a ≠ 88 → h' a = H0 a) → (∀ c', c' < N → ¬ KW R C mk g s c') → post (some (.int 0)) (rf0 π) h' lg) :
    ∀ d t : Nat, t + d + 1 = N → ∀ f h', f ≤ s → (∀ a, a ≠ 87 → a ≠ 88 → h' a = H0 a) → (∀ j, j < s → h' 87 j = nI (dg s t j)) → (∀ i, i < f → h' 88 i = S (WE R C mk s t i)) → (∀ c', c' < t → ¬ KW R C mk g s c') → WP l D cy B cX4_spellIn 7 RX4 wsX4_spellIn rmX4_spellIn (some .boolean) (QE0 D cy B n 0 0 (post)) EX0 n (rf0 π) h' lg 0 0 29 [some (.ref (B + 86)), some (.ref (B + 10)), some (.int (nI s)), some (.int (nI N)), some (.int g), some (.int (nI f)), some (.int (nI t))] [] := by
  intro d
  induction d with
  | zero =>
    intro t ht f h' hf e0 hd he hno
    have q := q0.of_eq (e0 11 (by decide) (by decide))
    have sp := sp0.of_eq (e0 13 (by decide) (by decide))
    refine wp_iload_6 (pc' := 31) dX4_spellIn_29 rfl ?_
    refine wp_iload_n_3 (pc' := 32) dX4_spellIn_31 rfl ?_
    refine wp_icmp_ge (pc' := 35) (tgt := 76) dX4_spellIn_32 rfl rfl (fun c32 => by exfalso; (simp (disch := omega) only [Int32.lt_iff_toInt_lt, Int32.le_iff_toInt_le, ← Int32.toInt_inj, nI_toInt, il_0, il_1, il_2, il_3, il_4, il_5, il_6, il_8, il_9, il_10, il_16, il_26, il_32, il_40, il_n4, il_n1, il_n2, il_11, il_48, il_57, il_59, il_44, il_126, il_200, il_9999, il_66666, il_10000, il_1000000, il_15, il_12, il_256, il_4096, il_53, il_52] at c32; omega)) (fun c32 => ?_)
    refine wp_iload_5 (pc' := 37) dX4_spellIn_35 rfl ?_
    refine wp_if_lt (pc' := 40) (tgt := 76) dX4_spellIn_37 rfl rfl (fun c37 => by exfalso; exact absurd c37 (nI_pos (by omega))) (fun c37 => ?_)
    refine wp_aload_n_0 (pc' := 41) dX4_spellIn_40 rfl ?_
    refine wp_aload_n_1 (pc' := 42) dX4_spellIn_41 rfl ?_
    refine wp_iload_5 (pc' := 44) dX4_spellIn_42 rfl ?_
    refine wp_iload_n_2 (pc' := 45) dX4_spellIn_44 rfl ?_
    refine wp_callVv (pc' := 48) (c_X4_endAgain hn q sp hs hf hd he) gX4_spellIn_X4_endAgain rfl rfl hy_X4_endAgain ⟨Nat.le_of_ble_eq_true rfl, Nat.le_of_ble_eq_true rfl⟩ ⟨rfl, rfl⟩ (Nat.le_of_ble_eq_true rfl) ⟨Nat.le_of_ble_eq_true rfl, Nat.le_of_ble_eq_true rfl⟩ (by omega) (ce4 rfl) rfl rfl dX4_spellIn_45 rfl (fun h45 q45 => ?_)
    refine wp_aload_n_0 (pc' := 49) dX4_spellIn_48 rfl ?_
    refine wp_get_4_1 (pc' := 52) (by omega) rfl rfl me_X4_spellIn_1 ic_X4_spellIn_4 dX4_spellIn_49 rfl ?_
    refine wp_iload_n_2 (pc' := 53) dX4_spellIn_52 rfl ?_
    refine wp_iconst (pc' := 54) (1) dX4_spellIn_53 rfl (by decide) ?_
    refine wp_isub (pc' := 55) dX4_spellIn_54 rfl ?_
    rw [nI_pred' h1]
    refine wp_iald (pc' := 56) (N := 4) (by omega) rfl rfl (by first | exact vp_in_nI (by omega) (by omega) | assumption | (unfold vp_in; decide)) dX4_spellIn_55 rfl ?_
    rw [nI_clamp (by omega), q45.2 (s - 1) (by omega)]
    refine wp_iload_4 (pc' := 58) dX4_spellIn_56 rfl ?_
    refine wp_icmp_ne (pc' := 61) (tgt := 63) dX4_spellIn_58 rfl rfl (fun c58 => ?_) (fun c58 => ?_)
    · skip -- 58 taken
      refine wp_aload_n_0 (pc' := 64) dX4_spellIn_63 rfl ?_
      refine wp_iload_n_2 (pc' := 65) dX4_spellIn_64 rfl ?_
      refine wp_callVq (pc' := 68) (c_X4_turnOn (c := t) hn hs h1 (by omega) (fun j hj => by rw [q45.1 87 (by decide)]; exact hd j hj)) gX4_spellIn_X4_turnOn rfl rfl hy_X4_turnOn ⟨Nat.le_of_ble_eq_true rfl, Nat.le_of_ble_eq_true rfl⟩ ⟨rfl, rfl⟩ (Nat.le_of_ble_eq_true rfl) ⟨Nat.le_of_ble_eq_true rfl, Nat.le_of_ble_eq_true rfl⟩ (by omega) (ce4 rfl) rfl rfl dX4_spellIn_65 rfl (fun x65 h65 q65 => ?_)
      refine wp_istore_5 (pc' := 70) dX4_spellIn_68 (by decide) rfl rfl ?_
      refine wp_iinc_6 (pc' := 73) (v := nI (t + 1)) dX4_spellIn_70 (by first | rfl | exact nI_1 _) (by decide) rfl rfl ?_
      refine wp_goto (tgt := 29) dX4_spellIn_73 rfl ?_
      have e : t + 1 = N := by omega
      rw [e]
      refine wtail_spellIn hN2 (K2 _ (fun a h1 h2 => by rw [q65.1 a h1, q45.1 a h2]; exact e0 a h1 h2) (fun c' hc => ?_))
      by_cases z : c' = t
      · subst z; exact c58
      · exact hno c' (by omega)
    · skip -- 58 not taken
      refine wp_iconst (pc' := 62) (1) dX4_spellIn_61 rfl (by decide) ?_
      refine wp_zreturn rfl dX4_spellIn_62 rfl rfl (Nat.le_refl _) (Nat.le_refl _) ?_
      exact K1 _ t (by omega) (fun a h1 h2 => by rw [q45.1 a h2]; exact e0 a h1 h2) (fun j hj => by rw [q45.1 87 (by decide)]; exact hd j hj) c58 hno
  | succ d ih =>
    intro t ht f h' hf e0 hd he hno
    have q := q0.of_eq (e0 11 (by decide) (by decide))
    have sp := sp0.of_eq (e0 13 (by decide) (by decide))
    refine wp_iload_6 (pc' := 31) dX4_spellIn_29 rfl ?_
    refine wp_iload_n_3 (pc' := 32) dX4_spellIn_31 rfl ?_
    refine wp_icmp_ge (pc' := 35) (tgt := 76) dX4_spellIn_32 rfl rfl (fun c32 => by exfalso; (simp (disch := omega) only [Int32.lt_iff_toInt_lt, Int32.le_iff_toInt_le, ← Int32.toInt_inj, nI_toInt, il_0, il_1, il_2, il_3, il_4, il_5, il_6, il_8, il_9, il_10, il_16, il_26, il_32, il_40, il_n4, il_n1, il_n2, il_11, il_48, il_57, il_59, il_44, il_126, il_200, il_9999, il_66666, il_10000, il_1000000, il_15, il_12, il_256, il_4096, il_53, il_52] at c32; omega)) (fun c32 => ?_)
    refine wp_iload_5 (pc' := 37) dX4_spellIn_35 rfl ?_
    refine wp_if_lt (pc' := 40) (tgt := 76) dX4_spellIn_37 rfl rfl (fun c37 => by exfalso; exact absurd c37 (nI_pos (by omega))) (fun c37 => ?_)
    refine wp_aload_n_0 (pc' := 41) dX4_spellIn_40 rfl ?_
    refine wp_aload_n_1 (pc' := 42) dX4_spellIn_41 rfl ?_
    refine wp_iload_5 (pc' := 44) dX4_spellIn_42 rfl ?_
    refine wp_iload_n_2 (pc' := 45) dX4_spellIn_44 rfl ?_
    refine wp_callVv (pc' := 48) (c_X4_endAgain hn q sp hs hf hd he) gX4_spellIn_X4_endAgain rfl rfl hy_X4_endAgain ⟨Nat.le_of_ble_eq_true rfl, Nat.le_of_ble_eq_true rfl⟩ ⟨rfl, rfl⟩ (Nat.le_of_ble_eq_true rfl) ⟨Nat.le_of_ble_eq_true rfl, Nat.le_of_ble_eq_true rfl⟩ (by omega) (ce4 rfl) rfl rfl dX4_spellIn_45 rfl (fun h45 q45 => ?_)
    refine wp_aload_n_0 (pc' := 49) dX4_spellIn_48 rfl ?_
    refine wp_get_4_1 (pc' := 52) (by omega) rfl rfl me_X4_spellIn_1 ic_X4_spellIn_4 dX4_spellIn_49 rfl ?_
    refine wp_iload_n_2 (pc' := 53) dX4_spellIn_52 rfl ?_
    refine wp_iconst (pc' := 54) (1) dX4_spellIn_53 rfl (by decide) ?_
    refine wp_isub (pc' := 55) dX4_spellIn_54 rfl ?_
    rw [nI_pred' h1]
    refine wp_iald (pc' := 56) (N := 4) (by omega) rfl rfl (by first | exact vp_in_nI (by omega) (by omega) | assumption | (unfold vp_in; decide)) dX4_spellIn_55 rfl ?_
    rw [nI_clamp (by omega), q45.2 (s - 1) (by omega)]
    refine wp_iload_4 (pc' := 58) dX4_spellIn_56 rfl ?_
    refine wp_icmp_ne (pc' := 61) (tgt := 63) dX4_spellIn_58 rfl rfl (fun c58 => ?_) (fun c58 => ?_)
    · skip -- 58 taken
      refine wp_aload_n_0 (pc' := 64) dX4_spellIn_63 rfl ?_
      refine wp_iload_n_2 (pc' := 65) dX4_spellIn_64 rfl ?_
      refine wp_callVq (pc' := 68) (c_X4_turnOn (c := t) hn hs h1 (by omega) (fun j hj => by rw [q45.1 87 (by decide)]; exact hd j hj)) gX4_spellIn_X4_turnOn rfl rfl hy_X4_turnOn ⟨Nat.le_of_ble_eq_true rfl, Nat.le_of_ble_eq_true rfl⟩ ⟨rfl, rfl⟩ (Nat.le_of_ble_eq_true rfl) ⟨Nat.le_of_ble_eq_true rfl, Nat.le_of_ble_eq_true rfl⟩ (by omega) (ce4 rfl) rfl rfl dX4_spellIn_65 rfl (fun x65 h65 q65 => ?_)
      refine wp_istore_5 (pc' := 70) dX4_spellIn_68 (by decide) rfl rfl ?_
      refine wp_iinc_6 (pc' := 73) (v := nI (t + 1)) dX4_spellIn_70 (by first | rfl | exact nI_1 _) (by decide) rfl rfl ?_
      refine wp_goto (tgt := 29) dX4_spellIn_73 rfl ?_
      obtain ⟨z0, z1⟩ := q65
      rw [if_pos (by omega)] at z1
      obtain ⟨z2, i, hi, zx, z3⟩ := z1
      subst zx
      refine ih (t + 1) (by omega) i _ (by omega) (fun a h1 h2 => by rw [z0 a h1, q45.1 a h2]; exact e0 a h1 h2) z2 (fun j hj => ?_) (fun c' hc => ?_)
      · rw [z0 88 (by decide), q45.2 j (by omega)]
        unfold WE
        rw [fw_congr (fun j' hj' => (z3 j' (by omega)).symm)]
      · by_cases z : c' = t
        · subst z; exact c58
        · exact hno c' (by omega)
    · skip -- 58 not taken
      refine wp_iconst (pc' := 62) (1) dX4_spellIn_61 rfl (by decide) ?_
      refine wp_zreturn rfl dX4_spellIn_62 rfl rfl (Nat.le_refl _) (Nat.le_refl _) ?_
      exact K1 _ t (by omega) (fun a h1 h2 => by rw [q45.1 a h2]; exact e0 a h1 h2) (fun j hj => by rw [q45.1 87 (by decide)]; exact hd j hj) c58 hno
theorem c_X4_spellIn {R C s N : Nat} {mk : Nat → Nat} {g : Int32} (hn : 89 ≤ n) (q : ShL h 11 R C) (sp : Sp h R C mk) (hs : s ≤ 4) (h1 : 1 ≤ s) (hN : N = 6 ^ s) : Ctr l D cy B yX4_spellIn wsX4_spellIn rmX4_spellIn 0 0 n (rf0 π) h lg [.ref (B + 86), .ref (B + 10), .int (nI s), .int (nI N), .int g] (qI (fun x h' => (∀ a, a ≠ 87 → a ≠ 88 → h' a = h a) ∧ ((x = 1 ∧ ∃ c, c < N ∧ (∀ j, j < s → h' 87 j = nI (dg s c j)) ∧ KW R C mk g s c ∧ ∀ c', c' < c → ¬ KW R C mk g s c') ∨ (x = 0 ∧ ∀ c', c' < N → ¬ KW R C mk g s c'))) (rf0 π) lg) := by
  have hN2 : N ≤ 1296 := by rw [hN]; exact p6_le s hs
  have hN1 : 1 ≤ N := by rw [hN]; exact Nat.pos_of_ne_zero (by intro z; have := Nat.pow_eq_zero.mp z; omega)
  refine Ctr.of (cc := cX4_spellIn) (nL := 7) (own := RX4) (rt := (some .boolean)) (ls := [some (.ref (B + 86)), some (.ref (B + 10)), some (.int (nI s)), some (.int (nI N)), some (.int g), none, none]) (by decide) rfl rfl (Nat.le_of_ble_eq_true rfl) rfl ?_
  refine wp_iconst (pc' := 1) (0) dX4_spellIn_0 rfl (by decide) ?_
  refine wp_istore_5 (pc' := 3) dX4_spellIn_1 (by decide) rfl rfl ?_
  refine lp_X4_spellIn0 hn h (fun h' e0 e1 a5 => ?_) 4 0 (by omega) h (fun _ _ => rfl) (fun j hj => by omega)
  refine wp_iconst (pc' := 24) (0) dX4_spellIn_23 rfl (by decide) ?_
  refine wp_istore_5 (pc' := 26) dX4_spellIn_24 (by decide) rfl rfl ?_
  refine wp_iconst (pc' := 27) (0) dX4_spellIn_26 rfl (by decide) ?_
  refine wp_istore_6 (pc' := 29) dX4_spellIn_27 (by decide) rfl rfl ?_
  refine lp_X4_spellIn hn h q sp hs h1 hN hN2 (fun h2 c hc f0 f1 f2 f3 => qI_of ⟨f0, Or.inl ⟨rfl, c, hc, f1, f2, f3⟩⟩) (fun h2 f0 f1 => qI_of ⟨f0, Or.inr ⟨rfl, f1⟩⟩) (N - 1) 0 (by omega) 0 h' (by omega) (fun a z1 _ => e0 a z1) (fun j hj => by rw [e1 j (by omega), dg_0]; rfl) (fun i hi => by omega) (fun c' hc => by omega)
def KFirst (R C : Nat) (mk : Nat → Nat) (g : Int32) (s c : Nat) : Prop := 1 ≤ s ∧ s ≤ 4 ∧ c < 6 ^ s ∧ KW R C mk g s c ∧ (∀ c', c' < c → ¬ KW R C mk g s c') ∧ ∀ s' c', 1 ≤ s' → s' < s → c' < 6 ^ s' → ¬ KW R C mk g s' c'
theorem lp_X4_spell {R C : Nat} {mk : Nat → Nat} {g : Int32} {post : PO} (hn : 89 ≤ n) (H0 : Hp) (q0 : ShL H0 11 R C) (sp0 : Sp H0 R C mk)
    (K1 : ∀ h' s c, (∀ a, a ≠ 87 → a ≠ 88 → h' a = H0 a) → KFirst R C mk g s c → (∀ j, j < s → h' 87 j = nI (dg s c j)) → post (some (.int (nI s))) (rf0 π) h' lg)
    (K2 : ∀ h', (∀ a, a ≠ 87 → a ≠ 88 → h' a = H0 a) → (∀ s c, 1 ≤ s → s ≤ 4 → c < 6 ^ s → ¬ KW R C mk g s c) → post (some (.int 0)) (rf0 π) h' lg) :
    ∀ d e : Nat, e + d = 4 → ∀ h', (∀ a, a ≠ 87 → a ≠ 88 → h' a = H0 a) → (∀ s c, 1 ≤ s → s ≤ e → c < 6 ^ s → ¬ KW R C mk g s c) → WP l D cy B cX4_spell 5 RX4 wsX4_spell rmX4_spell (some .int) (QE0 D cy B n 0 0 (post)) EX0 n (rf0 π) h' lg 0 0 5 [some (.ref (B + 86)), some (.ref (B + 10)), some (.int g), some (.int (nI (6 ^ e))), some (.int (nI (e + 1)))] [] := by
  intro d
  induction d with
  | zero =>
    intro e he h' e0 hno
    have : e = 4 := by omega
    subst this
    refine wp_iload_4 (pc' := 7) dX4_spell_5 rfl ?_
    refine wp_iconst (pc' := 8) (4) dX4_spell_7 rfl (by decide) ?_
    refine wp_icmp_gt (pc' := 11) (tgt := 37) dX4_spell_8 rfl rfl (fun c8 => ?_) (fun c8 => by exfalso; exact c8 (by decide))
    refine wp_iconst (pc' := 38) (0) dX4_spell_37 rfl (by decide) ?_
    refine wp_ireturn dX4_spell_38 rfl rfl (Nat.le_refl _) (Nat.le_refl _) ?_
    exact K2 h' e0 hno
  | succ d ih =>
    intro e he h' e0 hno
    have q := q0.of_eq (e0 11 (by decide) (by decide))
    have sp := sp0.of_eq (e0 13 (by decide) (by decide))
    refine wp_iload_4 (pc' := 7) dX4_spell_5 rfl ?_
    refine wp_iconst (pc' := 8) (4) dX4_spell_7 rfl (by decide) ?_
    refine wp_icmp_gt (pc' := 11) (tgt := 37) dX4_spell_8 rfl rfl (fun c8 => by exfalso; (simp (disch := omega) only [Int32.lt_iff_toInt_lt, Int32.le_iff_toInt_le, ← Int32.toInt_inj, nI_toInt, il_0, il_1, il_2, il_3, il_4, il_5, il_6, il_8, il_9, il_10, il_16, il_26, il_32, il_40, il_n4, il_n1, il_n2, il_11, il_48, il_57, il_59, il_44, il_126, il_200, il_9999, il_66666, il_10000, il_1000000, il_15, il_12, il_256, il_4096, il_53, il_52] at c8; omega)) (fun c8 => ?_)
    refine wp_iload_n_3 (pc' := 12) dX4_spell_11 rfl ?_
    refine wp_bipush (pc' := 14) (6) dX4_spell_12 rfl (by decide) ?_
    refine wp_imul (pc' := 15) dX4_spell_14 rfl ?_
    rw [show nI (6 ^ e) * 6 = nI (6 ^ (e + 1)) by rw [show (6 : Int32) = nI 6 from rfl, nI_mul, Nat.pow_succ]]
    refine wp_istore_n_3 (pc' := 16) dX4_spell_15 (by decide) rfl rfl ?_
    refine wp_aload_n_0 (pc' := 17) dX4_spell_16 rfl ?_
    refine wp_aload_n_1 (pc' := 18) dX4_spell_17 rfl ?_
    refine wp_iload_4 (pc' := 20) dX4_spell_18 rfl ?_
    refine wp_iload_n_3 (pc' := 21) dX4_spell_20 rfl ?_
    refine wp_iload_n_2 (pc' := 22) dX4_spell_21 rfl ?_
    refine wp_callVq (pc' := 25) (c_X4_spellIn hn q sp (by omega) (by omega) rfl) gX4_spell_X4_spellIn rfl rfl hy_X4_spellIn ⟨Nat.le_of_ble_eq_true rfl, Nat.le_of_ble_eq_true rfl⟩ ⟨rfl, rfl⟩ (Nat.le_of_ble_eq_true rfl) ⟨Nat.le_of_ble_eq_true rfl, Nat.le_of_ble_eq_true rfl⟩ (by omega) (ce4 rfl) rfl rfl dX4_spell_22 rfl (fun x22 h22 q22 => ?_)
    refine wp_if_eq (pc' := 28) (tgt := 31) dX4_spell_25 rfl rfl (fun c25 => ?_) (fun c25 => ?_)
    · skip -- 25 taken
      refine wp_iinc_4 (pc' := 34) (v := nI (e + 1 + 1)) dX4_spell_31 (by first | rfl | exact nI_1 _) (by decide) rfl rfl ?_
      refine wp_goto (tgt := 5) dX4_spell_34 rfl ?_
      obtain ⟨z0, ⟨zx, _⟩ | ⟨zx, z1⟩⟩ := q22
      · rw [zx] at c25; exact absurd c25 (by decide)
      · refine ih (e + 1) (by omega) _ (fun a h1 h2 => by rw [z0 a h1 h2]; exact e0 a h1 h2) (fun s c h1 h2 h3 => ?_)
        by_cases es : s = e + 1
        · subst es; exact z1 c h3
        · exact hno s c h1 (by omega) h3
    · skip -- 25 not taken
      refine wp_iload_4 (pc' := 30) dX4_spell_28 rfl ?_
      refine wp_ireturn dX4_spell_30 rfl rfl (Nat.le_refl _) (Nat.le_refl _) ?_
      obtain ⟨z0, ⟨zx, c, z1, z2, z3, z4⟩ | ⟨zx, _⟩⟩ := q22
      · exact K1 _ (e + 1) c (fun a h1 h2 => by rw [z0 a h1 h2]; exact e0 a h1 h2) ⟨by omega, by omega, z1, z3, z4, fun s' c' h1 h2 h3 => hno s' c' h1 (by omega) h3⟩ z2
      · exact absurd zx c25
theorem c_X4_spell {R C : Nat} {mk : Nat → Nat} {g : Int32} (hn : 89 ≤ n) (q : ShL h 11 R C) (sp : Sp h R C mk) : Ctr l D cy B yX4_spell wsX4_spell rmX4_spell 0 0 n (rf0 π) h lg [.ref (B + 86), .ref (B + 10), .int g] (qI (fun x h' => (∀ a, a ≠ 87 → a ≠ 88 → h' a = h a) ∧ ((x = 0 ∧ ∀ s c, 1 ≤ s → s ≤ 4 → c < 6 ^ s → ¬ KW R C mk g s c) ∨ ∃ s c, x = nI s ∧ KFirst R C mk g s c ∧ ∀ j, j < s → h' 87 j = nI (dg s c j))) (rf0 π) lg) := by
  refine Ctr.of (cc := cX4_spell) (nL := 5) (own := RX4) (rt := (some .int)) (ls := [some (.ref (B + 86)), some (.ref (B + 10)), some (.int g), none, none]) (by decide) rfl rfl (Nat.le_of_ble_eq_true rfl) rfl ?_
  refine wp_iconst (pc' := 1) (1) dX4_spell_0 rfl (by decide) ?_
  refine wp_istore_n_3 (pc' := 2) dX4_spell_1 (by decide) rfl rfl ?_
  refine wp_iconst (pc' := 3) (1) dX4_spell_2 rfl (by decide) ?_
  refine wp_istore_4 (pc' := 5) dX4_spell_3 (by decide) rfl rfl ?_
  exact lp_X4_spell hn h q sp (fun h' s c e0 e1 e2 => qI_of ⟨e0, Or.inr ⟨s, c, rfl, e1, e2⟩⟩) (fun h' e0 e1 => qI_of ⟨e0, Or.inl ⟨rfl, e1⟩⟩) 4 0 (by omega) h (fun _ _ _ => rfl) (fun s c h1 h2 => by omega)
end VSQ

