abbrev rmX4_endAgain : Room := { frames := 2, cells := 0, slots := 0, locals := 43 }
theorem hy_X4_endAgain : yX4_endAgain.cls = RX4 ∧ yX4_endAgain.cls ≠ "java/lang/invoke/MethodHandle" ∧ yX4_endAgain.cls ≠ "java/lang/invoke/VarHandle" ∧ (parseMethodDescriptor yX4_endAgain.desc).map (fun d => d.parameters.length) = some 3 := by decide +kernel
theorem hz_X4_endAgain : yX4_endAgain.cls ≠ "java/lang/invoke/MethodHandle" ∧ yX4_endAgain.cls ≠ "java/lang/invoke/VarHandle" ∧ (parseMethodDescriptor yX4_endAgain.desc).map (fun d => d.parameters.length) = some 3 := by decide +kernel
abbrev rmX4_turnOn : Room := { frames := 1, cells := 0, slots := 0, locals := 21 }
theorem hy_X4_turnOn : yX4_turnOn.cls = RX4 ∧ yX4_turnOn.cls ≠ "java/lang/invoke/MethodHandle" ∧ yX4_turnOn.cls ≠ "java/lang/invoke/VarHandle" ∧ (parseMethodDescriptor yX4_turnOn.desc).map (fun d => d.parameters.length) = some 1 := by decide +kernel
theorem hz_X4_turnOn : yX4_turnOn.cls ≠ "java/lang/invoke/MethodHandle" ∧ yX4_turnOn.cls ≠ "java/lang/invoke/VarHandle" ∧ (parseMethodDescriptor yX4_turnOn.desc).map (fun d => d.parameters.length) = some 1 := by decide +kernel
theorem me_X4_endAgain_0 : Cond.fieldLink RX4 15 "DrawnByLost$Speller" "ends" "[I" ∈ wsX4_endAgain := by decide +kernel
theorem me_X4_endAgain_1 : Cond.fieldLink RX4 9 "DrawnByLost$Speller" "word" "[I" ∈ wsX4_endAgain := by decide +kernel
theorem me_X4_endAgain_2 : Cond.fieldLink RX4 36 "DrawnByLost$Finder" "land" "LDrawnByLost$Land;" ∈ wsX4_endAgain := by decide +kernel
theorem me_X4_endAgain_3 : Cond.fieldLink RX4 42 "DrawnByLost$Land" "all" "I" ∈ wsX4_endAgain := by decide +kernel
theorem me_X4_endAgain_4 : Cond.methodLink RX4 30 Lib.Math.max.name ∈ wsX4_endAgain := by decide +kernel
theorem me_X4_endAgain_5 : Cond.static Lib.Math.max.name ∈ wsX4_endAgain := by decide +kernel
theorem me_X4_endAgain_6 : Cond.initialized "java/lang/Math" ∈ wsX4_endAgain := by decide +kernel
theorem me_X4_endAgain_7 : Cond.code Lib.Math.max.name Lib.Math.max.code 2 (some .int) ∈ wsX4_endAgain := by decide +kernel
theorem me_X4_turnOn_0 : Cond.fieldLink RX4 9 "DrawnByLost$Speller" "word" "[I" ∈ wsX4_turnOn := by decide +kernel
theorem me_X4_turnOn_1 : Cond.methodLink RX4 54 Lib.Math.min.name ∈ wsX4_turnOn := by decide +kernel
theorem me_X4_turnOn_2 : Cond.static Lib.Math.min.name ∈ wsX4_turnOn := by decide +kernel
theorem me_X4_turnOn_3 : Cond.initialized "java/lang/Math" ∈ wsX4_turnOn := by decide +kernel
theorem me_X4_turnOn_4 : Cond.code Lib.Math.min.name Lib.Math.min.code 2 (some .int) ∈ wsX4_turnOn := by decide +kernel
theorem ic_X4_endAgain_4 : ∀ w ∈ wsX40, w ∈ wsX4_endAgain := by decide +kernel
theorem ic_X4_endAgain_0 : ∀ w ∈ wsX00, w ∈ wsX4_endAgain := by decide +kernel
theorem ic_X4_endAgain_1 : ∀ w ∈ wsX10, w ∈ wsX4_endAgain := by decide +kernel
theorem ic_X4_turnOn_4 : ∀ w ∈ wsX40, w ∈ wsX4_turnOn := by decide +kernel
-- Speller: the first word (its marks as a code) that ends in one set of places alone
section VSP
variable {l : Launch} {D : va_G} {cy : CY} {B n : Nat} {h : Hp} {lg : Lg} {π : Nat → Nat}
def dg (s c j : Nat) : Nat := c / 6 ^ (s - 1 - j) % 6
theorem dg_le (s c j : Nat) : dg s c j ≤ 5 := by unfold dg; have := Nat.mod_lt (c / 6 ^ (s - 1 - j)) (show 0 < 6 by decide); omega
def dgT : Bool := (List.range 5).all fun s => (List.range (6 ^ s)).all fun c => (List.range s).all fun i =>
  if (List.range s).all (fun j => decide (i < j) → decide (dg s c j = 5)) then
    (if dg s c i < 5 then decide (c + 1 < 6 ^ s) && decide (dg s (c + 1) i = dg s c i + 1) && (List.range s).all (fun j => if j < i then decide (dg s (c + 1) j = dg s c j) else if i < j then decide (dg s (c + 1) j = 0) else true)
      else (if i = 0 then decide (c + 1 = 6 ^ s) else true)) else true
theorem dgT_ok : dgT = true := by decide +kernel
theorem dg_next {s c i : Nat} (hs : s ≤ 4) (hc : c < 6 ^ s) (hi : i < s) (hh : ∀ j, i < j → j < s → dg s c j = 5) :
    (dg s c i < 5 → c + 1 < 6 ^ s ∧ dg s (c + 1) i = dg s c i + 1 ∧ (∀ j, j < i → dg s (c + 1) j = dg s c j) ∧ ∀ j, i < j → j < s → dg s (c + 1) j = 0) ∧ (dg s c i = 5 → i = 0 → c + 1 = 6 ^ s) := by
  have z := dgT_ok
  unfold dgT at z
  rw [List.all_eq_true] at z
  have z1 := z s (List.mem_range.mpr (by omega))
  rw [List.all_eq_true] at z1
  have z2 := z1 c (List.mem_range.mpr hc)
  rw [List.all_eq_true] at z2
  have z3 := z2 i (List.mem_range.mpr hi)
  rw [if_pos (by rw [List.all_eq_true]; intro j hj; have := hh j; simp only [decide_eq_true_eq]; intro q; exact this q (List.mem_range.mp hj))] at z3
  constructor
  · intro q
    rw [if_pos q, Bool.and_eq_true, Bool.and_eq_true, decide_eq_true_eq, decide_eq_true_eq, List.all_eq_true] at z3
    obtain ⟨⟨a1, a2⟩, a3⟩ := z3
    refine ⟨a1, a2, fun j hj => ?_, fun j h1 h2 => ?_⟩
    · have := a3 j (List.mem_range.mpr (by omega)); rw [if_pos hj, decide_eq_true_eq] at this; exact this
    · have := a3 j (List.mem_range.mpr h2); rw [if_neg (by omega), if_pos h1, decide_eq_true_eq] at this; exact this
  · intro q q0
    rw [if_neg (by omega), if_pos q0, decide_eq_true_eq] at z3
    exact z3
theorem cf_congr {κ R C : Nat} {mk t t' : Nat → Nat} {f0 : Nat → Bool} : ∀ {i : Nat}, (∀ j, j ≤ i → t j = t' j) → ∀ x, cf κ R C mk t f0 i x = cf κ R C mk t' f0 i x := by
  intro i
  induction i with
  | zero => intro e x; simp only [cf]; rw [e 0 (Nat.le_refl _)]
  | succ i ih =>
    intro e x
    rw [cf_s, cf_s, e (i + 1) (Nat.le_refl _)]
    congr 1
    exact sumN_congr fun y _ => by rw [ih (fun j hj => e j (by omega))]
theorem fw_congr {κ R C : Nat} {mk t t' : Nat → Nat} {f0 : Nat → Bool} {i : Nat} (e : ∀ j, j ≤ i → t j = t' j) : fw κ R C mk t f0 i = fw κ R C mk t' f0 i := by
  funext x; unfold fw; rw [cf_congr e]
def WE (R C : Nat) (mk : Nat → Nat) (s c i : Nat) : Nat → Bool := fw 0 R C mk (dg s c) (fun _ => true) i
theorem fw_s_pred {κ R C : Nat} {mk t : Nat → Nat} {f0 : Nat → Bool} {i x : Nat} (hi : 1 ≤ i) : fw κ R C mk t f0 i x = (rch κ R C (fw κ R C mk t f0 (i - 1)) x && atB R C mk (t i) x) := by
  obtain ⟨j, rfl⟩ : ∃ j, i = j + 1 := ⟨i - 1, by omega⟩
  exact fw_s κ R C mk t f0 j x
theorem lp_X4_endAgain {R C s c : Nat} {mk : Nat → Nat} {post : PO} (hn : 89 ≤ n) (H0 : Hp) (q0 : ShL H0 11 R C) (sp0 : Sp H0 R C mk) (hs : s ≤ 4) (hd : ∀ j, j < s → H0 87 j = nI (dg s c j)) {f : Nat}
    (K : ∀ h', (∀ a, a ≠ 88 → h' a = H0 a) → (∀ i, i < s → h' 88 i = S (WE R C mk s c i)) → ∀ a4 a5, WP l D cy B cX4_endAgain 6 RX4 wsX4_endAgain rmX4_endAgain none (QE0 D cy B n 0 0 (post)) EX0 n (rf0 π) h' lg 0 0 79 [some (.ref (B + 86)), some (.ref (B + 10)), some (.int (nI f)), some (.int (nI s)), a4, a5] []) :
    ∀ d i : Nat, i + d = s → ∀ h', (∀ a, a ≠ 88 → h' a = H0 a) → (∀ k, k < i → h' 88 k = S (WE R C mk s c k)) → ∀ a5, WP l D cy B cX4_endAgain 6 RX4 wsX4_endAgain rmX4_endAgain none (QE0 D cy B n 0 0 (post)) EX0 n (rf0 π) h' lg 0 0 7 [some (.ref (B + 86)), some (.ref (B + 10)), some (.int (nI f)), some (.int (nI s)), some (.int (nI i)), a5] [] := by
  intro d
  induction d with
  | zero =>
    intro i hi h' e0 e1 a5
    have : i = s := by omega
    subst this
    refine wp_iload_4 (pc' := 9) dX4_endAgain_7 rfl ?_
    refine wp_iload_n_3 (pc' := 10) dX4_endAgain_9 rfl ?_
    refine wp_icmp_ge (pc' := 13) (tgt := 79) dX4_endAgain_10 rfl rfl (fun c10 => ?_) (fun c10 => by exfalso; (simp (disch := omega) only [Int32.lt_iff_toInt_lt, Int32.le_iff_toInt_le, ← Int32.toInt_inj, nI_toInt, il_0, il_1, il_2, il_3, il_4, il_5, il_6, il_8, il_9, il_10, il_16, il_26, il_32, il_40, il_n4, il_n1, il_n2, il_11, il_48, il_57, il_59, il_44, il_126, il_200, il_9999, il_66666, il_10000, il_1000000, il_15, il_12, il_256, il_4096, il_53, il_52] at c10; omega))
    exact K h' e0 e1 _ _
  | succ d ih =>
    intro i hi h' e0 e1 a5
    have q := q0.of_eq (e0 11 (by decide))
    have sp := sp0.of_eq (e0 13 (by decide))
    have hdi := dg_le s c i
    have w6 : h' 87 i = nI (dg s c i) := by rw [e0 87 (by decide)]; exact hd i (by omega)
    have key : ∀ z : Nat → Bool, (∀ x, (z x && atB R C mk (dg s c i) x) = WE R C mk s c i x) → ∀ b5, WP l D cy B cX4_endAgain 6 RX4 wsX4_endAgain rmX4_endAgain none (QE0 D cy B n 0 0 (post)) EX0 n (rf0 π) h' lg 0 0 50 [some (.ref (B + 86)), some (.ref (B + 10)), some (.int (nI f)), some (.int (nI s)), some (.int (nI i)), b5] [.int (S z)] := by
      intro z hz b5
      refine wp_istore_5 (pc' := 52) dX4_endAgain_50 (by decide) rfl rfl ?_
      refine wp_aload_n_0 (pc' := 53) dX4_endAgain_52 rfl ?_
      refine wp_get_4_1 (pc' := 56) (by omega) rfl rfl me_X4_endAgain_0 ic_X4_endAgain_4 dX4_endAgain_53 rfl ?_
      refine wp_iload_4 (pc' := 58) dX4_endAgain_56 rfl ?_
      refine wp_iload_5 (pc' := 60) dX4_endAgain_58 rfl ?_
      refine wp_aload_n_1 (pc' := 61) dX4_endAgain_60 rfl ?_
      refine wp_aload_n_0 (pc' := 62) dX4_endAgain_61 rfl ?_
      refine wp_get_4_0 (pc' := 65) (by omega) rfl rfl me_X4_endAgain_1 ic_X4_endAgain_4 dX4_endAgain_62 rfl ?_
      refine wp_iload_4 (pc' := 67) dX4_endAgain_65 rfl ?_
      refine wp_iald (pc' := 68) (N := 4) (by omega) rfl rfl (by first | exact vp_in_nI (by omega) (by omega) | assumption | (unfold vp_in; decide)) dX4_endAgain_67 rfl ?_
      rw [nI_clamp (by omega), w6]
      refine wp_callVu (pc' := 71) (c_X0_placesOf hn sp hdi) gX4_endAgain_X0_placesOf rfl rfl hy_X0_placesOf ⟨Nat.le_of_ble_eq_true rfl, Nat.le_of_ble_eq_true rfl⟩ ⟨rfl, rfl⟩ (Nat.le_of_ble_eq_true rfl) ⟨Nat.le_of_ble_eq_true rfl, Nat.le_of_ble_eq_true rfl⟩ (by omega) (ce0 rfl) rfl rfl dX4_endAgain_68 rfl ?_
      refine wp_iand (pc' := 72) dX4_endAgain_71 rfl ?_
      rw [S_and, S_ext (fun x _ => hz x)]
      refine wp_iast (pc' := 73) (N := 4) (by omega) rfl rfl (by first | exact vp_in_nI (by omega) (by omega) | assumption | (unfold vp_in; decide)) dX4_endAgain_72 rfl ?_
      refine wp_iinc_4 (pc' := 76) (v := nI (i + 1)) dX4_endAgain_73 (by first | rfl | exact nI_1 _) (by decide) rfl rfl ?_
      refine wp_goto (tgt := 7) dX4_endAgain_76 rfl ?_
      rw [nI_clamp (by omega)]
      refine ih (i + 1) (by omega) _ (fun a ha => by rw [hup_cell ha]; exact e0 a ha) (fun k hk => ?_) _
      by_cases e : k = i
      · subst e; rw [hup_at]
      · rw [hup_off e]; exact e1 k (by omega)
    by_cases i0 : i = 0
    · subst i0
      refine wp_iload_4 (pc' := 9) dX4_endAgain_7 rfl ?_
      refine wp_iload_n_3 (pc' := 10) dX4_endAgain_9 rfl ?_
      refine wp_icmp_ge (pc' := 13) (tgt := 79) dX4_endAgain_10 rfl rfl (fun c10 => by exfalso; (simp (disch := omega) only [Int32.lt_iff_toInt_lt, Int32.le_iff_toInt_le, ← Int32.toInt_inj, nI_toInt, il_0, il_1, il_2, il_3, il_4, il_5, il_6, il_8, il_9, il_10, il_16, il_26, il_32, il_40, il_n4, il_n1, il_n2, il_11, il_48, il_57, il_59, il_44, il_126, il_200, il_9999, il_66666, il_10000, il_1000000, il_15, il_12, il_256, il_4096, il_53, il_52] at c10; omega)) (fun c10 => ?_)
      refine wp_iload_4 (pc' := 15) dX4_endAgain_13 rfl ?_
      refine wp_iconst (pc' := 16) (4) dX4_endAgain_15 rfl (by decide) ?_
      refine wp_icmp_ge (pc' := 19) (tgt := 79) dX4_endAgain_16 rfl rfl (fun c16 => by exfalso; (simp (disch := omega) only [Int32.lt_iff_toInt_lt, Int32.le_iff_toInt_le, ← Int32.toInt_inj, nI_toInt, il_0, il_1, il_2, il_3, il_4, il_5, il_6, il_8, il_9, il_10, il_16, il_26, il_32, il_40, il_n4, il_n1, il_n2, il_11, il_48, il_57, il_59, il_44, il_126, il_200, il_9999, il_66666, il_10000, il_1000000, il_15, il_12, il_256, il_4096, il_53, il_52] at c16; omega)) (fun c16 => ?_)
      refine wp_iload_4 (pc' := 21) dX4_endAgain_19 rfl ?_
      refine wp_if_ne (pc' := 24) (tgt := 34) dX4_endAgain_21 rfl rfl (fun c21 => by exfalso; exact c21 (by decide)) (fun c21 => ?_)
      refine wp_aload_n_1 (pc' := 25) dX4_endAgain_24 rfl ?_
      refine wp_get_0_0 (pc' := 28) (by omega) rfl rfl me_X4_endAgain_2 ic_X4_endAgain_0 dX4_endAgain_25 rfl ?_
      refine wp_get_1_2 (pc' := 31) (by omega) rfl me_X4_endAgain_3 ic_X4_endAgain_1 dX4_endAgain_28 rfl ?_
      rw [q.all]
      refine wp_goto (tgt := 50) dX4_endAgain_31 rfl ?_
      exact key _ (fun x => by unfold WE; rw [← fw_all, fw_0]) _
    · skip
      refine wp_iload_4 (pc' := 9) dX4_endAgain_7 rfl ?_
      refine wp_iload_n_3 (pc' := 10) dX4_endAgain_9 rfl ?_
      refine wp_icmp_ge (pc' := 13) (tgt := 79) dX4_endAgain_10 rfl rfl (fun c10 => by exfalso; (simp (disch := omega) only [Int32.lt_iff_toInt_lt, Int32.le_iff_toInt_le, ← Int32.toInt_inj, nI_toInt, il_0, il_1, il_2, il_3, il_4, il_5, il_6, il_8, il_9, il_10, il_16, il_26, il_32, il_40, il_n4, il_n1, il_n2, il_11, il_48, il_57, il_59, il_44, il_126, il_200, il_9999, il_66666, il_10000, il_1000000, il_15, il_12, il_256, il_4096, il_53, il_52] at c10; omega)) (fun c10 => ?_)
      refine wp_iload_4 (pc' := 15) dX4_endAgain_13 rfl ?_
      refine wp_iconst (pc' := 16) (4) dX4_endAgain_15 rfl (by decide) ?_
      refine wp_icmp_ge (pc' := 19) (tgt := 79) dX4_endAgain_16 rfl rfl (fun c16 => by exfalso; (simp (disch := omega) only [Int32.lt_iff_toInt_lt, Int32.le_iff_toInt_le, ← Int32.toInt_inj, nI_toInt, il_0, il_1, il_2, il_3, il_4, il_5, il_6, il_8, il_9, il_10, il_16, il_26, il_32, il_40, il_n4, il_n1, il_n2, il_11, il_48, il_57, il_59, il_44, il_126, il_200, il_9999, il_66666, il_10000, il_1000000, il_15, il_12, il_256, il_4096, il_53, il_52] at c16; omega)) (fun c16 => ?_)
      refine wp_iload_4 (pc' := 21) dX4_endAgain_19 rfl ?_
      refine wp_if_ne (pc' := 24) (tgt := 34) dX4_endAgain_21 rfl rfl (fun c21 => ?_) (fun c21 => by exfalso; (simp (disch := omega) only [Int32.lt_iff_toInt_lt, Int32.le_iff_toInt_le, ← Int32.toInt_inj, nI_toInt, il_0, il_1, il_2, il_3, il_4, il_5, il_6, il_8, il_9, il_10, il_16, il_26, il_32, il_40, il_n4, il_n1, il_n2, il_11, il_48, il_57, il_59, il_44, il_126, il_200, il_9999, il_66666, il_10000, il_1000000, il_15, il_12, il_256, il_4096, il_53, il_52] at c21; omega))
      refine wp_aload_n_1 (pc' := 35) dX4_endAgain_34 rfl ?_
      refine wp_get_0_0 (pc' := 38) (by omega) rfl rfl me_X4_endAgain_2 ic_X4_endAgain_0 dX4_endAgain_35 rfl ?_
      refine wp_aload_n_0 (pc' := 39) dX4_endAgain_38 rfl ?_
      refine wp_get_4_1 (pc' := 42) (by omega) rfl rfl me_X4_endAgain_0 ic_X4_endAgain_4 dX4_endAgain_39 rfl ?_
      refine wp_iload_4 (pc' := 44) dX4_endAgain_42 rfl ?_
      refine wp_iconst (pc' := 45) (1) dX4_endAgain_44 rfl (by decide) ?_
      refine wp_isub (pc' := 46) dX4_endAgain_45 rfl ?_
      rw [nI_pred' (by omega)]
      refine wp_iald (pc' := 47) (N := 4) (by omega) rfl rfl (by first | exact vp_in_nI (by omega) (by omega) | assumption | (unfold vp_in; decide)) dX4_endAgain_46 rfl ?_
      rw [nI_clamp (by omega), e1 (i - 1) (by omega)]
      refine wp_callVu (pc' := 50) (c_X1_beside hn la11 q (fw_sup 0 R C mk (dg s c) (fun _ => true) (i - 1))) gX4_endAgain_X1_beside rfl rfl hy_X1_beside ⟨Nat.le_of_ble_eq_true rfl, Nat.le_of_ble_eq_true rfl⟩ ⟨rfl, rfl⟩ (Nat.le_of_ble_eq_true rfl) ⟨Nat.le_of_ble_eq_true rfl, Nat.le_of_ble_eq_true rfl⟩ (by omega) (ce1 rfl) rfl rfl dX4_endAgain_47 rfl ?_
      exact key _ (fun x => by rw [← fw_s_pred (by omega)]; rfl) _
theorem c_X4_endAgain {R C s c f : Nat} {mk : Nat → Nat} (hn : 89 ≤ n) (q : ShL h 11 R C) (sp : Sp h R C mk) (hs : s ≤ 4) (hf : f ≤ s) (hd : ∀ j, j < s → h 87 j = nI (dg s c j)) (he : ∀ i, i < f → h 88 i = S (WE R C mk s c i)) : Ctr l D cy B yX4_endAgain wsX4_endAgain rmX4_endAgain 0 0 n (rf0 π) h lg [.ref (B + 86), .ref (B + 10), .int (nI f), .int (nI s)] (qV (fun h' => (∀ a, a ≠ 88 → h' a = h a) ∧ ∀ i, i < s → h' 88 i = S (WE R C mk s c i)) (rf0 π) lg) := by
  refine Ctr.of (cc := cX4_endAgain) (nL := 6) (own := RX4) (rt := none) (ls := [some (.ref (B + 86)), some (.ref (B + 10)), some (.int (nI f)), some (.int (nI s)), none, none]) (by decide) rfl rfl (Nat.le_of_ble_eq_true rfl) rfl ?_
  refine wp_iload_n_2 (pc' := 1) dX4_endAgain_0 rfl ?_
  refine wp_iconst (pc' := 2) (0) dX4_endAgain_1 rfl (by decide) ?_
  refine wp_mmax (pc' := 5) me_X4_endAgain_4 me_X4_endAgain_5 me_X4_endAgain_6 me_X4_endAgain_7 (Nat.le_of_ble_eq_true rfl) (Nat.le_of_ble_eq_true rfl) ⟨Nat.le_of_ble_eq_true rfl, Nat.le_of_ble_eq_true rfl⟩ dX4_endAgain_2 rfl ?_
  rw [if_neg (nI_pos (by omega))]
  refine wp_istore_4 (pc' := 7) dX4_endAgain_5 (by decide) rfl rfl ?_
  refine lp_X4_endAgain hn h q sp hs hd (fun h' e0 e1 a4 a5 => ?_) (s - f) f (by omega) h (fun _ _ => rfl) he _
  refine wp_return dX4_endAgain_79 rfl rfl (Nat.le_refl _) (Nat.le_refl _) ?_
  exact qV_of ⟨e0, e1⟩
theorem wtail_turnOn {post : PO} {a0 a1 : Value} (K : post (some (.int (-1))) (rf0 π) h lg) : WP l D cy B cX4_turnOn 3 RX4 wsX4_turnOn rmX4_turnOn (some .int) (QE0 D cy B n 0 0 (post)) EX0 n (rf0 π) h lg 0 0 8 [some a0, some a1, some (.int (-1))] [] := by
  refine wp_iload_n_2 (pc' := 9) dX4_turnOn_8 rfl ?_
  refine wp_if_lt (pc' := 12) (tgt := 48) dX4_turnOn_9 rfl rfl (fun c9 => ?_) (fun c9 => by exfalso; exact c9 (by decide))
  refine wp_iconst (pc' := 49) (-1) dX4_turnOn_48 rfl (by decide) ?_
  refine wp_ireturn dX4_turnOn_49 rfl rfl (Nat.le_refl _) (Nat.le_refl _) ?_
  exact K
theorem lp_X4_turnOn {s c : Nat} {post : PO} (hn : 89 ≤ n) (H0 : Hp) (hs : s ≤ 4) (hc : c < 6 ^ s)
    (K1 : ∀ h' i, i < s → c + 1 < 6 ^ s → (∀ a, a ≠ 87 → h' a = H0 a) → (∀ j, j < s → h' 87 j = nI (dg s (c + 1) j)) → (∀ j, j < i → dg s (c + 1) j = dg s c j) → post (some (.int (nI i))) (rf0 π) h' lg)
    (K2 : ∀ h', ¬ c + 1 < 6 ^ s → (∀ a, a ≠ 87 → h' a = H0 a) → post (some (.int (-1))) (rf0 π) h' lg) :
    ∀ i, i < s → ∀ h', (∀ a, a ≠ 87 → h' a = H0 a) → (∀ j, j ≤ i → h' 87 j = nI (dg s c j)) → (∀ j, i < j → j < s → h' 87 j = 0 ∧ dg s c j = 5) → WP l D cy B cX4_turnOn 3 RX4 wsX4_turnOn rmX4_turnOn (some .int) (QE0 D cy B n 0 0 (post)) EX0 n (rf0 π) h' lg 0 0 8 [some (.ref (B + 86)), some (.int (nI s)), some (.int (nI i))] [] := by
  intro i
  induction i with
  | zero =>
    intro hi h' e0 e1 e2
    have z := dg_next hs hc hi (fun j h1 h2 => (e2 j h1 h2).2)
    have hdi := dg_le s c 0
    refine wp_iload_n_2 (pc' := 9) dX4_turnOn_8 rfl ?_
    refine wp_if_lt (pc' := 12) (tgt := 48) dX4_turnOn_9 rfl rfl (fun c9 => by exfalso; exact absurd c9 (by decide)) (fun c9 => ?_)
    refine wp_aload_n_0 (pc' := 13) dX4_turnOn_12 rfl ?_
    refine wp_get_4_0 (pc' := 16) (by omega) rfl rfl me_X4_turnOn_0 ic_X4_turnOn_4 dX4_turnOn_13 rfl ?_
    refine wp_iload_n_2 (pc' := 17) dX4_turnOn_16 rfl ?_
    refine wp_dup2 (pc' := 18) dX4_turnOn_17 rfl rfl rfl ?_
    refine wp_iald (pc' := 19) (N := 4) (by omega) rfl rfl (by first | exact vp_in_nI (by omega) (by omega) | assumption | (unfold vp_in; decide)) dX4_turnOn_18 rfl ?_
    rw [show (nI 0).toNatClampNeg = 0 from rfl, e1 0 (by omega)]
    refine wp_iconst (pc' := 20) (1) dX4_turnOn_19 rfl (by decide) ?_
    refine wp_iadd (pc' := 21) dX4_turnOn_20 rfl ?_
    rw [nI_1]
    refine wp_iast (pc' := 22) (N := 4) (by omega) rfl rfl (by first | exact vp_in_nI (by omega) (by omega) | assumption | (unfold vp_in; decide)) dX4_turnOn_21 rfl ?_
    refine wp_aload_n_0 (pc' := 23) dX4_turnOn_22 rfl ?_
    refine wp_get_4_0 (pc' := 26) (by omega) rfl rfl me_X4_turnOn_0 ic_X4_turnOn_4 dX4_turnOn_23 rfl ?_
    refine wp_iload_n_2 (pc' := 27) dX4_turnOn_26 rfl ?_
    refine wp_iald (pc' := 28) (N := 4) (by omega) rfl rfl (by first | exact vp_in_nI (by omega) (by omega) | assumption | (unfold vp_in; decide)) dX4_turnOn_27 rfl ?_
    rw [show (nI 0).toNatClampNeg = 0 from rfl, hup_at]
    refine wp_bipush (pc' := 30) (6) dX4_turnOn_28 rfl (by decide) ?_
    refine wp_icmp_ge (pc' := 33) (tgt := 35) dX4_turnOn_30 rfl rfl (fun c30 => ?_) (fun c30 => ?_)
    · skip -- 30 taken
      have h5 : dg s c 0 = 5 := by (simp (disch := omega) only [Int32.lt_iff_toInt_lt, Int32.le_iff_toInt_le, ← Int32.toInt_inj, nI_toInt, il_0, il_1, il_2, il_3, il_4, il_5, il_6, il_8, il_9, il_10, il_16, il_26, il_32, il_40, il_n4, il_n1, il_n2, il_11, il_48, il_57, il_59, il_44, il_126, il_200, il_9999, il_66666, il_10000, il_1000000, il_15, il_12, il_256, il_4096, il_53, il_52] at c30; omega)
      refine wp_aload_n_0 (pc' := 36) dX4_turnOn_35 rfl ?_
      refine wp_get_4_0 (pc' := 39) (by omega) rfl rfl me_X4_turnOn_0 ic_X4_turnOn_4 dX4_turnOn_36 rfl ?_
      refine wp_iload_n_2 (pc' := 40) dX4_turnOn_39 rfl ?_
      refine wp_iconst (pc' := 41) (0) dX4_turnOn_40 rfl (by decide) ?_
      refine wp_iast (pc' := 42) (N := 4) (by omega) rfl rfl (by first | exact vp_in_nI (by omega) (by omega) | assumption | (unfold vp_in; decide)) dX4_turnOn_41 rfl ?_
      refine wp_iinc_2 (pc' := 45) dX4_turnOn_42 rfl (by decide) rfl rfl ?_
      refine wp_goto (tgt := 8) dX4_turnOn_45 rfl ?_
      refine wtail_turnOn ?_
      exact K2 _ (by have := z.2 h5 rfl; omega) (fun a ha => by rw [hup_cell ha, hup_cell ha]; exact e0 a ha)
    · skip -- 30 not taken
      have h5 : dg s c 0 < 5 := by (simp (disch := omega) only [Int32.lt_iff_toInt_lt, Int32.le_iff_toInt_le, ← Int32.toInt_inj, nI_toInt, il_0, il_1, il_2, il_3, il_4, il_5, il_6, il_8, il_9, il_10, il_16, il_26, il_32, il_40, il_n4, il_n1, il_n2, il_11, il_48, il_57, il_59, il_44, il_126, il_200, il_9999, il_66666, il_10000, il_1000000, il_15, il_12, il_256, il_4096, il_53, il_52] at c30; omega)
      refine wp_iload_n_2 (pc' := 34) dX4_turnOn_33 rfl ?_
      refine wp_ireturn dX4_turnOn_34 rfl rfl (Nat.le_refl _) (Nat.le_refl _) ?_
      obtain ⟨z1, z2, z3, z4⟩ := z.1 h5
      refine K1 _ 0 hi z1 (fun a ha => by rw [hup_cell ha]; exact e0 a ha) (fun j hj => ?_) z3
      by_cases e : j = 0
      · subst e; rw [hup_at, z2]
      · rw [hup_off e, z4 j (by omega) hj, (e2 j (by omega) hj).1]; rfl
  | succ i ih =>
    intro hi h' e0 e1 e2
    have z := dg_next hs hc hi (fun j h1 h2 => (e2 j h1 h2).2)
    have hdi := dg_le s c (i + 1)
    refine wp_iload_n_2 (pc' := 9) dX4_turnOn_8 rfl ?_
    refine wp_if_lt (pc' := 12) (tgt := 48) dX4_turnOn_9 rfl rfl (fun c9 => by exfalso; exact absurd c9 (nI_pos (by omega))) (fun c9 => ?_)
    refine wp_aload_n_0 (pc' := 13) dX4_turnOn_12 rfl ?_
    refine wp_get_4_0 (pc' := 16) (by omega) rfl rfl me_X4_turnOn_0 ic_X4_turnOn_4 dX4_turnOn_13 rfl ?_
    refine wp_iload_n_2 (pc' := 17) dX4_turnOn_16 rfl ?_
    refine wp_dup2 (pc' := 18) dX4_turnOn_17 rfl rfl rfl ?_
    refine wp_iald (pc' := 19) (N := 4) (by omega) rfl rfl (by first | exact vp_in_nI (by omega) (by omega) | assumption | (unfold vp_in; decide)) dX4_turnOn_18 rfl ?_
    rw [nI_clamp (by omega), e1 (i + 1) (by omega)]
    refine wp_iconst (pc' := 20) (1) dX4_turnOn_19 rfl (by decide) ?_
    refine wp_iadd (pc' := 21) dX4_turnOn_20 rfl ?_
    rw [nI_1]
    refine wp_iast (pc' := 22) (N := 4) (by omega) rfl rfl (by first | exact vp_in_nI (by omega) (by omega) | assumption | (unfold vp_in; decide)) dX4_turnOn_21 rfl ?_
    refine wp_aload_n_0 (pc' := 23) dX4_turnOn_22 rfl ?_
    refine wp_get_4_0 (pc' := 26) (by omega) rfl rfl me_X4_turnOn_0 ic_X4_turnOn_4 dX4_turnOn_23 rfl ?_
    refine wp_iload_n_2 (pc' := 27) dX4_turnOn_26 rfl ?_
    refine wp_iald (pc' := 28) (N := 4) (by omega) rfl rfl (by first | exact vp_in_nI (by omega) (by omega) | assumption | (unfold vp_in; decide)) dX4_turnOn_27 rfl ?_
    rw [nI_clamp (by omega), hup_at]
    refine wp_bipush (pc' := 30) (6) dX4_turnOn_28 rfl (by decide) ?_
    refine wp_icmp_ge (pc' := 33) (tgt := 35) dX4_turnOn_30 rfl rfl (fun c30 => ?_) (fun c30 => ?_)
    · skip -- 30 taken
      have h5 : dg s c (i + 1) = 5 := by (simp (disch := omega) only [Int32.lt_iff_toInt_lt, Int32.le_iff_toInt_le, ← Int32.toInt_inj, nI_toInt, il_0, il_1, il_2, il_3, il_4, il_5, il_6, il_8, il_9, il_10, il_16, il_26, il_32, il_40, il_n4, il_n1, il_n2, il_11, il_48, il_57, il_59, il_44, il_126, il_200, il_9999, il_66666, il_10000, il_1000000, il_15, il_12, il_256, il_4096, il_53, il_52] at c30; omega)
      refine wp_aload_n_0 (pc' := 36) dX4_turnOn_35 rfl ?_
      refine wp_get_4_0 (pc' := 39) (by omega) rfl rfl me_X4_turnOn_0 ic_X4_turnOn_4 dX4_turnOn_36 rfl ?_
      refine wp_iload_n_2 (pc' := 40) dX4_turnOn_39 rfl ?_
      refine wp_iconst (pc' := 41) (0) dX4_turnOn_40 rfl (by decide) ?_
      refine wp_iast (pc' := 42) (N := 4) (by omega) rfl rfl (by first | exact vp_in_nI (by omega) (by omega) | assumption | (unfold vp_in; decide)) dX4_turnOn_41 rfl ?_
      refine wp_iinc_2 (pc' := 45) dX4_turnOn_42 ((dec_m1 _).trans (nI_pred' (by omega))) (by decide) rfl rfl ?_
      refine wp_goto (tgt := 8) dX4_turnOn_45 rfl ?_
      refine ih (by omega) _ (fun a ha => by rw [hup_cell ha, hup_cell ha]; exact e0 a ha) (fun j hj => ?_) (fun j h1 h2 => ?_)
      · rw [nI_clamp (by omega), hup_off (by omega), hup_off (by omega)]; exact e1 j (by omega)
      · rw [nI_clamp (by omega)]
        by_cases e : j = i + 1
        · subst e; rw [hup_at]; exact ⟨rfl, h5⟩
        · rw [hup_off e, hup_off e]; exact e2 j (by omega) h2
    · skip -- 30 not taken
      have h5 : dg s c (i + 1) < 5 := by (simp (disch := omega) only [Int32.lt_iff_toInt_lt, Int32.le_iff_toInt_le, ← Int32.toInt_inj, nI_toInt, il_0, il_1, il_2, il_3, il_4, il_5, il_6, il_8, il_9, il_10, il_16, il_26, il_32, il_40, il_n4, il_n1, il_n2, il_11, il_48, il_57, il_59, il_44, il_126, il_200, il_9999, il_66666, il_10000, il_1000000, il_15, il_12, il_256, il_4096, il_53, il_52] at c30; omega)
      refine wp_iload_n_2 (pc' := 34) dX4_turnOn_33 rfl ?_
      refine wp_ireturn dX4_turnOn_34 rfl rfl (Nat.le_refl _) (Nat.le_refl _) ?_
      obtain ⟨z1, z2, z3, z4⟩ := z.1 h5
      refine K1 _ (i + 1) hi z1 (fun a ha => by rw [hup_cell ha]; exact e0 a ha) (fun j hj => ?_) z3
      by_cases e : j = i + 1
      · subst e; rw [hup_at, z2]
      · rw [hup_off e]
        by_cases q : j < i + 1
        · rw [z3 j q, e1 j (by omega)]
        · rw [z4 j (by omega) hj, (e2 j (by omega) hj).1]; rfl
theorem c_X4_turnOn {s c : Nat} (hn : 89 ≤ n) (hs : s ≤ 4) (h1 : 1 ≤ s) (hc : c < 6 ^ s) (hd : ∀ j, j < s → h 87 j = nI (dg s c j)) : Ctr l D cy B yX4_turnOn wsX4_turnOn rmX4_turnOn 0 0 n (rf0 π) h lg [.ref (B + 86), .int (nI s)] (qI (fun x h' => (∀ a, a ≠ 87 → h' a = h a) ∧ if c + 1 < 6 ^ s then (∀ j, j < s → h' 87 j = nI (dg s (c + 1) j)) ∧ ∃ i, i < s ∧ x = nI i ∧ ∀ j, j < i → dg s (c + 1) j = dg s c j else x = -1) (rf0 π) lg) := by
  refine Ctr.of (cc := cX4_turnOn) (nL := 3) (own := RX4) (rt := (some .int)) (ls := [some (.ref (B + 86)), some (.int (nI s)), none]) (by decide) rfl rfl (Nat.le_of_ble_eq_true rfl) rfl ?_
  refine wp_iload_n_1 (pc' := 1) dX4_turnOn_0 rfl ?_
  refine wp_iconst (pc' := 2) (4) dX4_turnOn_1 rfl (by decide) ?_
  refine wp_mmin (pc' := 5) me_X4_turnOn_1 me_X4_turnOn_2 me_X4_turnOn_3 me_X4_turnOn_4 (Nat.le_of_ble_eq_true rfl) (Nat.le_of_ble_eq_true rfl) ⟨Nat.le_of_ble_eq_true rfl, Nat.le_of_ble_eq_true rfl⟩ dX4_turnOn_2 rfl ?_
  rw [if_neg (show ¬ (4 : Int32) < nI s by (simp (disch := omega) only [Int32.lt_iff_toInt_lt, Int32.le_iff_toInt_le, ← Int32.toInt_inj, nI_toInt, il_0, il_1, il_2, il_3, il_4, il_5, il_6, il_8, il_9, il_10, il_16, il_26, il_32, il_40, il_n4, il_n1, il_n2, il_11, il_48, il_57, il_59, il_44, il_126, il_200, il_9999, il_66666, il_10000, il_1000000, il_15, il_12, il_256, il_4096, il_53, il_52] at *; omega))]
  refine wp_iconst (pc' := 6) (1) dX4_turnOn_5 rfl (by decide) ?_
  refine wp_isub (pc' := 7) dX4_turnOn_6 rfl ?_
  rw [nI_pred' h1]
  refine wp_istore_n_2 (pc' := 8) dX4_turnOn_7 (by decide) rfl rfl ?_
  refine lp_X4_turnOn hn h hs hc (fun h' i hi hcc e0 e1 e2 => qI_of ⟨e0, ?_⟩) (fun h' hcc e0 => qI_of ⟨e0, ?_⟩) (s - 1) (by omega) h (fun _ _ => rfl) (fun j hj => hd j (by omega)) (fun j h1 h2 => by omega)
  · rw [if_pos hcc]; exact ⟨e1, i, hi, rfl, e2⟩
  · rw [if_neg hcc]
end VSP

