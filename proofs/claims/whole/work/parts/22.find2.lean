abbrev rmX0_endsOf : Room := { frames := 4, cells := 0, slots := 0, locals := 94 }
theorem hy_X0_endsOf : yX0_endsOf.cls = RX0 ∧ yX0_endsOf.cls ≠ "java/lang/invoke/MethodHandle" ∧ yX0_endsOf.cls ≠ "java/lang/invoke/VarHandle" ∧ (parseMethodDescriptor yX0_endsOf.desc).map (fun d => d.parameters.length) = some 2 := by decide +kernel
theorem hz_X0_endsOf : yX0_endsOf.cls ≠ "java/lang/invoke/MethodHandle" ∧ yX0_endsOf.cls ≠ "java/lang/invoke/VarHandle" ∧ (parseMethodDescriptor yX0_endsOf.desc).map (fun d => d.parameters.length) = some 2 := by decide +kernel
abbrev rmX0_goBack : Room := { frames := 3, cells := 0, slots := 0, locals := 69 }
theorem hy_X0_goBack : yX0_goBack.cls = RX0 ∧ yX0_goBack.cls ≠ "java/lang/invoke/MethodHandle" ∧ yX0_goBack.cls ≠ "java/lang/invoke/VarHandle" ∧ (parseMethodDescriptor yX0_goBack.desc).map (fun d => d.parameters.length) = some 2 := by decide +kernel
theorem hz_X0_goBack : yX0_goBack.cls ≠ "java/lang/invoke/MethodHandle" ∧ yX0_goBack.cls ≠ "java/lang/invoke/VarHandle" ∧ (parseMethodDescriptor yX0_goBack.desc).map (fun d => d.parameters.length) = some 2 := by decide +kernel
abbrev rmX0_goFrom : Room := { frames := 3, cells := 0, slots := 0, locals := 69 }
theorem hy_X0_goFrom : yX0_goFrom.cls = RX0 ∧ yX0_goFrom.cls ≠ "java/lang/invoke/MethodHandle" ∧ yX0_goFrom.cls ≠ "java/lang/invoke/VarHandle" ∧ (parseMethodDescriptor yX0_goFrom.desc).map (fun d => d.parameters.length) = some 3 := by decide +kernel
theorem hz_X0_goFrom : yX0_goFrom.cls ≠ "java/lang/invoke/MethodHandle" ∧ yX0_goFrom.cls ≠ "java/lang/invoke/VarHandle" ∧ (parseMethodDescriptor yX0_goFrom.desc).map (fun d => d.parameters.length) = some 3 := by decide +kernel
theorem me_X0_goFrom_0 : Cond.fieldLink RX0 12 "DrawnByLost$Finder" "land" "LDrawnByLost$Land;" ∈ wsX0_goFrom := by decide +kernel
theorem me_X0_goFrom_1 : Cond.fieldLink RX0 22 "DrawnByLost$Finder" "ahead" "[I" ∈ wsX0_goFrom := by decide +kernel
theorem me_X0_endsOf_0 : Cond.fieldLink RX0 12 "DrawnByLost$Finder" "land" "LDrawnByLost$Land;" ∈ wsX0_endsOf := by decide +kernel
theorem me_X0_endsOf_1 : Cond.fieldLink RX0 42 "DrawnByLost$Land" "all" "I" ∈ wsX0_endsOf := by decide +kernel
theorem me_X0_goBack_0 : Cond.fieldLink RX0 12 "DrawnByLost$Finder" "land" "LDrawnByLost$Land;" ∈ wsX0_goBack := by decide +kernel
theorem me_X0_goBack_1 : Cond.fieldLink RX0 25 "DrawnByLost$Finder" "behind" "[I" ∈ wsX0_goBack := by decide +kernel
theorem me_X0_goBack_2 : Cond.methodLink RX0 86 Lib.Math.min.name ∈ wsX0_goBack := by decide +kernel
theorem me_X0_goBack_3 : Cond.static Lib.Math.min.name ∈ wsX0_goBack := by decide +kernel
theorem me_X0_goBack_4 : Cond.initialized "java/lang/Math" ∈ wsX0_goBack := by decide +kernel
theorem me_X0_goBack_5 : Cond.code Lib.Math.min.name Lib.Math.min.code 2 (some .int) ∈ wsX0_goBack := by decide +kernel
theorem me_X0_goBack_6 : Cond.fieldLink RX0 42 "DrawnByLost$Land" "all" "I" ∈ wsX0_goBack := by decide +kernel
theorem ic_X0_goFrom_0 : ∀ w ∈ wsX00, w ∈ wsX0_goFrom := by decide +kernel
theorem ic_X0_endsOf_0 : ∀ w ∈ wsX00, w ∈ wsX0_endsOf := by decide +kernel
theorem ic_X0_endsOf_1 : ∀ w ∈ wsX10, w ∈ wsX0_endsOf := by decide +kernel
theorem ic_X0_goBack_0 : ∀ w ∈ wsX00, w ∈ wsX0_goBack := by decide +kernel
theorem ic_X0_goBack_1 : ∀ w ∈ wsX10, w ∈ wsX0_goBack := by decide +kernel
-- Finder: going along a walk, forward and back
section VF2
variable {l : Launch} {D : va_G} {cy : CY} {B n : Nat} {h : Hp} {lg : Lg} {π : Nat → Nat}
theorem St.zone {s : Nat} (hs : St s) {a : Nat} (h1 : s ≤ a) (h2 : a ≤ s + 4) : (5 ≤ a ∧ a ≤ 9) ∨ (18 ≤ a ∧ a ≤ 27) ∨ (30 ≤ a ∧ a ≤ 69) ∨ (72 ≤ a ∧ a ≤ 81) := by
  have z : ∀ s ∈ stL, s = 5 ∨ s = 18 ∨ s = 23 ∨ (30 ≤ s ∧ s ≤ 65) ∨ s = 72 ∨ s = 77 := by decide
  have := z s hs
  omega
theorem RowOK.w {ρ : Nat → Nat} (ok : RowOK ρ) {w : Nat} (hw : w < ρ 16) : w < 5 ∧ kw ρ w ≤ 3 ∧ 2 ≤ sw ρ w ∧ sw ρ w ≤ 5 := by
  obtain ⟨_, o2, o3⟩ := ok
  obtain ⟨b1, b2, b3, _⟩ := o3 w hw
  exact ⟨by omega, b1, b2, b3⟩
theorem dec_m1 (x : Int32) : x + Int32.ofInt (-1) = x - 1 := by rw [Int32.sub_eq_add_neg]; rfl
theorem lp_X0_goFrom {s w R C : Nat} {mk ρ : Nat → Nat} {f0 : Nat → Bool} {post : PO} (hn : 89 ≤ n) (hs : St s) (H0 : Hp) (q0 : ShL H0 11 R C) (sp0 : Sp H0 R C mk) (xr0 : XR H0 s ρ) (ok : RowOK ρ) (hw : w < ρ 16)
    (K : ∀ h', (∀ a, a ≠ 14 → h' a = H0 a) → (∀ i, i < sw ρ w → h' 14 i = S (fw (kw ρ w) R C mk (tm ρ w) f0 i)) → ∀ a3 a5, WP l D cy B cX0_goFrom 6 RX0 wsX0_goFrom rmX0_goFrom (some .int) (QE0 D cy B n 0 0 (post)) EX0 n (rf0 π) h' lg 0 0 84 [some (.ref (B + 10)), some (.ref (B + s)), some (.int (nI w)), a3, some (.int (S (fw (kw ρ w) R C mk (tm ρ w) f0 (sw ρ w - 1)))), a5] []) :
    ∀ d i : Nat, (i + 1) + d = sw ρ w → ∀ h', (∀ a, a ≠ 14 → h' a = H0 a) → (∀ k, k < i + 1 → h' 14 k = S (fw (kw ρ w) R C mk (tm ρ w) f0 k)) → ∀ b3, WP l D cy B cX0_goFrom 6 RX0 wsX0_goFrom rmX0_goFrom (some .int) (QE0 D cy B n 0 0 (post)) EX0 n (rf0 π) h' lg 0 0 25 [some (.ref (B + 10)), some (.ref (B + s)), some (.int (nI w)), some (.int b3), some (.int (S (fw (kw ρ w) R C mk (tm ρ w) f0 i))), some (.int (nI (i + 1)))] [] := by
  have hl := q0.1.le
  obtain ⟨w5, hk3, hs2, hs5⟩ := ok.w hw
  intro d
  induction d with
  | zero =>
    intro i hi h' e0 e1 b3
    have q := q0.of_eq (e0 11 (by decide))
    have xr := xr0.congr (h' := h') (fun a h1 h2 => e0 a (by have := hs.zone h1 h2; omega))
    have e : i = sw ρ w - 1 := by omega
    subst e
    refine wp_iload_5 (pc' := 27) dX0_goFrom_25 rfl ?_
    refine wp_aload_n_1 (pc' := 28) dX0_goFrom_27 rfl ?_
    refine wp_iload_n_2 (pc' := 29) dX0_goFrom_28 rfl ?_
    refine wp_callVu (pc' := 32) (c_sizeOf hn hs xr ok hw) gX0_goFrom_X5_sizeOf rfl rfl hy_X5_sizeOf ⟨Nat.le_of_ble_eq_true rfl, Nat.le_of_ble_eq_true rfl⟩ ⟨rfl, rfl⟩ (Nat.le_of_ble_eq_true rfl) ⟨Nat.le_of_ble_eq_true rfl, Nat.le_of_ble_eq_true rfl⟩ (hs.lt (by omega)) (ce5 hs.K) rfl rfl dX0_goFrom_29 rfl ?_
    refine wp_icmp_ge (pc' := 35) (tgt := 84) dX0_goFrom_32 rfl rfl (fun c32 => ?_) (fun c32 => by exfalso; exact c32 (nI_le (by omega) (by omega)))
    exact K h' e0 (fun k hk => e1 k (by omega)) _ _
  | succ d ih =>
    intro i hi h' e0 e1 b3
    have q := q0.of_eq (e0 11 (by decide))
    have sp := sp0.of_eq (e0 13 (by decide))
    have xr := xr0.congr (h' := h') (fun a h1 h2 => e0 a (by have := hs.zone h1 h2; omega))
    have hf := fw_sup (kw ρ w) R C mk (tm ρ w) f0 i
    have ht5 := tm_le ok hw (i := i + 1) (by omega)
    refine wp_iload_5 (pc' := 27) dX0_goFrom_25 rfl ?_
    refine wp_aload_n_1 (pc' := 28) dX0_goFrom_27 rfl ?_
    refine wp_iload_n_2 (pc' := 29) dX0_goFrom_28 rfl ?_
    refine wp_callVu (pc' := 32) (c_sizeOf hn hs xr ok hw) gX0_goFrom_X5_sizeOf rfl rfl hy_X5_sizeOf ⟨Nat.le_of_ble_eq_true rfl, Nat.le_of_ble_eq_true rfl⟩ ⟨rfl, rfl⟩ (Nat.le_of_ble_eq_true rfl) ⟨Nat.le_of_ble_eq_true rfl, Nat.le_of_ble_eq_true rfl⟩ (hs.lt (by omega)) (ce5 hs.K) rfl rfl dX0_goFrom_29 rfl ?_
    refine wp_icmp_ge (pc' := 35) (tgt := 84) dX0_goFrom_32 rfl rfl (fun c32 => by exfalso; exact nI_ge (by omega) (by omega) c32) (fun c32 => ?_)
    refine wp_iload_5 (pc' := 37) dX0_goFrom_35 rfl ?_
    refine wp_iconst (pc' := 38) (5) dX0_goFrom_37 rfl (by decide) ?_
    refine wp_icmp_ge (pc' := 41) (tgt := 84) dX0_goFrom_38 rfl rfl (fun c38 => by exfalso; (simp (disch := omega) only [Int32.lt_iff_toInt_lt, Int32.le_iff_toInt_le, ← Int32.toInt_inj, nI_toInt, il_0, il_1, il_2, il_3, il_4, il_5, il_6, il_8, il_9, il_10, il_16, il_26, il_32, il_40, il_n4, il_n1, il_n2, il_11, il_48, il_57, il_59, il_44, il_126, il_200, il_9999, il_66666, il_10000, il_1000000, il_15, il_12, il_256, il_4096, il_53, il_52] at c38; omega)) (fun c38 => ?_)
    refine wp_aload_n_0 (pc' := 42) dX0_goFrom_41 rfl ?_
    refine wp_get_0_0 (pc' := 45) (by omega) rfl rfl me_X0_goFrom_0 ic_X0_goFrom_0 dX0_goFrom_42 rfl ?_
    refine wp_aload_n_1 (pc' := 46) dX0_goFrom_45 rfl ?_
    refine wp_iload_n_2 (pc' := 47) dX0_goFrom_46 rfl ?_
    refine wp_callVu (pc' := 50) (c_kindOf hn hs xr ok hw) gX0_goFrom_X5_kindOf rfl rfl hy_X5_kindOf ⟨Nat.le_of_ble_eq_true rfl, Nat.le_of_ble_eq_true rfl⟩ ⟨rfl, rfl⟩ (Nat.le_of_ble_eq_true rfl) ⟨Nat.le_of_ble_eq_true rfl, Nat.le_of_ble_eq_true rfl⟩ (hs.lt (by omega)) (ce5 hs.K) rfl rfl dX0_goFrom_47 rfl ?_
    refine wp_iload_4 (pc' := 52) dX0_goFrom_50 rfl ?_
    refine wp_callVu (pc' := 55) (c_X1_reach hn la11 q hk3 hf) gX0_goFrom_X1_reach rfl rfl hy_X1_reach ⟨Nat.le_of_ble_eq_true rfl, Nat.le_of_ble_eq_true rfl⟩ ⟨rfl, rfl⟩ (Nat.le_of_ble_eq_true rfl) ⟨Nat.le_of_ble_eq_true rfl, Nat.le_of_ble_eq_true rfl⟩ (by omega) (ce1 rfl) rfl rfl dX0_goFrom_52 rfl ?_
    refine wp_aload_n_0 (pc' := 56) dX0_goFrom_55 rfl ?_
    refine wp_aload_n_1 (pc' := 57) dX0_goFrom_56 rfl ?_
    refine wp_iload_n_2 (pc' := 58) dX0_goFrom_57 rfl ?_
    refine wp_iload_5 (pc' := 60) dX0_goFrom_58 rfl ?_
    refine wp_callVu (pc' := 63) (c_rowMark hn hs xr ok hw (by omega)) gX0_goFrom_X5_rowMark rfl rfl hy_X5_rowMark ⟨Nat.le_of_ble_eq_true rfl, Nat.le_of_ble_eq_true rfl⟩ ⟨rfl, rfl⟩ (Nat.le_of_ble_eq_true rfl) ⟨Nat.le_of_ble_eq_true rfl, Nat.le_of_ble_eq_true rfl⟩ (hs.lt (by omega)) (ce5 hs.K) rfl rfl dX0_goFrom_60 rfl ?_
    refine wp_callVu (pc' := 66) (c_X0_placesOf hn sp (by omega)) gX0_goFrom_X0_placesOf rfl rfl hy_X0_placesOf ⟨Nat.le_of_ble_eq_true rfl, Nat.le_of_ble_eq_true rfl⟩ ⟨rfl, rfl⟩ (Nat.le_of_ble_eq_true rfl) ⟨Nat.le_of_ble_eq_true rfl, Nat.le_of_ble_eq_true rfl⟩ (by omega) (ce0 rfl) rfl rfl dX0_goFrom_63 rfl ?_
    refine wp_iand (pc' := 67) dX0_goFrom_66 rfl ?_
    rw [S_and, S_ext (fun x _ => (fw_s (kw ρ w) R C mk (tm ρ w) f0 i x).symm)]
    refine wp_istore_4 (pc' := 69) dX0_goFrom_67 (by decide) rfl rfl ?_
    refine wp_aload_n_0 (pc' := 70) dX0_goFrom_69 rfl ?_
    refine wp_get_0_2 (pc' := 73) (by omega) rfl rfl me_X0_goFrom_1 ic_X0_goFrom_0 dX0_goFrom_70 rfl ?_
    refine wp_iload_5 (pc' := 75) dX0_goFrom_73 rfl ?_
    refine wp_iload_4 (pc' := 77) dX0_goFrom_75 rfl ?_
    refine wp_iast (pc' := 78) (N := 5) (by omega) rfl rfl (by first | exact vp_in_nI (by omega) (by omega) | assumption | (unfold vp_in; decide)) dX0_goFrom_77 rfl ?_
    refine wp_iinc_5 (pc' := 81) (v := nI (i + 1 + 1)) dX0_goFrom_78 (by first | rfl | exact nI_1 _) (by decide) rfl rfl ?_
    refine wp_goto (tgt := 25) dX0_goFrom_81 rfl ?_
    refine ih (i + 1) (by omega) _ (fun a ha => by rw [hup_cell ha]; exact e0 a ha) (fun k hk => ?_) _
    rw [nI_clamp (by omega)]
    by_cases e : k = i + 1
    · subst e; rw [hup_at]
    · rw [hup_off e]; exact e1 k (by omega)
theorem c_X0_goFrom {s w R C : Nat} {mk ρ : Nat → Nat} {f0 : Nat → Bool} (hn : 89 ≤ n) (hs : St s) (q : ShL h 11 R C) (sp : Sp h R C mk) (xr : XR h s ρ) (ok : RowOK ρ) (hw : w < ρ 16) : Ctr l D cy B yX0_goFrom wsX0_goFrom rmX0_goFrom 0 0 n (rf0 π) h lg [.ref (B + 10), .ref (B + s), .int (nI w), .int (S f0)] (qI (fun x h' => x = S (fw (kw ρ w) R C mk (tm ρ w) f0 (sw ρ w - 1)) ∧ (∀ a, a ≠ 14 → h' a = h a) ∧ ∀ i, i < sw ρ w → h' 14 i = S (fw (kw ρ w) R C mk (tm ρ w) f0 i)) (rf0 π) lg) := by
  obtain ⟨w5, hk3, hs2, hs5⟩ := ok.w hw
  have ht5 := tm_le ok hw (i := 0) (by omega)
  refine Ctr.of (cc := cX0_goFrom) (nL := 6) (own := RX0) (rt := (some .int)) (ls := [some (.ref (B + 10)), some (.ref (B + s)), some (.int (nI w)), some (.int (S f0)), none, none]) (by decide) rfl rfl (Nat.le_of_ble_eq_true rfl) rfl ?_
  refine wp_iload_n_3 (pc' := 1) dX0_goFrom_0 rfl ?_
  refine wp_aload_n_0 (pc' := 2) dX0_goFrom_1 rfl ?_
  refine wp_aload_n_1 (pc' := 3) dX0_goFrom_2 rfl ?_
  refine wp_iload_n_2 (pc' := 4) dX0_goFrom_3 rfl ?_
  refine wp_iconst (pc' := 5) (0) dX0_goFrom_4 rfl (by decide) ?_
  refine wp_callVu (pc' := 8) (c_rowMark (i := 0) hn hs xr ok hw (by omega)) gX0_goFrom_X5_rowMark rfl rfl hy_X5_rowMark ⟨Nat.le_of_ble_eq_true rfl, Nat.le_of_ble_eq_true rfl⟩ ⟨rfl, rfl⟩ (Nat.le_of_ble_eq_true rfl) ⟨Nat.le_of_ble_eq_true rfl, Nat.le_of_ble_eq_true rfl⟩ (hs.lt (by omega)) (ce5 hs.K) rfl rfl dX0_goFrom_5 rfl ?_
  refine wp_callVu (pc' := 11) (c_X0_placesOf hn sp (by omega)) gX0_goFrom_X0_placesOf rfl rfl hy_X0_placesOf ⟨Nat.le_of_ble_eq_true rfl, Nat.le_of_ble_eq_true rfl⟩ ⟨rfl, rfl⟩ (Nat.le_of_ble_eq_true rfl) ⟨Nat.le_of_ble_eq_true rfl, Nat.le_of_ble_eq_true rfl⟩ (by omega) (ce0 rfl) rfl rfl dX0_goFrom_8 rfl ?_
  refine wp_iand (pc' := 12) dX0_goFrom_11 rfl ?_
  rw [S_and, S_ext (fun x _ => (fw_0 (kw ρ w) R C mk (tm ρ w) f0 x).symm)]
  refine wp_istore_4 (pc' := 14) dX0_goFrom_12 (by decide) rfl rfl ?_
  refine wp_aload_n_0 (pc' := 15) dX0_goFrom_14 rfl ?_
  refine wp_get_0_2 (pc' := 18) (by omega) rfl rfl me_X0_goFrom_1 ic_X0_goFrom_0 dX0_goFrom_15 rfl ?_
  refine wp_iconst (pc' := 19) (0) dX0_goFrom_18 rfl (by decide) ?_
  refine wp_iload_4 (pc' := 21) dX0_goFrom_19 rfl ?_
  refine wp_iast (pc' := 22) (N := 5) (by omega) rfl rfl (by first | exact vp_in_nI (by omega) (by omega) | assumption | (unfold vp_in; decide)) dX0_goFrom_21 rfl ?_
  refine wp_iconst (pc' := 23) (1) dX0_goFrom_22 rfl (by decide) ?_
  refine wp_istore_5 (pc' := 25) dX0_goFrom_23 (by decide) rfl rfl ?_
  refine lp_X0_goFrom (f0 := f0) hn hs h q sp xr ok hw (fun h' e0 e1 a3 a5 => ?_) (sw ρ w - 1) 0 (by omega) _ (fun a ha => by rw [hup_cell ha]) (fun k hk => ?_) _
  refine wp_iload_4 (pc' := 86) dX0_goFrom_84 rfl ?_
  refine wp_ireturn dX0_goFrom_86 rfl rfl (Nat.le_refl _) (Nat.le_refl _) ?_
  exact qI_of ⟨rfl, e0, e1⟩
  have : k = 0 := by omega
  subst this
  exact hup_at _ _ _ _
theorem cf_all (κ R C : Nat) (mk t : Nat → Nat) : ∀ i x, cf κ R C mk t (fun i => decide (i < R * C)) i x = cf κ R C mk t (fun _ => true) i x := by
  intro i
  induction i with
  | zero => intro x; simp [cf, atB]
  | succ i ih =>
    intro x
    rw [cf_s, cf_s]
    congr 1
    exact sumN_congr fun y _ => by rw [ih]
theorem fw_all (κ R C : Nat) (mk t : Nat → Nat) (i : Nat) : fw κ R C mk t (fun i => decide (i < R * C)) i = fw κ R C mk t (fun _ => true) i := by
  funext x
  unfold fw
  rw [cf_all]
theorem c_X0_endsOf {s w R C : Nat} {mk ρ : Nat → Nat} (hn : 89 ≤ n) (hs : St s) (q : ShL h 11 R C) (sp : Sp h R C mk) (xr : XR h s ρ) (ok : RowOK ρ) (hw : w < ρ 16) : Ctr l D cy B yX0_endsOf wsX0_endsOf rmX0_endsOf 0 0 n (rf0 π) h lg [.ref (B + 10), .ref (B + s), .int (nI w)] (qI (fun x h' => x = S (fw (kw ρ w) R C mk (tm ρ w) (fun _ => true) (sw ρ w - 1)) ∧ (∀ a, a ≠ 14 → h' a = h a)) (rf0 π) lg) := by
  refine Ctr.of (cc := cX0_endsOf) (nL := 3) (own := RX0) (rt := (some .int)) (ls := [some (.ref (B + 10)), some (.ref (B + s)), some (.int (nI w))]) (by decide) rfl rfl (Nat.le_of_ble_eq_true rfl) rfl ?_
  refine wp_aload_n_0 (pc' := 1) dX0_endsOf_0 rfl ?_
  refine wp_aload_n_1 (pc' := 2) dX0_endsOf_1 rfl ?_
  refine wp_iload_n_2 (pc' := 3) dX0_endsOf_2 rfl ?_
  refine wp_aload_n_0 (pc' := 4) dX0_endsOf_3 rfl ?_
  refine wp_get_0_0 (pc' := 7) (by omega) rfl rfl me_X0_endsOf_0 ic_X0_endsOf_0 dX0_endsOf_4 rfl ?_
  refine wp_get_1_2 (pc' := 10) (by omega) rfl me_X0_endsOf_1 ic_X0_endsOf_1 dX0_endsOf_7 rfl ?_
  rw [q.all]
  refine wp_callVq (pc' := 13) (c_X0_goFrom hn hs q sp xr ok hw) gX0_endsOf_X0_goFrom rfl rfl hy_X0_goFrom ⟨Nat.le_of_ble_eq_true rfl, Nat.le_of_ble_eq_true rfl⟩ ⟨rfl, rfl⟩ (Nat.le_of_ble_eq_true rfl) ⟨Nat.le_of_ble_eq_true rfl, Nat.le_of_ble_eq_true rfl⟩ (by omega) (ce0 rfl) rfl rfl dX0_endsOf_10 rfl (fun x10 h10 q10 => ?_)
  refine wp_ireturn dX0_endsOf_13 rfl rfl (Nat.le_refl _) (Nat.le_refl _) ?_
  exact qI_of ⟨by rw [q10.1, fw_all], q10.2.1⟩
theorem lp_X0_goBack {s w R C : Nat} {mk ρ : Nat → Nat} {post : PO} (hn : 89 ≤ n) (hs : St s) (H0 : Hp) (q0 : ShL H0 11 R C) (sp0 : Sp H0 R C mk) (xr0 : XR H0 s ρ) (ok : RowOK ρ) (hw : w < ρ 16)
    (K : ∀ h', (∀ a, a ≠ 15 → h' a = H0 a) → (∀ i, i < sw ρ w → h' 15 i = S (bw (kw ρ w) R C mk (tm ρ w) (sw ρ w) (sw ρ w - 1 - i))) → ∀ a3 a4 a5, WP l D cy B cX0_goBack 6 RX0 wsX0_goBack rmX0_goBack none (QE0 D cy B n 0 0 (post)) EX0 n (rf0 π) h' lg 0 0 83 [some (.ref (B + 10)), some (.ref (B + s)), some (.int (nI w)), a3, a4, a5] []) :
    ∀ d : Nat, d ≤ sw ρ w → ∀ x5 : Int32, x5 = nI d - 1 → ∀ h', (∀ a, a ≠ 15 → h' a = H0 a) → (∀ i, d ≤ i → i < sw ρ w → h' 15 i = S (bw (kw ρ w) R C mk (tm ρ w) (sw ρ w) (sw ρ w - 1 - i))) → ∀ g : Nat → Bool, (d = sw ρ w → g = fun i => decide (i < R * C)) → (d < sw ρ w → g = bw (kw ρ w) R C mk (tm ρ w) (sw ρ w) (sw ρ w - 1 - d)) → WP l D cy B cX0_goBack 6 RX0 wsX0_goBack rmX0_goBack none (QE0 D cy B n 0 0 (post)) EX0 n (rf0 π) h' lg 0 0 24 [some (.ref (B + 10)), some (.ref (B + s)), some (.int (nI w)), some (.int (nI (sw ρ w - 1))), some (.int (S g)), some (.int x5)] [] := by
  have hl := q0.1.le
  obtain ⟨w5, hk3, hs2, hs5⟩ := ok.w hw
  intro d
  induction d with
  | zero =>
    intro hd x5 hx h' e0 e1 g g1 g2
    subst hx
    refine wp_iload_5 (pc' := 26) dX0_goBack_24 rfl ?_
    refine wp_if_lt (pc' := 29) (tgt := 83) dX0_goBack_26 rfl rfl (fun c26 => ?_) (fun c26 => by exfalso; exact c26 (by decide))
    exact K h' e0 (fun i hi => e1 i (by omega) hi) _ _ _
  | succ d ih =>
    intro hd x5 hx h' e0 e1 g g1 g2
    subst hx
    have q := q0.of_eq (e0 11 (by decide))
    have sp := sp0.of_eq (e0 13 (by decide))
    have xr := xr0.congr (h' := h') (fun a h1 h2 => e0 a (by have := hs.zone h1 h2; omega))
    have ht5 := tm_le ok hw (i := d) (by omega)
    rw [nI_pred]
    have fin : ∀ v : Int32, v = S (bw (kw ρ w) R C mk (tm ρ w) (sw ρ w) (sw ρ w - 1 - d)) → WP l D cy B cX0_goBack 6 RX0 wsX0_goBack rmX0_goBack none (QE0 D cy B n 0 0 (post)) EX0 n (rf0 π) (hup h' 15 d v) lg 0 0 24 [some (.ref (B + 10)), some (.ref (B + s)), some (.int (nI w)), some (.int (nI (sw ρ w - 1))), some (.int v), some (.int (nI d - 1))] [] := by
      intro v hv
      subst hv
      refine ih (by omega) _ rfl _ (fun a ha => by rw [hup_cell ha]; exact e0 a ha) (fun i h1 h2 => ?_) _ (fun e => by omega) (fun _ => rfl)
      by_cases e : i = d
      · subst e; rw [hup_at]
      · rw [hup_off e]; exact e1 i (by omega) h2
    refine wp_iload_5 (pc' := 26) dX0_goBack_24 rfl ?_
    refine wp_if_lt (pc' := 29) (tgt := 83) dX0_goBack_26 rfl rfl (fun c26 => by exfalso; exact absurd c26 (nI_pos (by omega))) (fun c26 => ?_)
    refine wp_iload_5 (pc' := 31) dX0_goBack_29 rfl ?_
    refine wp_iload_n_3 (pc' := 32) dX0_goBack_31 rfl ?_
    refine wp_icmp_ne (pc' := 35) (tgt := 40) dX0_goBack_32 rfl rfl (fun c32 => ?_) (fun c32 => ?_)
    · skip -- 32 taken
      have hlt : d + 1 < sw ρ w := by
        apply Classical.byContradiction
        intro z
        exact c32 (by rw [show d = sw ρ w - 1 by omega])
      have hg := g2 hlt
      subst hg
      have hf := bw_sup (kw ρ w) R C mk (tm ρ w) (sw ρ w) (sw ρ w - 1 - (d + 1))
      refine wp_aload_n_0 (pc' := 41) dX0_goBack_40 rfl ?_
      refine wp_get_0_0 (pc' := 44) (by omega) rfl rfl me_X0_goBack_0 ic_X0_goBack_0 dX0_goBack_41 rfl ?_
      refine wp_aload_n_1 (pc' := 45) dX0_goBack_44 rfl ?_
      refine wp_iload_n_2 (pc' := 46) dX0_goBack_45 rfl ?_
      refine wp_callVu (pc' := 49) (c_kindOf hn hs xr ok hw) gX0_goBack_X5_kindOf rfl rfl hy_X5_kindOf ⟨Nat.le_of_ble_eq_true rfl, Nat.le_of_ble_eq_true rfl⟩ ⟨rfl, rfl⟩ (Nat.le_of_ble_eq_true rfl) ⟨Nat.le_of_ble_eq_true rfl, Nat.le_of_ble_eq_true rfl⟩ (hs.lt (by omega)) (ce5 hs.K) rfl rfl dX0_goBack_46 rfl ?_
      refine wp_iload_4 (pc' := 51) dX0_goBack_49 rfl ?_
      refine wp_callVu (pc' := 54) (c_X1_reach hn la11 q hk3 hf) gX0_goBack_X1_reach rfl rfl hy_X1_reach ⟨Nat.le_of_ble_eq_true rfl, Nat.le_of_ble_eq_true rfl⟩ ⟨rfl, rfl⟩ (Nat.le_of_ble_eq_true rfl) ⟨Nat.le_of_ble_eq_true rfl, Nat.le_of_ble_eq_true rfl⟩ (by omega) (ce1 rfl) rfl rfl dX0_goBack_51 rfl ?_
      refine wp_aload_n_0 (pc' := 55) dX0_goBack_54 rfl ?_
      refine wp_aload_n_1 (pc' := 56) dX0_goBack_55 rfl ?_
      refine wp_iload_n_2 (pc' := 57) dX0_goBack_56 rfl ?_
      refine wp_iload_5 (pc' := 59) dX0_goBack_57 rfl ?_
      refine wp_callVu (pc' := 62) (c_rowMark hn hs xr ok hw (by omega)) gX0_goBack_X5_rowMark rfl rfl hy_X5_rowMark ⟨Nat.le_of_ble_eq_true rfl, Nat.le_of_ble_eq_true rfl⟩ ⟨rfl, rfl⟩ (Nat.le_of_ble_eq_true rfl) ⟨Nat.le_of_ble_eq_true rfl, Nat.le_of_ble_eq_true rfl⟩ (hs.lt (by omega)) (ce5 hs.K) rfl rfl dX0_goBack_59 rfl ?_
      refine wp_callVu (pc' := 65) (c_X0_placesOf hn sp (by omega)) gX0_goBack_X0_placesOf rfl rfl hy_X0_placesOf ⟨Nat.le_of_ble_eq_true rfl, Nat.le_of_ble_eq_true rfl⟩ ⟨rfl, rfl⟩ (Nat.le_of_ble_eq_true rfl) ⟨Nat.le_of_ble_eq_true rfl, Nat.le_of_ble_eq_true rfl⟩ (by omega) (ce0 rfl) rfl rfl dX0_goBack_62 rfl ?_
      refine wp_iand (pc' := 66) dX0_goBack_65 rfl ?_
      refine wp_istore_4 (pc' := 68) dX0_goBack_66 (by decide) rfl rfl ?_
      refine wp_aload_n_0 (pc' := 69) dX0_goBack_68 rfl ?_
      refine wp_get_0_3 (pc' := 72) (by omega) rfl rfl me_X0_goBack_1 ic_X0_goBack_0 dX0_goBack_69 rfl ?_
      refine wp_iload_5 (pc' := 74) dX0_goBack_72 rfl ?_
      refine wp_iload_4 (pc' := 76) dX0_goBack_74 rfl ?_
      refine wp_iast (pc' := 77) (N := 5) (by omega) rfl rfl (by first | exact vp_in_nI (by omega) (by omega) | assumption | (unfold vp_in; decide)) dX0_goBack_76 rfl ?_
      refine wp_iinc_5 (pc' := 80) dX0_goBack_77 (dec_m1 _) (by decide) rfl rfl ?_
      refine wp_goto (tgt := 24) dX0_goBack_80 rfl ?_
      rw [nI_clamp (by omega), S_and]
      refine fin _ (S_ext fun x _ => ?_)
      have e2 : sw ρ w - 1 - d = sw ρ w - 1 - (d + 1) + 1 := by omega
      rw [e2, bw_s]
      congr 3
      omega
    · skip -- 32 not taken
      have heq : d + 1 = sw ρ w := by
        have := (nI_eq (by omega) (by omega)).mp c32
        omega
      have hg := g1 heq
      subst hg
      refine wp_iload_4 (pc' := 37) dX0_goBack_35 rfl ?_
      refine wp_goto (tgt := 54) dX0_goBack_37 rfl ?_
      refine wp_aload_n_0 (pc' := 55) dX0_goBack_54 rfl ?_
      refine wp_aload_n_1 (pc' := 56) dX0_goBack_55 rfl ?_
      refine wp_iload_n_2 (pc' := 57) dX0_goBack_56 rfl ?_
      refine wp_iload_5 (pc' := 59) dX0_goBack_57 rfl ?_
      refine wp_callVu (pc' := 62) (c_rowMark hn hs xr ok hw (by omega)) gX0_goBack_X5_rowMark rfl rfl hy_X5_rowMark ⟨Nat.le_of_ble_eq_true rfl, Nat.le_of_ble_eq_true rfl⟩ ⟨rfl, rfl⟩ (Nat.le_of_ble_eq_true rfl) ⟨Nat.le_of_ble_eq_true rfl, Nat.le_of_ble_eq_true rfl⟩ (hs.lt (by omega)) (ce5 hs.K) rfl rfl dX0_goBack_59 rfl ?_
      refine wp_callVu (pc' := 65) (c_X0_placesOf hn sp (by omega)) gX0_goBack_X0_placesOf rfl rfl hy_X0_placesOf ⟨Nat.le_of_ble_eq_true rfl, Nat.le_of_ble_eq_true rfl⟩ ⟨rfl, rfl⟩ (Nat.le_of_ble_eq_true rfl) ⟨Nat.le_of_ble_eq_true rfl, Nat.le_of_ble_eq_true rfl⟩ (by omega) (ce0 rfl) rfl rfl dX0_goBack_62 rfl ?_
      refine wp_iand (pc' := 66) dX0_goBack_65 rfl ?_
      refine wp_istore_4 (pc' := 68) dX0_goBack_66 (by decide) rfl rfl ?_
      refine wp_aload_n_0 (pc' := 69) dX0_goBack_68 rfl ?_
      refine wp_get_0_3 (pc' := 72) (by omega) rfl rfl me_X0_goBack_1 ic_X0_goBack_0 dX0_goBack_69 rfl ?_
      refine wp_iload_5 (pc' := 74) dX0_goBack_72 rfl ?_
      refine wp_iload_4 (pc' := 76) dX0_goBack_74 rfl ?_
      refine wp_iast (pc' := 77) (N := 5) (by omega) rfl rfl (by first | exact vp_in_nI (by omega) (by omega) | assumption | (unfold vp_in; decide)) dX0_goBack_76 rfl ?_
      refine wp_iinc_5 (pc' := 80) dX0_goBack_77 (dec_m1 _) (by decide) rfl rfl ?_
      refine wp_goto (tgt := 24) dX0_goBack_80 rfl ?_
      rw [nI_clamp (by omega), S_and]
      refine fin _ (S_ext fun x _ => ?_)
      have e2 : sw ρ w - 1 - d = 0 := by omega
      rw [e2, bw_0]
      have e3 : sw ρ w - 1 = d := by omega
      rw [e3]
      simp [atB]
theorem c_X0_goBack {s w R C : Nat} {mk ρ : Nat → Nat} (hn : 89 ≤ n) (hs : St s) (q : ShL h 11 R C) (sp : Sp h R C mk) (xr : XR h s ρ) (ok : RowOK ρ) (hw : w < ρ 16) : Ctr l D cy B yX0_goBack wsX0_goBack rmX0_goBack 0 0 n (rf0 π) h lg [.ref (B + 10), .ref (B + s), .int (nI w)] (qV (fun h' => (∀ a, a ≠ 15 → h' a = h a) ∧ ∀ i, i < sw ρ w → h' 15 i = S (bw (kw ρ w) R C mk (tm ρ w) (sw ρ w) (sw ρ w - 1 - i))) (rf0 π) lg) := by
  obtain ⟨w5, hk3, hs2, hs5⟩ := ok.w hw
  refine Ctr.of (cc := cX0_goBack) (nL := 6) (own := RX0) (rt := none) (ls := [some (.ref (B + 10)), some (.ref (B + s)), some (.int (nI w)), none, none, none]) (by decide) rfl rfl (Nat.le_of_ble_eq_true rfl) rfl ?_
  refine wp_aload_n_1 (pc' := 1) dX0_goBack_0 rfl ?_
  refine wp_iload_n_2 (pc' := 2) dX0_goBack_1 rfl ?_
  refine wp_callVu (pc' := 5) (c_sizeOf hn hs xr ok hw) gX0_goBack_X5_sizeOf rfl rfl hy_X5_sizeOf ⟨Nat.le_of_ble_eq_true rfl, Nat.le_of_ble_eq_true rfl⟩ ⟨rfl, rfl⟩ (Nat.le_of_ble_eq_true rfl) ⟨Nat.le_of_ble_eq_true rfl, Nat.le_of_ble_eq_true rfl⟩ (hs.lt (by omega)) (ce5 hs.K) rfl rfl dX0_goBack_2 rfl ?_
  refine wp_iconst (pc' := 6) (5) dX0_goBack_5 rfl (by decide) ?_
  refine wp_mmin (pc' := 9) me_X0_goBack_2 me_X0_goBack_3 me_X0_goBack_4 me_X0_goBack_5 (Nat.le_of_ble_eq_true rfl) (Nat.le_of_ble_eq_true rfl) ⟨Nat.le_of_ble_eq_true rfl, Nat.le_of_ble_eq_true rfl⟩ dX0_goBack_6 rfl ?_
  rw [show (if (5 : Int32) < nI (sw ρ w) then (5 : Int32) else nI (sw ρ w)) = nI (sw ρ w) from if_neg (by (simp (disch := omega) only [Int32.lt_iff_toInt_lt, Int32.le_iff_toInt_le, ← Int32.toInt_inj, nI_toInt, il_0, il_1, il_2, il_3, il_4, il_5, il_6, il_8, il_9, il_10, il_16, il_26, il_32, il_40, il_n4, il_n1, il_n2, il_11, il_48, il_57, il_59, il_44, il_126, il_200, il_9999, il_66666, il_10000, il_1000000, il_15, il_12, il_256, il_4096, il_53, il_52] at *; omega))]
  refine wp_iconst (pc' := 10) (1) dX0_goBack_9 rfl (by decide) ?_
  refine wp_isub (pc' := 11) dX0_goBack_10 rfl ?_
  rw [show nI (sw ρ w) - 1 = nI (sw ρ w - 1) by rw [← nI_lit1, nI_sub (by omega)]]
  refine wp_istore_n_3 (pc' := 12) dX0_goBack_11 (by decide) rfl rfl ?_
  refine wp_aload_n_0 (pc' := 13) dX0_goBack_12 rfl ?_
  refine wp_get_0_0 (pc' := 16) (by omega) rfl rfl me_X0_goBack_0 ic_X0_goBack_0 dX0_goBack_13 rfl ?_
  refine wp_get_1_2 (pc' := 19) (by omega) rfl me_X0_goBack_6 ic_X0_goBack_1 dX0_goBack_16 rfl ?_
  rw [q.all]
  refine wp_istore_4 (pc' := 21) dX0_goBack_19 (by decide) rfl rfl ?_
  refine wp_iload_n_3 (pc' := 22) dX0_goBack_21 rfl ?_
  refine wp_istore_5 (pc' := 24) dX0_goBack_22 (by decide) rfl rfl ?_
  refine lp_X0_goBack hn hs h q sp xr ok hw (fun h' e0 e1 a3 a4 a5 => ?_) (sw ρ w) (Nat.le_refl _) _ (by rw [← nI_lit1, nI_sub (by omega)]) h (fun _ _ => rfl) (fun i h1 h2 => absurd h1 (by omega)) _ (fun _ => rfl) (fun e => absurd e (by omega))
  refine wp_return dX0_goBack_83 rfl rfl (Nat.le_refl _) (Nat.le_refl _) ?_
  exact qV_of ⟨e0, e1⟩
end VF2

