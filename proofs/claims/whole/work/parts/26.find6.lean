abbrev rmX0_comesBack : Room := { frames := 4, cells := 0, slots := 0, locals := 94 }
theorem hy_X0_comesBack : yX0_comesBack.cls = RX0 ∧ yX0_comesBack.cls ≠ "java/lang/invoke/MethodHandle" ∧ yX0_comesBack.cls ≠ "java/lang/invoke/VarHandle" ∧ (parseMethodDescriptor yX0_comesBack.desc).map (fun d => d.parameters.length) = some 2 := by decide +kernel
theorem hz_X0_comesBack : yX0_comesBack.cls ≠ "java/lang/invoke/MethodHandle" ∧ yX0_comesBack.cls ≠ "java/lang/invoke/VarHandle" ∧ (parseMethodDescriptor yX0_comesBack.desc).map (fun d => d.parameters.length) = some 2 := by decide +kernel
abbrev rmX0_joined : Room := { frames := 2, cells := 0, slots := 0, locals := 43 }
theorem hy_X0_joined : yX0_joined.cls = RX0 ∧ yX0_joined.cls ≠ "java/lang/invoke/MethodHandle" ∧ yX0_joined.cls ≠ "java/lang/invoke/VarHandle" ∧ (parseMethodDescriptor yX0_joined.desc).map (fun d => d.parameters.length) = some 2 := by decide +kernel
theorem hz_X0_joined : yX0_joined.cls ≠ "java/lang/invoke/MethodHandle" ∧ yX0_joined.cls ≠ "java/lang/invoke/VarHandle" ∧ (parseMethodDescriptor yX0_joined.desc).map (fun d => d.parameters.length) = some 2 := by decide +kernel
abbrev rmX0_passed : Room := { frames := 4, cells := 0, slots := 0, locals := 94 }
theorem hy_X0_passed : yX0_passed.cls = RX0 ∧ yX0_passed.cls ≠ "java/lang/invoke/MethodHandle" ∧ yX0_passed.cls ≠ "java/lang/invoke/VarHandle" ∧ (parseMethodDescriptor yX0_passed.desc).map (fun d => d.parameters.length) = some 1 := by decide +kernel
theorem hz_X0_passed : yX0_passed.cls ≠ "java/lang/invoke/MethodHandle" ∧ yX0_passed.cls ≠ "java/lang/invoke/VarHandle" ∧ (parseMethodDescriptor yX0_passed.desc).map (fun d => d.parameters.length) = some 1 := by decide +kernel
abbrev rmX0_seen : Room := { frames := 2, cells := 0, slots := 0, locals := 41 }
theorem hy_X0_seen : yX0_seen.cls = RX0 ∧ yX0_seen.cls ≠ "java/lang/invoke/MethodHandle" ∧ yX0_seen.cls ≠ "java/lang/invoke/VarHandle" ∧ (parseMethodDescriptor yX0_seen.desc).map (fun d => d.parameters.length) = some 1 := by decide +kernel
theorem hz_X0_seen : yX0_seen.cls ≠ "java/lang/invoke/MethodHandle" ∧ yX0_seen.cls ≠ "java/lang/invoke/VarHandle" ∧ (parseMethodDescriptor yX0_seen.desc).map (fun d => d.parameters.length) = some 1 := by decide +kernel
theorem me_X0_comesBack_0 : Cond.fieldLink RX0 12 "DrawnByLost$Finder" "land" "LDrawnByLost$Land;" ∈ wsX0_comesBack := by decide +kernel
theorem me_X0_passed_0 : Cond.fieldLink RX0 22 "DrawnByLost$Finder" "ahead" "[I" ∈ wsX0_passed := by decide +kernel
theorem me_X0_passed_1 : Cond.fieldLink RX0 25 "DrawnByLost$Finder" "behind" "[I" ∈ wsX0_passed := by decide +kernel
theorem me_X0_passed_2 : Cond.fieldLink RX0 50 "DrawnByLost$Story" "walks" "I" ∈ wsX0_passed := by decide +kernel
theorem me_X0_passed_3 : Cond.fieldLink RX0 12 "DrawnByLost$Finder" "land" "LDrawnByLost$Land;" ∈ wsX0_passed := by decide +kernel
theorem me_X0_passed_4 : Cond.fieldLink RX0 42 "DrawnByLost$Land" "all" "I" ∈ wsX0_passed := by decide +kernel
theorem me_X0_joined_0 : Cond.fieldLink RX0 12 "DrawnByLost$Finder" "land" "LDrawnByLost$Land;" ∈ wsX0_joined := by decide +kernel
theorem me_X0_seen_0 : Cond.fieldLink RX0 12 "DrawnByLost$Finder" "land" "LDrawnByLost$Land;" ∈ wsX0_seen := by decide +kernel
theorem ic_X0_comesBack_0 : ∀ w ∈ wsX00, w ∈ wsX0_comesBack := by decide +kernel
theorem ic_X0_passed_0 : ∀ w ∈ wsX00, w ∈ wsX0_passed := by decide +kernel
theorem ic_X0_passed_5 : ∀ w ∈ wsX50, w ∈ wsX0_passed := by decide +kernel
theorem ic_X0_passed_1 : ∀ w ∈ wsX10, w ∈ wsX0_passed := by decide +kernel
theorem ic_X0_joined_0 : ∀ w ∈ wsX00, w ∈ wsX0_joined := by decide +kernel
theorem ic_X0_seen_0 : ∀ w ∈ wsX00, w ∈ wsX0_seen := by decide +kernel
-- Finder: round; passed; joined; seen
section VF6
variable {l : Launch} {D : va_G} {cy : CY} {B n : Nat} {h : Hp} {lg : Lg} {π : Nat → Nat}
def backB (R C : Nat) (mk ρ : Nat → Nat) (w x : Nat) : Bool := fw (kw ρ w) R C mk (tm ρ w) (fun z => decide (z = x)) (sw ρ w - 1) x
theorem lp_X0_comesBack {s w R C : Nat} {mk ρ : Nat → Nat} {post : PO} (hn : 89 ≤ n) (hs : St s) (H0 : Hp) (q0 : ShL H0 11 R C) (sp0 : Sp H0 R C mk) (xr0 : XR H0 s ρ) (ok : RowOK ρ) (hw : w < ρ 16)
    (K : ∀ h', (∀ a, a ≠ 14 → h' a = H0 a) → post (some (.int (b2i (anyB (R * C) (backB R C mk ρ w))))) (rf0 π) h' lg) :
    ∀ d x : Nat, x + d = R * C → (∀ y, y < x → backB R C mk ρ w y = false) → ∀ h', (∀ a, a ≠ 14 → h' a = H0 a) → WP l D cy B cX0_comesBack 4 RX0 wsX0_comesBack rmX0_comesBack (some .boolean) (QE0 D cy B n 0 0 (post)) EX0 n (rf0 π) h' lg 0 0 2 [some (.ref (B + 10)), some (.ref (B + s)), some (.int (nI w)), some (.int (nI x))] [] := by
  have hl := q0.1.le
  intro d
  induction d with
  | zero =>
    intro x hx all h' e0
    have qq := (q0.of_eq (e0 11 (by decide))).places
    have : x = R * C := by omega
    subst this
    refine wp_iload_n_3 (pc' := 3) dX0_comesBack_2 rfl ?_
    refine wp_aload_n_0 (pc' := 4) dX0_comesBack_3 rfl ?_
    refine wp_get_0_0 (pc' := 7) (by omega) rfl rfl me_X0_comesBack_0 ic_X0_comesBack_0 dX0_comesBack_4 rfl ?_
    refine wp_callVu (pc' := 10) (c_X1_places hn la11) gX0_comesBack_X1_places rfl rfl hy_X1_places ⟨Nat.le_of_ble_eq_true rfl, Nat.le_of_ble_eq_true rfl⟩ ⟨rfl, rfl⟩ (Nat.le_of_ble_eq_true rfl) ⟨Nat.le_of_ble_eq_true rfl, Nat.le_of_ble_eq_true rfl⟩ (by omega) (ce1 rfl) rfl rfl dX0_comesBack_7 rfl ?_
    rw [qq]
    refine wp_icmp_ge (pc' := 13) (tgt := 38) dX0_comesBack_10 rfl rfl (fun c10 => ?_) (fun c10 => by exfalso; exact c10 (nI_le (by omega) (by omega)))
    refine wp_iconst (pc' := 39) (0) dX0_comesBack_38 rfl (by decide) ?_
    refine wp_zreturn rfl dX0_comesBack_39 rfl rfl (Nat.le_refl _) (Nat.le_refl _) ?_
    have z := K h' e0
    have z2 : anyB (R * C) (backB R C mk ρ w) = false := by
      rw [Bool.eq_false_iff]
      intro q
      obtain ⟨y, h1, h2⟩ := anyB_iff.mp q
      rw [all y h1] at h2
      cases h2
    rw [z2] at z
    exact z
  | succ d ih =>
    intro x hx all h' e0
    have q := q0.of_eq (e0 11 (by decide))
    have qq := q.places
    have sp := sp0.of_eq (e0 13 (by decide))
    have xr := xr0.congr (h' := h') (fun a h1 h2 => e0 a (by have := hs.zone h1 h2; omega))
    refine wp_iload_n_3 (pc' := 3) dX0_comesBack_2 rfl ?_
    refine wp_aload_n_0 (pc' := 4) dX0_comesBack_3 rfl ?_
    refine wp_get_0_0 (pc' := 7) (by omega) rfl rfl me_X0_comesBack_0 ic_X0_comesBack_0 dX0_comesBack_4 rfl ?_
    refine wp_callVu (pc' := 10) (c_X1_places hn la11) gX0_comesBack_X1_places rfl rfl hy_X1_places ⟨Nat.le_of_ble_eq_true rfl, Nat.le_of_ble_eq_true rfl⟩ ⟨rfl, rfl⟩ (Nat.le_of_ble_eq_true rfl) ⟨Nat.le_of_ble_eq_true rfl, Nat.le_of_ble_eq_true rfl⟩ (by omega) (ce1 rfl) rfl rfl dX0_comesBack_7 rfl ?_
    rw [qq]
    refine wp_icmp_ge (pc' := 13) (tgt := 38) dX0_comesBack_10 rfl rfl (fun c10 => by exfalso; exact nI_ge (by omega) (by omega) c10) (fun c10 => ?_)
    refine wp_aload_n_0 (pc' := 14) dX0_comesBack_13 rfl ?_
    refine wp_aload_n_1 (pc' := 15) dX0_comesBack_14 rfl ?_
    refine wp_iload_n_2 (pc' := 16) dX0_comesBack_15 rfl ?_
    refine wp_iconst (pc' := 17) (1) dX0_comesBack_16 rfl (by decide) ?_
    refine wp_iload_n_3 (pc' := 18) dX0_comesBack_17 rfl ?_
    refine wp_ishl (pc' := 19) dX0_comesBack_18 rfl ?_
    rw [S_one (by omega)]
    refine wp_callVq (pc' := 22) (c_X0_goFrom hn hs q sp xr ok hw) gX0_comesBack_X0_goFrom rfl rfl hy_X0_goFrom ⟨Nat.le_of_ble_eq_true rfl, Nat.le_of_ble_eq_true rfl⟩ ⟨rfl, rfl⟩ (Nat.le_of_ble_eq_true rfl) ⟨Nat.le_of_ble_eq_true rfl, Nat.le_of_ble_eq_true rfl⟩ (by omega) (ce0 rfl) rfl rfl dX0_comesBack_19 rfl (fun x19 h19 q19 => ?_)
    obtain ⟨g0, g1, _⟩ := q19
    subst g0
    refine wp_iload_n_3 (pc' := 23) dX0_comesBack_22 rfl ?_
    refine wp_ishr (pc' := 24) dX0_comesBack_23 rfl ?_
    refine wp_iconst (pc' := 25) (1) dX0_comesBack_24 rfl (by decide) ?_
    refine wp_iand (pc' := 26) dX0_comesBack_25 rfl ?_
    rw [S_test _ (by omega), show fw (kw ρ w) R C mk (tm ρ w) (fun z => decide (z = x)) (sw ρ w - 1) x = backB R C mk ρ w x from rfl]
    refine wp_iconst (pc' := 27) (1) dX0_comesBack_26 rfl (by decide) ?_
    refine wp_icmp_ne (pc' := 30) (tgt := 32) dX0_comesBack_27 rfl rfl (fun c27 => ?_) (fun c27 => ?_)
    · skip -- 27 taken
      have hf : backB R C mk ρ w x = false := by
        cases q : backB R C mk ρ w x
        · rfl
        · rw [q] at c27; exact absurd rfl c27
      refine wp_iinc_3 (pc' := 35) (v := nI (x + 1)) dX0_comesBack_32 (by first | rfl | exact nI_1 _) (by decide) rfl rfl ?_
      refine wp_goto (tgt := 2) dX0_comesBack_35 rfl ?_
      refine ih (x + 1) (by omega) (fun y hy => ?_) h19 (fun a ha => by rw [g1 a ha]; exact e0 a ha)
      by_cases e : y = x
      · subst e; exact hf
      · exact all y (by omega)
    · skip -- 27 not taken
      have hf : backB R C mk ρ w x = true := by
        cases q : backB R C mk ρ w x
        · rw [q] at c27; exact absurd c27 (by decide)
        · rfl
      refine wp_iconst (pc' := 31) (1) dX0_comesBack_30 rfl (by decide) ?_
      refine wp_zreturn rfl dX0_comesBack_31 rfl rfl (Nat.le_refl _) (Nat.le_refl _) ?_
      have z := K h19 (fun a ha => by rw [g1 a ha]; exact e0 a ha)
      have z2 : anyB (R * C) (backB R C mk ρ w) = true := anyB_iff.mpr ⟨x, by omega, hf⟩
      rw [z2] at z
      exact z
theorem c_X0_comesBack {s w R C : Nat} {mk ρ : Nat → Nat} (hn : 89 ≤ n) (hs : St s) (q : ShL h 11 R C) (sp : Sp h R C mk) (xr : XR h s ρ) (ok : RowOK ρ) (hw : w < ρ 16) : Ctr l D cy B yX0_comesBack wsX0_comesBack rmX0_comesBack 0 0 n (rf0 π) h lg [.ref (B + 10), .ref (B + s), .int (nI w)] (qI (fun x h' => x = b2i (anyB (R * C) (backB R C mk ρ w)) ∧ (∀ a, a ≠ 14 → h' a = h a)) (rf0 π) lg) := by
  refine Ctr.of (cc := cX0_comesBack) (nL := 4) (own := RX0) (rt := (some .boolean)) (ls := [some (.ref (B + 10)), some (.ref (B + s)), some (.int (nI w)), none]) (by decide) rfl rfl (Nat.le_of_ble_eq_true rfl) rfl ?_
  refine wp_iconst (pc' := 1) (0) dX0_comesBack_0 rfl (by decide) ?_
  refine wp_istore_n_3 (pc' := 2) dX0_comesBack_1 (by decide) rfl rfl ?_
  exact lp_X0_comesBack hn hs h q sp xr ok hw (fun h' e0 => qI_of ⟨rfl, e0⟩) (R * C) 0 (by omega) (fun y hy => by omega) h (fun _ _ => rfl)
/-- the places on the rows of walk w -/
def onB (R C : Nat) (mk ρ : Nat → Nat) (w i : Nat) : Nat → Bool := fun x => fw (kw ρ w) R C mk (tm ρ w) (fun _ => true) i x && bw (kw ρ w) R C mk (tm ρ w) (sw ρ w) (sw ρ w - 1 - i) x
/-- .. of walks below w, and of the first i places of walk w -/
def paB (R C : Nat) (mk ρ : Nat → Nat) (w i : Nat) : Nat → Bool := fun x => anyB w (fun v => anyB (sw ρ v) (fun j => onB R C mk ρ v j x)) || anyB i (fun j => onB R C mk ρ w j x)
theorem anyB_succ (P : Nat) (f : Nat → Bool) : anyB (P + 1) f = (anyB P f || f P) := by
  unfold anyB
  rw [List.range_succ, List.any_append]
  simp
theorem paB_i (R C : Nat) (mk ρ : Nat → Nat) (w i x : Nat) : (paB R C mk ρ w i x || onB R C mk ρ w i x) = paB R C mk ρ w (i + 1) x := by
  unfold paB
  rw [anyB_succ, Bool.or_assoc]
theorem paB_w (R C : Nat) (mk ρ : Nat → Nat) (w : Nat) : paB R C mk ρ w (sw ρ w) = paB R C mk ρ (w + 1) 0 := by
  funext x
  unfold paB
  rw [anyB_succ]
  simp [anyB]
theorem lpi_X0_passed {s w R C : Nat} {mk ρ : Nat → Nat} {post : PO} (hn : 89 ≤ n) (hs : St s) (xr : XR h s ρ) (ok : RowOK ρ) (hw : w < ρ 16)
    (ah : ∀ i, i < sw ρ w → h 14 i = S (fw (kw ρ w) R C mk (tm ρ w) (fun _ => true) i)) (bk : ∀ i, i < sw ρ w → h 15 i = S (bw (kw ρ w) R C mk (tm ρ w) (sw ρ w) (sw ρ w - 1 - i)))
    (K : ∀ a4, WP l D cy B cX0_passed 5 RX0 wsX0_passed rmX0_passed (some .int) (QE0 D cy B n 0 0 (post)) EX0 n (rf0 π) h lg 0 0 75 [some (.ref (B + 10)), some (.ref (B + s)), some (.int (S (paB R C mk ρ w (sw ρ w)))), some (.int (nI w)), a4] []) :
    ∀ d i : Nat, i + d = sw ρ w → WP l D cy B cX0_passed 5 RX0 wsX0_passed rmX0_passed (some .int) (QE0 D cy B n 0 0 (post)) EX0 n (rf0 π) h lg 0 0 35 [some (.ref (B + 10)), some (.ref (B + s)), some (.int (S (paB R C mk ρ w i))), some (.int (nI w)), some (.int (nI i))] [] := by
  obtain ⟨w5, hk3, hs2, hs5⟩ := ok.w hw
  intro d
  induction d with
  | zero =>
    intro i hi
    have : i = sw ρ w := by omega
    subst this
    refine wp_iload_4 (pc' := 37) dX0_passed_35 rfl ?_
    refine wp_aload_n_1 (pc' := 38) dX0_passed_37 rfl ?_
    refine wp_iload_n_3 (pc' := 39) dX0_passed_38 rfl ?_
    refine wp_callVu (pc' := 42) (c_sizeOf hn hs xr ok hw) gX0_passed_X5_sizeOf rfl rfl hy_X5_sizeOf ⟨Nat.le_of_ble_eq_true rfl, Nat.le_of_ble_eq_true rfl⟩ ⟨rfl, rfl⟩ (Nat.le_of_ble_eq_true rfl) ⟨Nat.le_of_ble_eq_true rfl, Nat.le_of_ble_eq_true rfl⟩ (hs.lt (by omega)) (ce5 hs.K) rfl rfl dX0_passed_39 rfl ?_
    refine wp_icmp_ge (pc' := 45) (tgt := 75) dX0_passed_42 rfl rfl (fun c42 => ?_) (fun c42 => by exfalso; exact c42 (nI_le (by omega) (by omega)))
    exact K _
  | succ d ih =>
    intro i hi
    refine wp_iload_4 (pc' := 37) dX0_passed_35 rfl ?_
    refine wp_aload_n_1 (pc' := 38) dX0_passed_37 rfl ?_
    refine wp_iload_n_3 (pc' := 39) dX0_passed_38 rfl ?_
    refine wp_callVu (pc' := 42) (c_sizeOf hn hs xr ok hw) gX0_passed_X5_sizeOf rfl rfl hy_X5_sizeOf ⟨Nat.le_of_ble_eq_true rfl, Nat.le_of_ble_eq_true rfl⟩ ⟨rfl, rfl⟩ (Nat.le_of_ble_eq_true rfl) ⟨Nat.le_of_ble_eq_true rfl, Nat.le_of_ble_eq_true rfl⟩ (hs.lt (by omega)) (ce5 hs.K) rfl rfl dX0_passed_39 rfl ?_
    refine wp_icmp_ge (pc' := 45) (tgt := 75) dX0_passed_42 rfl rfl (fun c42 => by exfalso; exact nI_ge (by omega) (by omega) c42) (fun c42 => ?_)
    refine wp_iload_4 (pc' := 47) dX0_passed_45 rfl ?_
    refine wp_iconst (pc' := 48) (5) dX0_passed_47 rfl (by decide) ?_
    refine wp_icmp_ge (pc' := 51) (tgt := 75) dX0_passed_48 rfl rfl (fun c48 => by exfalso; (simp (disch := omega) only [Int32.lt_iff_toInt_lt, Int32.le_iff_toInt_le, ← Int32.toInt_inj, nI_toInt, il_0, il_1, il_2, il_3, il_4, il_5, il_6, il_8, il_9, il_10, il_16, il_26, il_32, il_40, il_n4, il_n1, il_n2, il_11, il_48, il_57, il_59, il_44, il_126, il_200, il_9999, il_66666, il_10000, il_1000000, il_15, il_12, il_256, il_4096, il_53, il_52] at c48; omega)) (fun c48 => ?_)
    refine wp_iload_n_2 (pc' := 52) dX0_passed_51 rfl ?_
    refine wp_aload_n_0 (pc' := 53) dX0_passed_52 rfl ?_
    refine wp_get_0_2 (pc' := 56) (by omega) rfl rfl me_X0_passed_0 ic_X0_passed_0 dX0_passed_53 rfl ?_
    refine wp_iload_4 (pc' := 58) dX0_passed_56 rfl ?_
    refine wp_iald (pc' := 59) (N := 5) (by omega) rfl rfl (by first | exact vp_in_nI (by omega) (by omega) | assumption | (unfold vp_in; decide)) dX0_passed_58 rfl ?_
    rw [nI_clamp (by omega), ah i (by omega)]
    refine wp_aload_n_0 (pc' := 60) dX0_passed_59 rfl ?_
    refine wp_get_0_3 (pc' := 63) (by omega) rfl rfl me_X0_passed_1 ic_X0_passed_0 dX0_passed_60 rfl ?_
    refine wp_iload_4 (pc' := 65) dX0_passed_63 rfl ?_
    refine wp_iald (pc' := 66) (N := 5) (by omega) rfl rfl (by first | exact vp_in_nI (by omega) (by omega) | assumption | (unfold vp_in; decide)) dX0_passed_65 rfl ?_
    rw [nI_clamp (by omega), bk i (by omega)]
    refine wp_iand (pc' := 67) dX0_passed_66 rfl ?_
    refine wp_ior (pc' := 68) dX0_passed_67 rfl ?_
    rw [S_and, S_or, show (S (fun z => paB R C mk ρ w i z || (fw (kw ρ w) R C mk (tm ρ w) (fun _ => true) i z && bw (kw ρ w) R C mk (tm ρ w) (sw ρ w) (sw ρ w - 1 - i) z))) = S (paB R C mk ρ w (i + 1)) from S_ext (fun x _ => paB_i R C mk ρ w i x)]
    refine wp_istore_n_2 (pc' := 69) dX0_passed_68 (by decide) rfl rfl ?_
    refine wp_iinc_4 (pc' := 72) (v := nI (i + 1)) dX0_passed_69 (by first | rfl | exact nI_1 _) (by decide) rfl rfl ?_
    refine wp_goto (tgt := 35) dX0_passed_72 rfl ?_
    exact ih (i + 1) (by omega)
theorem lp_X0_passed {s R C : Nat} {mk ρ : Nat → Nat} {post : PO} (hn : 89 ≤ n) (hs : St s) (H0 : Hp) (q0 : ShL H0 11 R C) (sp0 : Sp H0 R C mk) (xr0 : XR H0 s ρ) (ok : RowOK ρ)
    (K : ∀ h', (∀ a, a ≠ 14 → a ≠ 15 → h' a = H0 a) → post (some (.int (S (paB R C mk ρ (ρ 16) 0)))) (rf0 π) h' lg) :
    ∀ d w : Nat, w + d = ρ 16 → ∀ h', (∀ a, a ≠ 14 → a ≠ 15 → h' a = H0 a) → ∀ a4, WP l D cy B cX0_passed 5 RX0 wsX0_passed rmX0_passed (some .int) (QE0 D cy B n 0 0 (post)) EX0 n (rf0 π) h' lg 0 0 4 [some (.ref (B + 10)), some (.ref (B + s)), some (.int (S (paB R C mk ρ w 0))), some (.int (nI w)), a4] [] := by
  have hl := q0.1.le
  have h5 := ok.2.1
  intro d
  induction d with
  | zero =>
    intro w hw h' e0 a4
    have xr := xr0.congr (h' := h') (fun a h1 h2 => e0 a (by have := hs.zone h1 h2; omega) (by have := hs.zone h1 h2; omega))
    have : w = ρ 16 := by omega
    subst this
    refine wp_iload_n_3 (pc' := 5) dX0_passed_4 rfl ?_
    refine wp_aload_n_1 (pc' := 6) dX0_passed_5 rfl ?_
    refine wp_get_5_4 (pc' := 9) (hs.lt (by omega)) hs.K me_X0_passed_2 ic_X0_passed_5 dX0_passed_6 rfl ?_
    refine wp_icmp_ge (pc' := 12) (tgt := 81) dX0_passed_9 rfl rfl (fun c9 => ?_) (fun c9 => by exfalso; rw [xr.2.1] at c9; exact c9 (nI_le (by omega) (by omega)))
    refine wp_iload_n_2 (pc' := 82) dX0_passed_81 rfl ?_
    refine wp_ireturn dX0_passed_82 rfl rfl (Nat.le_refl _) (Nat.le_refl _) ?_
    exact K h' e0
  | succ d ih =>
    intro w hwd h' e0 a4
    have q := q0.of_eq (e0 11 (by decide) (by decide))
    have sp := sp0.of_eq (e0 13 (by decide) (by decide))
    have xr := xr0.congr (h' := h') (fun a h1 h2 => e0 a (by have := hs.zone h1 h2; omega) (by have := hs.zone h1 h2; omega))
    have hw : w < ρ 16 := by omega
    refine wp_iload_n_3 (pc' := 5) dX0_passed_4 rfl ?_
    refine wp_aload_n_1 (pc' := 6) dX0_passed_5 rfl ?_
    refine wp_get_5_4 (pc' := 9) (hs.lt (by omega)) hs.K me_X0_passed_2 ic_X0_passed_5 dX0_passed_6 rfl ?_
    refine wp_icmp_ge (pc' := 12) (tgt := 81) dX0_passed_9 rfl rfl (fun c9 => by exfalso; rw [xr.2.1] at c9; exact nI_ge (by omega) (by omega) c9) (fun c9 => ?_)
    refine wp_aload_n_0 (pc' := 13) dX0_passed_12 rfl ?_
    refine wp_aload_n_1 (pc' := 14) dX0_passed_13 rfl ?_
    refine wp_iload_n_3 (pc' := 15) dX0_passed_14 rfl ?_
    refine wp_aload_n_0 (pc' := 16) dX0_passed_15 rfl ?_
    refine wp_get_0_0 (pc' := 19) (by omega) rfl rfl me_X0_passed_3 ic_X0_passed_0 dX0_passed_16 rfl ?_
    refine wp_get_1_2 (pc' := 22) (by omega) rfl me_X0_passed_4 ic_X0_passed_1 dX0_passed_19 rfl ?_
    rw [q.all]
    refine wp_callVq (pc' := 25) (c_X0_goFrom hn hs q sp xr ok hw) gX0_passed_X0_goFrom rfl rfl hy_X0_goFrom ⟨Nat.le_of_ble_eq_true rfl, Nat.le_of_ble_eq_true rfl⟩ ⟨rfl, rfl⟩ (Nat.le_of_ble_eq_true rfl) ⟨Nat.le_of_ble_eq_true rfl, Nat.le_of_ble_eq_true rfl⟩ (by omega) (ce0 rfl) rfl rfl dX0_passed_22 rfl (fun x22 h22 q22 => ?_)
    obtain ⟨_, g1, g2⟩ := q22
    refine wp_pop (pc' := 26) dX0_passed_25 rfl rfl ?_
    refine wp_aload_n_0 (pc' := 27) dX0_passed_26 rfl ?_
    refine wp_aload_n_1 (pc' := 28) dX0_passed_27 rfl ?_
    refine wp_iload_n_3 (pc' := 29) dX0_passed_28 rfl ?_
    refine wp_callVv (pc' := 32) (c_X0_goBack hn hs (q.of_eq (g1 11 (by decide))) (sp.of_eq (g1 13 (by decide))) (xr.congr (fun a h1 h2 => g1 a (by have := hs.zone h1 h2; omega))) ok hw) gX0_passed_X0_goBack rfl rfl hy_X0_goBack ⟨Nat.le_of_ble_eq_true rfl, Nat.le_of_ble_eq_true rfl⟩ ⟨rfl, rfl⟩ (Nat.le_of_ble_eq_true rfl) ⟨Nat.le_of_ble_eq_true rfl, Nat.le_of_ble_eq_true rfl⟩ (by omega) (ce0 rfl) rfl rfl dX0_passed_29 rfl (fun h29 q29 => ?_)
    obtain ⟨g3, g4⟩ := q29
    have xr2 : XR h29 s ρ := (xr.congr (h' := h29) (fun a h1 h2 => by have z := hs.zone h1 h2; rw [g3 a (by omega), g1 a (by omega)]))
    refine wp_iconst (pc' := 33) (0) dX0_passed_32 rfl (by decide) ?_
    refine wp_istore_4 (pc' := 35) dX0_passed_33 (by decide) rfl rfl ?_
    refine lpi_X0_passed (mk := mk) (R := R) (C := C) hn hs xr2 ok hw (fun i hi => by rw [g3 14 (by decide), g2 i hi, fw_all]) g4 (fun a4 => ?_) (sw ρ w) 0 (by omega)
    refine wp_iinc_3 (pc' := 78) (v := nI (w + 1)) dX0_passed_75 (by first | rfl | exact nI_1 _) (by decide) rfl rfl ?_
    refine wp_goto (tgt := 4) dX0_passed_78 rfl ?_
    rw [paB_w]
    exact ih (w + 1) (by omega) h29 (fun a h1 h2 => by rw [g3 a h2, g1 a h1]; exact e0 a h1 h2) _
theorem c_X0_passed {s R C : Nat} {mk ρ : Nat → Nat} (hn : 89 ≤ n) (hs : St s) (q : ShL h 11 R C) (sp : Sp h R C mk) (xr : XR h s ρ) (ok : RowOK ρ) : Ctr l D cy B yX0_passed wsX0_passed rmX0_passed 0 0 n (rf0 π) h lg [.ref (B + 10), .ref (B + s)] (qI (fun x h' => x = S (paB R C mk ρ (ρ 16) 0) ∧ (∀ a, a ≠ 14 → a ≠ 15 → h' a = h a)) (rf0 π) lg) := by
  refine Ctr.of (cc := cX0_passed) (nL := 5) (own := RX0) (rt := (some .int)) (ls := [some (.ref (B + 10)), some (.ref (B + s)), none, none, none]) (by decide) rfl rfl (Nat.le_of_ble_eq_true rfl) rfl ?_
  refine wp_iconst (pc' := 1) (0) dX0_passed_0 rfl (by decide) ?_
  rw [show ([Value.int 0] : List Value) = [Value.int (S (paB R C mk ρ 0 0))] by rw [← S_zero]; rw [S_ext (f := fun _ => false) (g := paB R C mk ρ 0 0) (fun i _ => by simp [paB, anyB])]]
  refine wp_istore_n_2 (pc' := 2) dX0_passed_1 (by decide) rfl rfl ?_
  refine wp_iconst (pc' := 3) (0) dX0_passed_2 rfl (by decide) ?_
  refine wp_istore_n_3 (pc' := 4) dX0_passed_3 (by decide) rfl rfl ?_
  exact lp_X0_passed hn hs h q sp xr ok (fun h' e0 => qI_of ⟨rfl, e0⟩) (ρ 16) 0 (by omega) h (fun _ _ _ => rfl) _
/-- joined: j times the places beside, within g -/
def grow (R C : Nat) (g f0 : Nat → Bool) : Nat → Nat → Bool
  | 0 => f0
  | j + 1 => fun x => grow R C g f0 j x || (rch 0 R C (grow R C g f0 j) x && g x)
theorem grow_sup {R C : Nat} {g f0 : Nat → Bool} (h0 : Sup (R * C) f0) : ∀ j, Sup (R * C) (grow R C g f0 j) := by
  intro j
  induction j with
  | zero => exact h0
  | succ j ih => intro x hx; simp only [grow]; rw [ih x hx, rch_sup 0 R C _ x hx]; rfl
theorem lp_X0_joined {R C : Nat} {g f0 : Nat → Bool} {a1 : Option Value} {post : PO} (hn : 89 ≤ n) (q : ShL h 11 R C) (h0 : Sup (R * C) f0) (K : post (some (.int (S (grow R C g f0 16)))) (rf0 π) h lg) :
    ∀ d i : Nat, i + d = 16 → WP l D cy B cX0_joined 5 RX0 wsX0_joined rmX0_joined (some .int) (QE0 D cy B n 0 0 (post)) EX0 n (rf0 π) h lg 0 0 5 [some (.ref (B + 10)), a1, some (.int (S g)), some (.int (S (grow R C g f0 i))), some (.int (nI i))] [] := by
  intro d
  induction d with
  | zero =>
    intro i hi
    have : i = 16 := by omega
    subst this
    refine wp_iload_4 (pc' := 7) dX0_joined_5 rfl ?_
    refine wp_bipush (pc' := 9) (16) dX0_joined_7 rfl (by decide) ?_
    refine wp_icmp_ge (pc' := 12) (tgt := 31) dX0_joined_9 rfl rfl (fun c9 => ?_) (fun c9 => by exfalso; exact c9 (by decide))
    refine wp_iload_n_3 (pc' := 32) dX0_joined_31 rfl ?_
    refine wp_ireturn dX0_joined_32 rfl rfl (Nat.le_refl _) (Nat.le_refl _) ?_
    exact K
  | succ d ih =>
    intro i hi
    have hf := grow_sup (g := g) h0 i
    refine wp_iload_4 (pc' := 7) dX0_joined_5 rfl ?_
    refine wp_bipush (pc' := 9) (16) dX0_joined_7 rfl (by decide) ?_
    refine wp_icmp_ge (pc' := 12) (tgt := 31) dX0_joined_9 rfl rfl (fun c9 => by exfalso; (simp (disch := omega) only [Int32.lt_iff_toInt_lt, Int32.le_iff_toInt_le, ← Int32.toInt_inj, nI_toInt, il_0, il_1, il_2, il_3, il_4, il_5, il_6, il_8, il_9, il_10, il_16, il_26, il_32, il_40, il_n4, il_n1, il_n2, il_11, il_48, il_57, il_59, il_44, il_126, il_200, il_9999, il_66666, il_10000, il_1000000, il_15, il_12, il_256, il_4096, il_53, il_52] at c9; omega)) (fun c9 => ?_)
    refine wp_iload_n_3 (pc' := 13) dX0_joined_12 rfl ?_
    refine wp_aload_n_0 (pc' := 14) dX0_joined_13 rfl ?_
    refine wp_get_0_0 (pc' := 17) (by omega) rfl rfl me_X0_joined_0 ic_X0_joined_0 dX0_joined_14 rfl ?_
    refine wp_iload_n_3 (pc' := 18) dX0_joined_17 rfl ?_
    refine wp_callVu (pc' := 21) (c_X1_beside hn la11 q hf) gX0_joined_X1_beside rfl rfl hy_X1_beside ⟨Nat.le_of_ble_eq_true rfl, Nat.le_of_ble_eq_true rfl⟩ ⟨rfl, rfl⟩ (Nat.le_of_ble_eq_true rfl) ⟨Nat.le_of_ble_eq_true rfl, Nat.le_of_ble_eq_true rfl⟩ (by omega) (ce1 rfl) rfl rfl dX0_joined_18 rfl ?_
    refine wp_iload_n_2 (pc' := 22) dX0_joined_21 rfl ?_
    refine wp_iand (pc' := 23) dX0_joined_22 rfl ?_
    refine wp_ior (pc' := 24) dX0_joined_23 rfl ?_
    rw [S_and, S_or]
    refine wp_istore_n_3 (pc' := 25) dX0_joined_24 (by decide) rfl rfl ?_
    refine wp_iinc_4 (pc' := 28) (v := nI (i + 1)) dX0_joined_25 (by first | rfl | exact nI_1 _) (by decide) rfl rfl ?_
    refine wp_goto (tgt := 5) dX0_joined_28 rfl ?_
    exact ih (i + 1) (by omega)
theorem c_X0_joined {R C : Nat} {g f0 : Nat → Bool} (hn : 89 ≤ n) (q : ShL h 11 R C) (h0 : Sup (R * C) f0) : Ctr l D cy B yX0_joined wsX0_joined rmX0_joined 0 0 n (rf0 π) h lg [.ref (B + 10), .int (S f0), .int (S g)] (uI (S (grow R C g f0 16)) (rf0 π) h lg) := by
  refine Ctr.of (cc := cX0_joined) (nL := 5) (own := RX0) (rt := (some .int)) (ls := [some (.ref (B + 10)), some (.int (S f0)), some (.int (S g)), none, none]) (by decide) rfl rfl (Nat.le_of_ble_eq_true rfl) rfl ?_
  refine wp_iload_n_1 (pc' := 1) dX0_joined_0 rfl ?_
  refine wp_istore_n_3 (pc' := 2) dX0_joined_1 (by decide) rfl rfl ?_
  refine wp_iconst (pc' := 3) (0) dX0_joined_2 rfl (by decide) ?_
  refine wp_istore_4 (pc' := 5) dX0_joined_3 (by decide) rfl rfl ?_
  exact lp_X0_joined (f0 := f0) hn q h0 (uI_of rfl) 16 0 (by omega)
/-- what is seen in direction d: the place after j steps, or none -/
def spt (R C : Nat) (mk : Nat → Nat) (d x : Nat) : Nat → Nat → Bool
  | 0 => stepB R C d (fun z => decide (z = x))
  | j + 1 => stepB R C d (fun z => spt R C mk d x j z && !atB R C mk 1 z)
def sptE (R C : Nat) (mk : Nat → Nat) (d x j : Nat) : Bool := anyB (R * C) (spt R C mk d x j)
theorem spt_sup (R C : Nat) (mk : Nat → Nat) (d x j : Nat) : Sup (R * C) (spt R C mk d x j) := by
  cases j with
  | zero => exact stepB_sup R C d _
  | succ j => exact stepB_sup R C d _
theorem sptE_f {R C : Nat} {mk : Nat → Nat} {d x j : Nat} : sptE R C mk d x j = false ↔ ∀ i, spt R C mk d x j i = false := by
  constructor
  · intro h i
    cases e : spt R C mk d x j i
    · rfl
    · exfalso
      have := (anyB_iff (P := R * C) (f := spt R C mk d x j)).mpr ⟨i, (spt_sup R C mk d x j).lt e, e⟩
      unfold sptE at h
      rw [this] at h
      cases h
  · intro h
    unfold sptE
    rw [Bool.eq_false_iff]
    intro q
    obtain ⟨i, _, h2⟩ := anyB_iff.mp q
    rw [h i] at h2
    cases h2
theorem stepB_none {R C d : Nat} {f : Nat → Bool} (h : ∀ i, f i = false) (i : Nat) : stepB R C d f i = false := by simp [stepB, h]
theorem sptE_stay {R C : Nat} {mk : Nat → Nat} {d x j : Nat} (h : sptE R C mk d x j = false) : ∀ e, sptE R C mk d x (j + e) = false := by
  intro e
  induction e with
  | zero => exact h
  | succ e ih =>
    rw [sptE_f] at ih ⊢
    intro i
    show stepB R C d _ i = false
    exact stepB_none (fun z => by show (spt R C mk d x (j + e) z && _) = false; rw [ih z]; rfl) i
/-- how many are seen in direction d -/
def seeN (R C : Nat) (mk : Nat → Nat) (d x : Nat) : Nat := sumN 16 (fun j => one (sptE R C mk d x j))
def seeD (R C : Nat) (mk : Nat → Nat) (x : Nat) : Nat → Nat
  | 0 => 0
  | d + 1 => seeD R C mk x d + seeN R C mk d x
theorem lpi_X0_seen {R C x d : Nat} {mk : Nat → Nat} {v : Nat} {post : PO} (hn : 89 ≤ n) (q : ShL h 11 R C) (sp : Sp h R C mk) (hd : d < 4)
    (K : ∀ a4 a5, okc a4 = true → WP l D cy B cX0_seen 6 RX0 wsX0_seen rmX0_seen (some .int) (QE0 D cy B n 0 0 (post)) EX0 n (rf0 π) h lg 0 0 66 [some (.ref (B + 10)), some (.int (nI x)), some (.int (nI (v + seeN R C mk d x))), some (.int (nI d)), a4, a5] []) :
    ∀ k j : Nat, j + k = 16 → WP l D cy B cX0_seen 6 RX0 wsX0_seen rmX0_seen (some .int) (QE0 D cy B n 0 0 (post)) EX0 n (rf0 π) h lg 0 0 25 [some (.ref (B + 10)), some (.int (nI x)), some (.int (nI (v + sumN j (fun j => one (sptE R C mk d x j))))), some (.int (nI d)), some (.int (S (spt R C mk d x j))), some (.int (nI j))] [] := by
  have hl := q.1.le
  intro k
  induction k with
  | zero =>
    intro j hj
    have : j = 16 := by omega
    subst this
    refine wp_iload_5 (pc' := 27) dX0_seen_25 rfl ?_
    refine wp_bipush (pc' := 29) (16) dX0_seen_27 rfl (by decide) ?_
    refine wp_icmp_ge (pc' := 32) (tgt := 66) dX0_seen_29 rfl rfl (fun c29 => ?_) (fun c29 => by exfalso; exact c29 (by decide))
    exact K _ _ rfl
  | succ k ih =>
    intro j hj
    have hf : Sup (R * C) (fun z => spt R C mk d x j z && !atB R C mk 1 z) := fun i hi => by
      show (spt R C mk d x j i && _) = false
      rw [spt_sup R C mk d x j i hi]; rfl
    refine wp_iload_5 (pc' := 27) dX0_seen_25 rfl ?_
    refine wp_bipush (pc' := 29) (16) dX0_seen_27 rfl (by decide) ?_
    refine wp_icmp_ge (pc' := 32) (tgt := 66) dX0_seen_29 rfl rfl (fun c29 => by exfalso; (simp (disch := omega) only [Int32.lt_iff_toInt_lt, Int32.le_iff_toInt_le, ← Int32.toInt_inj, nI_toInt, il_0, il_1, il_2, il_3, il_4, il_5, il_6, il_8, il_9, il_10, il_16, il_26, il_32, il_40, il_n4, il_n1, il_n2, il_11, il_48, il_57, il_59, il_44, il_126, il_200, il_9999, il_66666, il_10000, il_1000000, il_15, il_12, il_256, il_4096, il_53, il_52] at c29; omega)) (fun c29 => ?_)
    refine wp_iload_4 (pc' := 34) dX0_seen_32 rfl ?_
    refine wp_if_eq (pc' := 37) (tgt := 66) dX0_seen_34 rfl rfl (fun c34 => ?_) (fun c34 => ?_)
    · skip -- 34 taken
      have z : sptE R C mk d x j = false := sptE_f.mpr (fun i => by
        by_cases e : i < 16
        · exact S_eq0.mp c34 i e
        · exact spt_sup R C mk d x j i (by omega))
      have zs : sumN 16 (fun j => one (sptE R C mk d x j)) = sumN j (fun j => one (sptE R C mk d x j)) := sumN_ext (by omega) (fun i h1 h2 => by
        have := sptE_stay z (i - j)
        rw [show j + (i - j) = i by omega] at this
        rw [this]; rfl)
      rw [← zs]
      exact K _ _ rfl
    · skip -- 34 not taken
      have z : sptE R C mk d x j = true := by
        cases e : sptE R C mk d x j
        · exact absurd (S_eq0.mpr (fun i _ => sptE_f.mp e i)) c34
        · rfl
      refine wp_iinc_2 (pc' := 40) (v := nI (v + sumN j (fun j => one (sptE R C mk d x j)) + 1)) dX0_seen_37 (by first | rfl | exact nI_1 _) (by decide) rfl rfl ?_
      refine wp_aload_n_0 (pc' := 41) dX0_seen_40 rfl ?_
      refine wp_get_0_0 (pc' := 44) (by omega) rfl rfl me_X0_seen_0 ic_X0_seen_0 dX0_seen_41 rfl ?_
      refine wp_iload_n_3 (pc' := 45) dX0_seen_44 rfl ?_
      refine wp_iload_4 (pc' := 47) dX0_seen_45 rfl ?_
      refine wp_aload_n_0 (pc' := 48) dX0_seen_47 rfl ?_
      refine wp_iconst (pc' := 49) (1) dX0_seen_48 rfl (by decide) ?_
      refine wp_callVu (pc' := 52) (c_X0_placesOf (m := 1) hn sp (by decide)) gX0_seen_X0_placesOf rfl rfl hy_X0_placesOf ⟨Nat.le_of_ble_eq_true rfl, Nat.le_of_ble_eq_true rfl⟩ ⟨rfl, rfl⟩ (Nat.le_of_ble_eq_true rfl) ⟨Nat.le_of_ble_eq_true rfl, Nat.le_of_ble_eq_true rfl⟩ (by omega) (ce0 rfl) rfl rfl dX0_seen_49 rfl ?_
      refine wp_iconst (pc' := 53) (-1) dX0_seen_52 rfl (by decide) ?_
      refine wp_ixor (pc' := 54) dX0_seen_53 rfl ?_
      refine wp_iand (pc' := 55) dX0_seen_54 rfl ?_
      rw [S_andnot]
      refine wp_callVu (pc' := 58) (c_X1_step (d := d) hn la11 q hd hf) gX0_seen_X1_step rfl rfl hy_X1_step ⟨Nat.le_of_ble_eq_true rfl, Nat.le_of_ble_eq_true rfl⟩ ⟨rfl, rfl⟩ (Nat.le_of_ble_eq_true rfl) ⟨Nat.le_of_ble_eq_true rfl, Nat.le_of_ble_eq_true rfl⟩ (by omega) (ce1 rfl) rfl rfl dX0_seen_55 rfl ?_
      refine wp_istore_4 (pc' := 60) dX0_seen_58 (by decide) rfl rfl ?_
      refine wp_iinc_5 (pc' := 63) (v := nI (j + 1)) dX0_seen_60 (by first | rfl | exact nI_1 _) (by decide) rfl rfl ?_
      refine wp_goto (tgt := 25) dX0_seen_63 rfl ?_
      have z2 := ih (j + 1) (by omega)
      rw [show v + sumN (j + 1) (fun j => one (sptE R C mk d x j)) = v + sumN j (fun j => one (sptE R C mk d x j)) + 1 by simp only [sumN]; rw [z]; simp [one, Nat.add_assoc]] at z2
      exact z2
theorem lp_X0_seen {R C x : Nat} {mk : Nat → Nat} {post : PO} (hn : 89 ≤ n) (q : ShL h 11 R C) (sp : Sp h R C mk) (hx : x < R * C) (K : post (some (.int (nI (seeD R C mk x 4)))) (rf0 π) h lg) :
    ∀ k d : Nat, d + k = 4 → ∀ a4 a5, okc a4 = true → WP l D cy B cX0_seen 6 RX0 wsX0_seen rmX0_seen (some .int) (QE0 D cy B n 0 0 (post)) EX0 n (rf0 π) h lg 0 0 4 [some (.ref (B + 10)), some (.int (nI x)), some (.int (nI (seeD R C mk x d))), some (.int (nI d)), a4, a5] [] := by
  have hl := q.1.le
  intro k
  induction k with
  | zero =>
    intro d hd a4 a5 ho
    have : d = 4 := by omega
    subst this
    refine wp_iload_n_3 (pc' := 5) dX0_seen_4 rfl ?_
    refine wp_iconst (pc' := 6) (4) dX0_seen_5 rfl (by decide) ?_
    refine wp_icmp_ge (pc' := 9) (tgt := 72) dX0_seen_6 rfl rfl (fun c6 => ?_) (fun c6 => by exfalso; exact c6 (by decide))
    refine wp_iload_n_2 (pc' := 73) dX0_seen_72 rfl ?_
    refine wp_ireturn dX0_seen_73 rfl rfl (Nat.le_refl _) (Nat.le_refl _) ?_
    exact K
  | succ k ih =>
    intro d hd a4 a5 ho
    have hf := sup_pt hx
    refine wp_iload_n_3 (pc' := 5) dX0_seen_4 rfl ?_
    refine wp_iconst (pc' := 6) (4) dX0_seen_5 rfl (by decide) ?_
    refine wp_icmp_ge (pc' := 9) (tgt := 72) dX0_seen_6 rfl rfl (fun c6 => by exfalso; (simp (disch := omega) only [Int32.lt_iff_toInt_lt, Int32.le_iff_toInt_le, ← Int32.toInt_inj, nI_toInt, il_0, il_1, il_2, il_3, il_4, il_5, il_6, il_8, il_9, il_10, il_16, il_26, il_32, il_40, il_n4, il_n1, il_n2, il_11, il_48, il_57, il_59, il_44, il_126, il_200, il_9999, il_66666, il_10000, il_1000000, il_15, il_12, il_256, il_4096, il_53, il_52] at c6; omega)) (fun c6 => ?_)
    refine wp_aload_n_0 (pc' := 10) dX0_seen_9 rfl ?_
    refine wp_get_0_0 (pc' := 13) (by omega) rfl rfl me_X0_seen_0 ic_X0_seen_0 dX0_seen_10 rfl ?_
    refine wp_iload_n_3 (pc' := 14) dX0_seen_13 rfl ?_
    refine wp_iconst (pc' := 15) (1) dX0_seen_14 rfl (by decide) ?_
    refine wp_iload_n_1 (pc' := 16) dX0_seen_15 rfl ?_
    refine wp_ishl (pc' := 17) dX0_seen_16 rfl ?_
    rw [S_one (by omega)]
    refine wp_callVu (pc' := 20) (c_X1_step (d := d) hn la11 q (by omega) hf) gX0_seen_X1_step rfl rfl hy_X1_step ⟨Nat.le_of_ble_eq_true rfl, Nat.le_of_ble_eq_true rfl⟩ ⟨rfl, rfl⟩ (Nat.le_of_ble_eq_true rfl) ⟨Nat.le_of_ble_eq_true rfl, Nat.le_of_ble_eq_true rfl⟩ (by omega) (ce1 rfl) rfl rfl dX0_seen_17 rfl ?_
    refine wp_istore_4 (pc' := 22) dX0_seen_20 (by decide) rfl rfl ?_
    refine wp_iconst (pc' := 23) (0) dX0_seen_22 rfl (by decide) ?_
    refine wp_istore_5 (pc' := 25) dX0_seen_23 (by decide) rfl rfl ?_
    refine lpi_X0_seen (mk := mk) (v := seeD R C mk x d) hn q sp (by omega) (fun b4 b5 ho2 => ?_) 16 0 (by omega)
    refine wp_iinc_3 (pc' := 69) (v := nI (d + 1)) dX0_seen_66 (by first | rfl | exact nI_1 _) (by decide) rfl rfl ?_
    refine wp_goto (tgt := 4) dX0_seen_69 rfl ?_
    exact ih (d + 1) (by omega) _ _ ho2
theorem c_X0_seen {R C x : Nat} {mk : Nat → Nat} (hn : 89 ≤ n) (q : ShL h 11 R C) (sp : Sp h R C mk) (hx : x < R * C) : Ctr l D cy B yX0_seen wsX0_seen rmX0_seen 0 0 n (rf0 π) h lg [.ref (B + 10), .int (nI x)] (uI (nI (seeD R C mk x 4)) (rf0 π) h lg) := by
  refine Ctr.of (cc := cX0_seen) (nL := 6) (own := RX0) (rt := (some .int)) (ls := [some (.ref (B + 10)), some (.int (nI x)), none, none, none, none]) (by decide) rfl rfl (Nat.le_of_ble_eq_true rfl) rfl ?_
  refine wp_iconst (pc' := 1) (0) dX0_seen_0 rfl (by decide) ?_
  refine wp_istore_n_2 (pc' := 2) dX0_seen_1 (by decide) rfl rfl ?_
  refine wp_iconst (pc' := 3) (0) dX0_seen_2 rfl (by decide) ?_
  refine wp_istore_n_3 (pc' := 4) dX0_seen_3 (by decide) rfl rfl ?_
  exact lp_X0_seen hn q sp hx (uI_of rfl) 4 0 (by omega) _ _ rfl
end VF6

