abbrev rmX0_look : Room := { frames := 1, cells := 0, slots := 0, locals := 20 }
theorem hy_X0_look : yX0_look.cls = RX0 ∧ yX0_look.cls ≠ "java/lang/invoke/MethodHandle" ∧ yX0_look.cls ≠ "java/lang/invoke/VarHandle" ∧ (parseMethodDescriptor yX0_look.desc).map (fun d => d.parameters.length) = some 1 := by decide +kernel
theorem hz_X0_look : yX0_look.cls ≠ "java/lang/invoke/MethodHandle" ∧ yX0_look.cls ≠ "java/lang/invoke/VarHandle" ∧ (parseMethodDescriptor yX0_look.desc).map (fun d => d.parameters.length) = some 1 := by decide +kernel
abbrev rmX0_placesOf : Room := { frames := 1, cells := 0, slots := 0, locals := 20 }
theorem hy_X0_placesOf : yX0_placesOf.cls = RX0 ∧ yX0_placesOf.cls ≠ "java/lang/invoke/MethodHandle" ∧ yX0_placesOf.cls ≠ "java/lang/invoke/VarHandle" ∧ (parseMethodDescriptor yX0_placesOf.desc).map (fun d => d.parameters.length) = some 1 := by decide +kernel
theorem hz_X0_placesOf : yX0_placesOf.cls ≠ "java/lang/invoke/MethodHandle" ∧ yX0_placesOf.cls ≠ "java/lang/invoke/VarHandle" ∧ (parseMethodDescriptor yX0_placesOf.desc).map (fun d => d.parameters.length) = some 1 := by decide +kernel
theorem me_X0_look_0 : Cond.fieldLink RX0 18 "DrawnByLost$Finder" "spots" "[I" ∈ wsX0_look := by decide +kernel
theorem me_X0_look_1 : Cond.fieldLink RX0 12 "DrawnByLost$Finder" "land" "LDrawnByLost$Land;" ∈ wsX0_look := by decide +kernel
theorem me_X0_look_2 : Cond.static yX7_isMark ∈ wsX0_look := by decide +kernel
theorem me_X0_look_3 : Cond.initialized yX7_isMark.cls ∈ wsX0_look := by decide +kernel
theorem me_X0_placesOf_0 : Cond.static yX7_isMark ∈ wsX0_placesOf := by decide +kernel
theorem me_X0_placesOf_1 : Cond.initialized yX7_isMark.cls ∈ wsX0_placesOf := by decide +kernel
theorem me_X0_placesOf_2 : Cond.fieldLink RX0 18 "DrawnByLost$Finder" "spots" "[I" ∈ wsX0_placesOf := by decide +kernel
theorem ic_X0_look_0 : ∀ w ∈ wsX00, w ∈ wsX0_look := by decide +kernel
theorem ic_X0_placesOf_0 : ∀ w ∈ wsX00, w ∈ wsX0_placesOf := by decide +kernel
-- Finder: looking at marks; going along walks
section VF1
variable {l : Launch} {D : va_G} {cy : CY} {B n : Nat} {h : Hp} {lg : Lg} {π : Nat → Nat}
/-- the finder has looked at marks mk -/
def Sp (h : Hp) (R C : Nat) (mk : Nat → Nat) : Prop := ∀ m, m < 6 → h 13 m = S (atB R C mk m)
theorem Sp.of_eq {h h' : Hp} {R C : Nat} {mk : Nat → Nat} (q : Sp h R C mk) (e : h' 13 = h 13) : Sp h' R C mk := fun m hm => by rw [e]; exact q m hm
theorem lp1_X0_look {j : Nat} {post : PO} (hn : 89 ≤ n) (H0 : Hp) (K : ∀ h', (∀ a, a ≠ 13 → h' a = H0 a) → (∀ m, m < 6 → h' 13 m = 0) → ∀ a2, WP l D cy B cX0_look 3 RX0 wsX0_look rmX0_look none (QE0 D cy B n 0 0 (post)) EX0 n (rf0 π) h' lg 0 0 21 [some (.ref (B + 10)), some (.ref (B + j)), a2] []) :
    ∀ d i : Nat, i + d = 6 → ∀ h', (∀ a, a ≠ 13 → h' a = H0 a) → (∀ m, m < i → h' 13 m = 0) → WP l D cy B cX0_look 3 RX0 wsX0_look rmX0_look none (QE0 D cy B n 0 0 (post)) EX0 n (rf0 π) h' lg 0 0 2 [some (.ref (B + 10)), some (.ref (B + j)), some (.int (nI i))] [] := by
  intro d
  induction d with
  | zero =>
    intro i hi h' e0 e1
    have : i = 6 := by omega
    subst this
    refine wp_iload_n_2 (pc' := 3) dX0_look_2 rfl ?_
    refine wp_bipush (pc' := 5) (6) dX0_look_3 rfl (by decide) ?_
    refine wp_icmp_ge (pc' := 8) (tgt := 21) dX0_look_5 rfl rfl (fun c5 => ?_) (fun c5 => by exfalso; exact absurd c5 (by decide))
    exact K h' e0 e1 _
  | succ d ih =>
    intro i hi h' e0 e1
    refine wp_iload_n_2 (pc' := 3) dX0_look_2 rfl ?_
    refine wp_bipush (pc' := 5) (6) dX0_look_3 rfl (by decide) ?_
    refine wp_icmp_ge (pc' := 8) (tgt := 21) dX0_look_5 rfl rfl (fun c5 => by exfalso; (simp (disch := omega) only [Int32.lt_iff_toInt_lt, Int32.le_iff_toInt_le, ← Int32.toInt_inj, nI_toInt, il_0, il_1, il_2, il_3, il_4, il_5, il_6, il_8, il_9, il_10, il_16, il_26, il_32, il_40, il_n4, il_n1, il_n2, il_11, il_48, il_57, il_59, il_44, il_126, il_200, il_9999, il_66666, il_10000, il_1000000, il_15, il_12, il_256, il_4096, il_53, il_52] at c5; omega)) (fun c5 => ?_)
    refine wp_aload_n_0 (pc' := 9) dX0_look_8 rfl ?_
    refine wp_get_0_1 (pc' := 12) (by omega) rfl rfl me_X0_look_0 ic_X0_look_0 dX0_look_9 rfl ?_
    refine wp_iload_n_2 (pc' := 13) dX0_look_12 rfl ?_
    refine wp_iconst (pc' := 14) (0) dX0_look_13 rfl (by decide) ?_
    refine wp_iast (pc' := 15) (N := 6) (by omega) rfl rfl (by first | exact vp_in_nI (by omega) (by omega) | assumption | (unfold vp_in; decide)) dX0_look_14 rfl ?_
    refine wp_iinc_2 (pc' := 18) (v := nI (i + 1)) dX0_look_15 (by first | rfl | exact nI_1 _) (by decide) rfl rfl ?_
    refine wp_goto (tgt := 2) dX0_look_18 rfl ?_
    refine ih (i + 1) (by omega) _ (fun a ha => by rw [hup_cell ha]; exact e0 a ha) (fun m hm => ?_)
    rw [nI_clamp (by omega)]
    by_cases e : m = i
    · subst e; rw [hup_at]
    · rw [hup_off e]; exact e1 m (by omega)
theorem lp2_X0_look {j R C : Nat} {mk : Nat → Nat} {post : PO} (hn : 89 ≤ n) (hj : j + 0 < 89) (hjk : kd j = 10) (hjl : ln j = 16) (hne : j ≠ 13) (H0 : Hp) (q : ShL H0 11 R C) (hm : ∀ i, i < 16 → H0 j i = nI (mk i)) (hm5 : ∀ i, i < 16 → mk i ≤ 5)
    (K : ∀ h', (∀ a, a ≠ 13 → h' a = H0 a) → (∀ m, m < 6 → h' 13 m = SN (R * C) (fun x => decide (mk x = m))) → ∀ a2, WP l D cy B cX0_look 3 RX0 wsX0_look rmX0_look none (QE0 D cy B n 0 0 (post)) EX0 n (rf0 π) h' lg 0 0 69 [some (.ref (B + 10)), some (.ref (B + j)), a2] []) :
    ∀ d i : Nat, i + d = R * C → ∀ h', (∀ a, a ≠ 13 → h' a = H0 a) → (∀ m, m < 6 → h' 13 m = SN i (fun x => decide (mk x = m))) → WP l D cy B cX0_look 3 RX0 wsX0_look rmX0_look none (QE0 D cy B n 0 0 (post)) EX0 n (rf0 π) h' lg 0 0 23 [some (.ref (B + 10)), some (.ref (B + j)), some (.int (nI i))] [] := by
  have hl := q.1.le
  have hj_lt : j < n := by omega
  intro d
  induction d with
  | zero =>
    intro i hi h' e0 e1
    have : i = R * C := by omega
    subst this
    have qq := (q.of_eq (e0 11 (by decide))).places
    refine wp_iload_n_2 (pc' := 24) dX0_look_23 rfl ?_
    refine wp_aload_n_0 (pc' := 25) dX0_look_24 rfl ?_
    refine wp_get_0_0 (pc' := 28) (by omega) rfl rfl me_X0_look_1 ic_X0_look_0 dX0_look_25 rfl ?_
    refine wp_callVu (pc' := 31) (c_X1_places hn la11) gX0_look_X1_places rfl rfl hy_X1_places ⟨Nat.le_of_ble_eq_true rfl, Nat.le_of_ble_eq_true rfl⟩ ⟨rfl, rfl⟩ (Nat.le_of_ble_eq_true rfl) ⟨Nat.le_of_ble_eq_true rfl, Nat.le_of_ble_eq_true rfl⟩ (by omega) (ce1 rfl) rfl rfl dX0_look_28 rfl ?_
    rw [qq]
    refine wp_icmp_ge (pc' := 34) (tgt := 69) dX0_look_31 rfl rfl (fun c31 => ?_) (fun c31 => by exfalso; exact c31 (nI_le (Nat.le_refl _) (by omega)))
    exact K h' e0 e1 _
  | succ d ih =>
    intro i hi h' e0 e1
    have qq := (q.of_eq (e0 11 (by decide))).places
    have hmi : h' j i = nI (mk i) := by rw [e0 j hne]; exact hm i (by omega)
    have h5 := hm5 i (by omega)
    refine wp_iload_n_2 (pc' := 24) dX0_look_23 rfl ?_
    refine wp_aload_n_0 (pc' := 25) dX0_look_24 rfl ?_
    refine wp_get_0_0 (pc' := 28) (by omega) rfl rfl me_X0_look_1 ic_X0_look_0 dX0_look_25 rfl ?_
    refine wp_callVu (pc' := 31) (c_X1_places hn la11) gX0_look_X1_places rfl rfl hy_X1_places ⟨Nat.le_of_ble_eq_true rfl, Nat.le_of_ble_eq_true rfl⟩ ⟨rfl, rfl⟩ (Nat.le_of_ble_eq_true rfl) ⟨Nat.le_of_ble_eq_true rfl, Nat.le_of_ble_eq_true rfl⟩ (by omega) (ce1 rfl) rfl rfl dX0_look_28 rfl ?_
    rw [qq]
    refine wp_icmp_ge (pc' := 34) (tgt := 69) dX0_look_31 rfl rfl (fun c31 => by exfalso; exact nI_ge (by omega) (by omega) c31) (fun c31 => ?_)
    refine wp_iload_n_2 (pc' := 35) dX0_look_34 rfl ?_
    refine wp_aload_n_1 (pc' := 36) dX0_look_35 rfl ?_
    refine wp_aleni (pc' := 37) (N := 16) (v := 16) hj_lt hjk hjl (by decide) dX0_look_36 rfl ?_
    refine wp_icmp_ge (pc' := 40) (tgt := 69) dX0_look_37 rfl rfl (fun c37 => by exfalso; (simp (disch := omega) only [Int32.lt_iff_toInt_lt, Int32.le_iff_toInt_le, ← Int32.toInt_inj, nI_toInt, il_0, il_1, il_2, il_3, il_4, il_5, il_6, il_8, il_9, il_10, il_16, il_26, il_32, il_40, il_n4, il_n1, il_n2, il_11, il_48, il_57, il_59, il_44, il_126, il_200, il_9999, il_66666, il_10000, il_1000000, il_15, il_12, il_256, il_4096, il_53, il_52] at c37; omega)) (fun c37 => ?_)
    refine wp_aload_n_1 (pc' := 41) dX0_look_40 rfl ?_
    refine wp_iload_n_2 (pc' := 42) dX0_look_41 rfl ?_
    refine wp_iald (pc' := 43) (N := 16) hj_lt hjk hjl (by first | exact vp_in_nI (by omega) (by omega) | assumption | (unfold vp_in; decide)) dX0_look_42 rfl ?_
    rw [nI_clamp (by omega), hmi]
    refine wp_callSNu (pc' := 46) (c_X7_isMark _) gX0_look_X7_isMark_n38 rfl rfl me_X0_look_3 (by decide +kernel) me_X0_look_2 hz_X7_isMark ⟨Nat.le_of_ble_eq_true rfl, Nat.le_of_ble_eq_true rfl⟩ ⟨rfl, rfl⟩ (Nat.le_of_ble_eq_true rfl) ⟨Nat.le_of_ble_eq_true rfl, Nat.le_of_ble_eq_true rfl⟩ rfl dX0_look_43 rfl ?_
    refine wp_if_eq (pc' := 49) (tgt := 63) dX0_look_46 rfl rfl (fun c46 => by exfalso; exact b2i_ne0.mpr (by simp only [decide_eq_true_eq]; (simp (disch := omega) only [Int32.lt_iff_toInt_lt, Int32.le_iff_toInt_le, ← Int32.toInt_inj, nI_toInt, il_0, il_1, il_2, il_3, il_4, il_5, il_6, il_8, il_9, il_10, il_16, il_26, il_32, il_40, il_n4, il_n1, il_n2, il_11, il_48, il_57, il_59, il_44, il_126, il_200, il_9999, il_66666, il_10000, il_1000000, il_15, il_12, il_256, il_4096, il_53, il_52] at *; omega)) c46) (fun c46 => ?_)
    refine wp_aload_n_0 (pc' := 50) dX0_look_49 rfl ?_
    refine wp_get_0_1 (pc' := 53) (by omega) rfl rfl me_X0_look_0 ic_X0_look_0 dX0_look_50 rfl ?_
    refine wp_aload_n_1 (pc' := 54) dX0_look_53 rfl ?_
    refine wp_iload_n_2 (pc' := 55) dX0_look_54 rfl ?_
    refine wp_iald (pc' := 56) (N := 16) hj_lt hjk hjl (by first | exact vp_in_nI (by omega) (by omega) | assumption | (unfold vp_in; decide)) dX0_look_55 rfl ?_
    rw [nI_clamp (by omega), hmi]
    refine wp_dup2 (pc' := 57) dX0_look_56 rfl rfl rfl ?_
    refine wp_iald (pc' := 58) (N := 6) (by omega) rfl rfl (by first | exact vp_in_nI (by omega) (by omega) | assumption | (unfold vp_in; decide)) dX0_look_57 rfl ?_
    rw [nI_clamp (by omega), e1 _ (by omega)]
    refine wp_iconst (pc' := 59) (1) dX0_look_58 rfl (by decide) ?_
    refine wp_iload_n_2 (pc' := 60) dX0_look_59 rfl ?_
    refine wp_ishl (pc' := 61) dX0_look_60 rfl ?_
    refine wp_ior (pc' := 62) dX0_look_61 rfl ?_
    refine wp_iast (pc' := 63) (N := 6) (by omega) rfl rfl (by first | exact vp_in_nI (by omega) (by omega) | assumption | (unfold vp_in; decide)) dX0_look_62 rfl ?_
    refine wp_iinc_2 (pc' := 66) (v := nI (i + 1)) dX0_look_63 (by first | rfl | exact nI_1 _) (by decide) rfl rfl ?_
    refine wp_goto (tgt := 23) dX0_look_66 rfl ?_
    refine ih (i + 1) (by omega) _ (fun a ha => by rw [hup_cell ha]; exact e0 a ha) (fun m hm6 => ?_)
    rw [nI_clamp (by omega)]
    by_cases e : m = mk i
    · subst e
      rw [hup_at]
      simp [SN]
    · rw [hup_off e, e1 m hm6]
      have : ¬ mk i = m := fun w => e w.symm
      simp [SN, this]
theorem c_X0_look {s R C : Nat} {ρ : Nat → Nat} (hn : 89 ≤ n) (hs : St s) (q : ShL h 11 R C) (xm : ∀ i, i < 16 → h (s + 1) i = nI (ρ i)) (x5 : ∀ i, i < 16 → ρ i ≤ 5) : Ctr l D cy B yX0_look wsX0_look rmX0_look 0 0 n (rf0 π) h lg [.ref (B + 10), .ref (B + (s + 1))] (qV (fun h' => (∀ a, a ≠ 13 → h' a = h a) ∧ Sp h' R C ρ) (rf0 π) lg) := by
  have hl := q.1.le
  have h89 := hs.lt89
  refine Ctr.of (cc := cX0_look) (nL := 3) (own := RX0) (rt := none) (ls := [some (.ref (B + 10)), some (.ref (B + (s + 1))), none]) (by decide) rfl rfl (Nat.le_of_ble_eq_true rfl) rfl ?_
  refine wp_iconst (pc' := 1) (0) dX0_look_0 rfl (by decide) ?_
  refine wp_istore_n_2 (pc' := 2) dX0_look_1 (by decide) rfl rfl ?_
  refine lp1_X0_look hn h (fun h1 e0 e1 a2 => ?_) 6 0 (by omega) h (fun _ _ => rfl) (fun m hm => by omega)
  refine wp_iconst (pc' := 22) (0) dX0_look_21 rfl (by decide) ?_
  refine wp_istore_n_2 (pc' := 23) dX0_look_22 (by decide) rfl rfl ?_
  refine lp2_X0_look hn (by omega) hs.K1 hs.ln1 (fun e => by have := hs.K1; rw [e] at this; have z := hs.ln1; rw [e] at z; revert z; decide) h q xm x5 (fun h2 g0 g1 b2 => ?_) (R * C) 0 (by omega) h1 e0 (fun m hm => e1 m hm)
  refine wp_return dX0_look_69 rfl rfl (Nat.le_refl _) (Nat.le_refl _) ?_
  refine qV_of ⟨g0, fun m hm => ?_⟩
  rw [g1 m hm, SN_lim _ hl]
  rfl
theorem c_X0_placesOf {m R C : Nat} {mk : Nat → Nat} (hn : 89 ≤ n) (sp : Sp h R C mk) (hm : m ≤ 5) : Ctr l D cy B yX0_placesOf wsX0_placesOf rmX0_placesOf 0 0 n (rf0 π) h lg [.ref (B + 10), .int (nI m)] (uI (S (atB R C mk m)) (rf0 π) h lg) := by
  refine Ctr.of (cc := cX0_placesOf) (nL := 2) (own := RX0) (rt := (some .int)) (ls := [some (.ref (B + 10)), some (.int (nI m))]) (by decide) rfl rfl (Nat.le_of_ble_eq_true rfl) rfl ?_
  refine wp_iload_n_1 (pc' := 1) dX0_placesOf_0 rfl ?_
  refine wp_callSNu (pc' := 4) (c_X7_isMark _) gX0_placesOf_X7_isMark_n38 rfl rfl me_X0_placesOf_1 (by decide +kernel) me_X0_placesOf_0 hz_X7_isMark ⟨Nat.le_of_ble_eq_true rfl, Nat.le_of_ble_eq_true rfl⟩ ⟨rfl, rfl⟩ (Nat.le_of_ble_eq_true rfl) ⟨Nat.le_of_ble_eq_true rfl, Nat.le_of_ble_eq_true rfl⟩ rfl dX0_placesOf_1 rfl ?_
  refine wp_if_eq (pc' := 7) (tgt := 16) dX0_placesOf_4 rfl rfl (fun c4 => by exfalso; exact b2i_ne0.mpr (by simp only [decide_eq_true_eq]; (simp (disch := omega) only [Int32.lt_iff_toInt_lt, Int32.le_iff_toInt_le, ← Int32.toInt_inj, nI_toInt, il_0, il_1, il_2, il_3, il_4, il_5, il_6, il_8, il_9, il_10, il_16, il_26, il_32, il_40, il_n4, il_n1, il_n2, il_11, il_48, il_57, il_59, il_44, il_126, il_200, il_9999, il_66666, il_10000, il_1000000, il_15, il_12, il_256, il_4096, il_53, il_52] at *; omega)) c4) (fun c4 => ?_)
  refine wp_aload_n_0 (pc' := 8) dX0_placesOf_7 rfl ?_
  refine wp_get_0_1 (pc' := 11) (by omega) rfl rfl me_X0_placesOf_2 ic_X0_placesOf_0 dX0_placesOf_8 rfl ?_
  refine wp_iload_n_1 (pc' := 12) dX0_placesOf_11 rfl ?_
  refine wp_iald (pc' := 13) (N := 6) (by omega) rfl rfl (by first | exact vp_in_nI (by omega) (by omega) | assumption | (unfold vp_in; decide)) dX0_placesOf_12 rfl ?_
  refine wp_goto (tgt := 17) dX0_placesOf_13 rfl ?_
  refine wp_ireturn dX0_placesOf_17 rfl rfl (Nat.le_refl _) (Nat.le_refl _) ?_
  exact uI_of (by rw [nI_clamp (by omega), sp m (by omega)])
end VF1

