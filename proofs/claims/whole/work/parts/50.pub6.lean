abbrev rmX7_may : Room := { frames := 5, cells := 0, slots := 0, locals := 116 }
theorem hy_X7_may : yX7_may.cls = RX7 ∧ yX7_may.cls ≠ "java/lang/invoke/MethodHandle" ∧ yX7_may.cls ≠ "java/lang/invoke/VarHandle" ∧ (parseMethodDescriptor yX7_may.desc).map (fun d => d.parameters.length) = some 1 := by decide +kernel
theorem hz_X7_may : yX7_may.cls ≠ "java/lang/invoke/MethodHandle" ∧ yX7_may.cls ≠ "java/lang/invoke/VarHandle" ∧ (parseMethodDescriptor yX7_may.desc).map (fun d => d.parameters.length) = some 1 := by decide +kernel
abbrev rmX7_moved : Room := { frames := 6, cells := 0, slots := 0, locals := 139 }
theorem hy_X7_moved : yX7_moved.cls = RX7 ∧ yX7_moved.cls ≠ "java/lang/invoke/MethodHandle" ∧ yX7_moved.cls ≠ "java/lang/invoke/VarHandle" ∧ (parseMethodDescriptor yX7_moved.desc).map (fun d => d.parameters.length) = some 1 := by decide +kernel
theorem hz_X7_moved : yX7_moved.cls ≠ "java/lang/invoke/MethodHandle" ∧ yX7_moved.cls ≠ "java/lang/invoke/VarHandle" ∧ (parseMethodDescriptor yX7_moved.desc).map (fun d => d.parameters.length) = some 1 := by decide +kernel
theorem me_X7_may_0 : Cond.fieldLink RX7 35 "DrawnByLost" "trial" "LDrawnByLost$Story;" ∈ wsX7_may := by decide +kernel
theorem me_X7_may_1 : Cond.fieldLink RX7 106 "DrawnByLost$Story" "marks" "[I" ∈ wsX7_may := by decide +kernel
theorem me_X7_may_2 : Cond.fieldLink RX7 31 "DrawnByLost" "now" "LDrawnByLost$Story;" ∈ wsX7_may := by decide +kernel
theorem me_X7_moved_0 : Cond.fieldLink RX7 27 "DrawnByLost" "land" "LDrawnByLost$Land;" ∈ wsX7_moved := by decide +kernel
theorem me_X7_moved_1 : Cond.fieldLink RX7 35 "DrawnByLost" "trial" "LDrawnByLost$Story;" ∈ wsX7_moved := by decide +kernel
theorem me_X7_moved_2 : Cond.fieldLink RX7 31 "DrawnByLost" "now" "LDrawnByLost$Story;" ∈ wsX7_moved := by decide +kernel
theorem ic_X7_may_7 : ∀ w ∈ wsX70, w ∈ wsX7_may := by decide +kernel
theorem ic_X7_may_5 : ∀ w ∈ wsX50, w ∈ wsX7_may := by decide +kernel
theorem ic_X7_moved_7 : ∀ w ∈ wsX70, w ∈ wsX7_moved := by decide +kernel
-- the class's calls: may, moved, flood
section VP6
variable {l : Launch} {D : va_G} {cy : CY} {B n : Nat} {h : Hp} {lg : Lg} {π : Nat → Nat} {σ : Sg}
def Fr (h' h : Hp) : Prop := ∀ a, a ≠ 13 → a ≠ 14 → (a < 23 ∨ 27 < a) → h' a = h a
theorem Fr.tr {h1 h2 h3 : Hp} (a : Fr h3 h2) (b : Fr h2 h1) : Fr h3 h1 := fun c z1 z2 z3 => by rw [a c z1 z2 z3, b c z1 z2 z3]
theorem XQ.fr {h1 : Hp} {a b : Int32} (e : b = a) (X : XI h π σ) (f : Fr h1 h) : XQ h lg a σ (some (.int b)) (rf0 π) h1 lg := XQ.sc e X (by rw [f 1 (by decide) (by decide) (by decide)]) (fun k hk => f k (by unfold Kp at hk; omega) (by unfold Kp at hk; omega) (by unfold Kp at hk; omega))
def mayB (R C : Nat) (ρ : Nat → Nat) (a m : Nat) : Bool := !anyL R C (upN ρ a m)
def aMay (σ : Sg) (x : Int32) : Int32 := match ix x (σ.R * σ.C) with
  | none => -1
  | some a => SN 6 (mayB σ.R σ.C σ.ρ a)
theorem upN_upN (f : Nat → Nat) (i v w : Nat) : upN (upN f i v) i w = upN f i w := by
  funext j; unfold upN; by_cases e : j = i <;> simp [e]
theorem upN_self (f : Nat → Nat) (i : Nat) : upN f i (f i) = f := by
  funext j; unfold upN; by_cases e : j = i
  · subst e; simp
  · simp [e]
theorem upN_ok {ρ : Nat → Nat} {a m : Nat} (ok : RowOK ρ) (ha : a < 16) (hm : m ≤ 5) : RowOK (upN ρ a m) := ok.marks (fun i hi => by unfold upN; split; omega; exact ok.1 i hi) (fun i hi => upN_off (by omega))
theorem lp_X7_may {R C a : Nat} {ρ : Nat → Nat} {post : PO} (hn : 89 ≤ n) (H0 : Hp) (q0 : ShL H0 11 R C) (ok : RowOK ρ) (ha : a < 16) (K : ∀ h', Fr h' H0 → post (some (.int (SN 6 (mayB R C ρ a)))) (rf0 π) h' lg) :
    ∀ d i : Nat, i + d = 6 → ∀ h' j, Fr h' H0 → XR h' 23 (upN ρ a j) → WP l D cy B cX7_may 4 RX7 wsX7_may rmX7_may (some .int) (QE0 D cy B n 0 0 (post)) EX0 n (rf0 π) h' lg 0 0 25 [some (.ref (B + 0)), some (.int (nI a)), some (.int (SN i (mayB R C ρ a))), some (.int (nI i))] [] := by
  intro d
  induction d with
  | zero =>
    intro i hi h' j f xr
    have : i = 6 := by omega
    subst this
    refine wp_iload_n_3 (pc' := 26) dX7_may_25 rfl ?_
    refine wp_bipush (pc' := 28) (6) dX7_may_26 rfl (by decide) ?_
    refine wp_icmp_ge (pc' := 31) (tgt := 64) dX7_may_28 rfl rfl (fun c28 => ?_) (fun c28 => by exfalso; exact c28 (by decide))
    refine wp_iload_n_2 (pc' := 65) dX7_may_64 rfl ?_
    refine wp_ireturn dX7_may_65 rfl rfl (Nat.le_refl _) (Nat.le_refl _) ?_
    exact K h' f
  | succ d ih =>
    intro i hi h' j f xr
    have xr2 := xr.alter (x := a) (m := i) ha
    rw [upN_upN] at xr2
    have ok2 := upN_ok (m := i) ok ha (by omega)
    refine wp_iload_n_3 (pc' := 26) dX7_may_25 rfl ?_
    refine wp_bipush (pc' := 28) (6) dX7_may_26 rfl (by decide) ?_
    refine wp_icmp_ge (pc' := 31) (tgt := 64) dX7_may_28 rfl rfl (fun c28 => by exfalso; (simp (disch := omega) only [Int32.lt_iff_toInt_lt, Int32.le_iff_toInt_le, ← Int32.toInt_inj, nI_toInt, il_0, il_1, il_2, il_3, il_4, il_5, il_6, il_8, il_9, il_10, il_16, il_26, il_32, il_40, il_n4, il_n1, il_n2, il_11, il_48, il_57, il_59, il_44, il_126, il_200, il_9999, il_66666, il_10000, il_1000000, il_15, il_12, il_256, il_4096, il_53, il_52] at c28; omega)) (fun c28 => ?_)
    refine wp_aload_n_0 (pc' := 32) dX7_may_31 rfl ?_
    refine wp_get_7_4 (pc' := 35) (by omega) rfl rfl me_X7_may_0 ic_X7_may_7 dX7_may_32 rfl ?_
    refine wp_get_5_0 (pc' := 38) (by omega) rfl rfl me_X7_may_1 ic_X7_may_5 dX7_may_35 rfl ?_
    refine wp_iload_n_1 (pc' := 39) dX7_may_38 rfl ?_
    refine wp_iload_n_3 (pc' := 40) dX7_may_39 rfl ?_
    refine wp_iast (pc' := 41) (N := 16) (by omega) rfl rfl (by first | exact vp_in_nI (by omega) (by omega) | assumption | (unfold vp_in; decide)) dX7_may_40 rfl ?_
    rw [nI_clamp (by omega)]
    refine wp_aload_n_0 (pc' := 42) dX7_may_41 rfl ?_
    refine wp_aload_n_0 (pc' := 43) dX7_may_42 rfl ?_
    refine wp_get_7_4 (pc' := 46) (by omega) rfl rfl me_X7_may_0 ic_X7_may_7 dX7_may_43 rfl ?_
    refine wp_callVq (pc' := 49) (c_X7_allCanLie hn st23 (q0.of_eq (by rw [hup_cell (by decide), f 11 (by decide) (by decide) (by decide)])) xr2 ok2) gX7_may_X7_allCanLie rfl rfl hy_X7_allCanLie ⟨Nat.le_of_ble_eq_true rfl, Nat.le_of_ble_eq_true rfl⟩ ⟨rfl, rfl⟩ (Nat.le_of_ble_eq_true rfl) ⟨Nat.le_of_ble_eq_true rfl, Nat.le_of_ble_eq_true rfl⟩ (by omega) (ce7 rfl) rfl rfl dX7_may_46 rfl (fun x46 h46 q46 => ?_)
    obtain ⟨g0, g1⟩ := q46
    subst g0
    have f2 : Fr h46 H0 := fun c z1 z2 z3 => by rw [g1 c z1 z2, hup_cell (by omega), f c z1 z2 z3]
    have xr3 := xr2.congr (h' := h46) (fun c z1 z2 => g1 c (by omega) (by omega))
    refine wp_if_eq (pc' := 52) (tgt := 58) dX7_may_49 rfl rfl (fun c49 => ?_) (fun c49 => ?_)
    · skip -- 49 taken
      refine wp_iinc_3 (pc' := 61) (v := nI (i + 1)) dX7_may_58 (by first | rfl | exact nI_1 _) (by decide) rfl rfl ?_
      refine wp_goto (tgt := 25) dX7_may_61 rfl ?_
      have e : ¬ mayB R C ρ a i = true := fun z => by rw [show (!anyL R C (upN ρ a i)) = true from z] at c49; exact absurd c49 (by decide)
      have z := ih (i + 1) (by omega) h46 i f2 xr3
      rw [show SN (i + 1) (mayB R C ρ a) = SN i (mayB R C ρ a) by simp [SN, e]] at z
      exact z
    · skip -- 49 not taken
      refine wp_iload_n_2 (pc' := 53) dX7_may_52 rfl ?_
      refine wp_iconst (pc' := 54) (1) dX7_may_53 rfl (by decide) ?_
      refine wp_iload_n_3 (pc' := 55) dX7_may_54 rfl ?_
      refine wp_ishl (pc' := 56) dX7_may_55 rfl ?_
      refine wp_ior (pc' := 57) dX7_may_56 rfl ?_
      refine wp_istore_n_2 (pc' := 58) dX7_may_57 (by decide) rfl rfl ?_
      refine wp_iinc_3 (pc' := 61) (v := nI (i + 1)) dX7_may_58 (by first | rfl | exact nI_1 _) (by decide) rfl rfl ?_
      refine wp_goto (tgt := 25) dX7_may_61 rfl ?_
      have e : mayB R C ρ a i = true := b2i_ne0.mp c49
      have z := ih (i + 1) (by omega) h46 i f2 xr3
      rw [show SN (i + 1) (mayB R C ρ a) = SN i (mayB R C ρ a) ||| ((1 : Int32) <<< (nI i &&& 31)) by simp [SN, e]] at z
      exact z
theorem c_X7_may (hn : 89 ≤ n) (X : XI h π σ) (x : Int32) : Ctr l D cy B yX7_may wsX7_may rmX7_may 0 0 n (rf0 π) h lg [.ref (B + 0), .int x] (XQ h lg (aMay σ x) σ) := by
  obtain ⟨T, q, u, ok, xr, xp, xk⟩ := id X
  have hl := q.1.le
  cases e : ix x (σ.R * σ.C) with
  | none =>
    rw [show aMay σ x = -1 by simp only [aMay, e]]
    refine Ctr.of (cc := cX7_may) (nL := 4) (own := RX7) (rt := (some .int)) (ls := [some (.ref (B + 0)), some (.int x), none, none]) (by decide) rfl rfl (Nat.le_of_ble_eq_true rfl) rfl ?_
    refine wp_aload_n_0 (pc' := 1) dX7_may_0 rfl ?_
    refine wp_iload_n_1 (pc' := 2) dX7_may_1 rfl ?_
    refine wp_callVu (pc' := 5) (c_X7_isPlace hn q _) gX7_may_X7_isPlace rfl rfl hy_X7_isPlace ⟨Nat.le_of_ble_eq_true rfl, Nat.le_of_ble_eq_true rfl⟩ ⟨rfl, rfl⟩ (Nat.le_of_ble_eq_true rfl) ⟨Nat.le_of_ble_eq_true rfl, Nat.le_of_ble_eq_true rfl⟩ (by omega) (ce7 rfl) rfl rfl dX7_may_2 rfl ?_
    rw [e]
    refine wp_if_ne (pc' := 8) (tgt := 10) dX7_may_5 rfl rfl (fun c5 => by exfalso; exact c5 rfl) (fun c5 => ?_)
    refine wp_iconst (pc' := 9) (-1) dX7_may_8 rfl (by decide) ?_
    refine wp_ireturn dX7_may_9 rfl rfl (Nat.le_refl _) (Nat.le_refl _) ?_
    exact XQ.id rfl X
  | some a =>
    obtain ⟨rfl, z1⟩ := ix_some e
    rw [show aMay σ (nI a) = SN 6 (mayB σ.R σ.C σ.ρ a) by simp only [aMay, e]]
    refine Ctr.of (cc := cX7_may) (nL := 4) (own := RX7) (rt := (some .int)) (ls := [some (.ref (B + 0)), some (.int (nI a)), none, none]) (by decide) rfl rfl (Nat.le_of_ble_eq_true rfl) rfl ?_
    refine wp_aload_n_0 (pc' := 1) dX7_may_0 rfl ?_
    refine wp_iload_n_1 (pc' := 2) dX7_may_1 rfl ?_
    refine wp_callVu (pc' := 5) (c_X7_isPlace hn q _) gX7_may_X7_isPlace rfl rfl hy_X7_isPlace ⟨Nat.le_of_ble_eq_true rfl, Nat.le_of_ble_eq_true rfl⟩ ⟨rfl, rfl⟩ (Nat.le_of_ble_eq_true rfl) ⟨Nat.le_of_ble_eq_true rfl, Nat.le_of_ble_eq_true rfl⟩ (by omega) (ce7 rfl) rfl rfl dX7_may_2 rfl ?_
    rw [e]
    refine wp_if_ne (pc' := 8) (tgt := 10) dX7_may_5 rfl rfl (fun c5 => ?_) (fun c5 => by exfalso; exact absurd c5 bS)
    refine wp_aload_n_0 (pc' := 11) dX7_may_10 rfl ?_
    refine wp_get_7_4 (pc' := 14) (by omega) rfl rfl me_X7_may_0 ic_X7_may_7 dX7_may_11 rfl ?_
    refine wp_aload_n_0 (pc' := 15) dX7_may_14 rfl ?_
    refine wp_get_7_3 (pc' := 18) (by omega) rfl rfl me_X7_may_2 ic_X7_may_7 dX7_may_15 rfl ?_
    refine wp_callVv (pc' := 21) (c_X5_copy hn st23 st18 (by decide)) gX7_may_X5_copy rfl rfl hy_X5_copy ⟨Nat.le_of_ble_eq_true rfl, Nat.le_of_ble_eq_true rfl⟩ ⟨rfl, rfl⟩ (Nat.le_of_ble_eq_true rfl) ⟨Nat.le_of_ble_eq_true rfl, Nat.le_of_ble_eq_true rfl⟩ (by omega) (ce5 rfl) rfl rfl dX7_may_18 rfl (fun h18 q18 => ?_)
    have xr1 := XR.of_copy ok xr q18
    rw [← upN_self σ.ρ a] at xr1
    refine wp_iconst (pc' := 22) (0) dX7_may_21 rfl (by decide) ?_
    refine wp_istore_n_2 (pc' := 23) dX7_may_22 (by decide) rfl rfl ?_
    refine wp_iconst (pc' := 24) (0) dX7_may_23 rfl (by decide) ?_
    refine wp_istore_n_3 (pc' := 25) dX7_may_24 (by decide) rfl rfl ?_
    exact lp_X7_may hn h q ok (by omega) (fun h' f => XQ.fr rfl X f) 6 0 (by omega) h18 (σ.ρ a) (fun c z1 z2 z3 => q18.1 c z3) xr1
def cdB (R C : Nat) (ρ : Nat → Nat) (c : Nat) : Bool := decide (c / 16 < c % 16) && decide (c % 16 < R * C) && (decide (ρ (c / 16) ≠ ρ (c % 16)) && !anyL R C (swapR ρ (c / 16) (c % 16)))
theorem cdB_eq {R C x y : Nat} {ρ : Nat → Nat} (hxy : x < y) (hy : y < R * C) (hl : R * C ≤ 16) : cdB R C ρ (16 * x + y) = (decide (ρ x ≠ ρ y) && !anyL R C (swapR ρ x y)) := by
  unfold cdB
  rw [show (16 * x + y) / 16 = x by omega, show (16 * x + y) % 16 = y by omega, decide_eq_true hxy, decide_eq_true hy]
  rfl
theorem cdB_f {R C c : Nat} {ρ : Nat → Nat} (h : ¬ (c / 16 < c % 16 ∧ c % 16 < R * C)) : cdB R C ρ c = false := by
  unfold cdB
  by_cases z : c / 16 < c % 16
  · rw [decide_eq_false (p := c % 16 < R * C) (fun w => h ⟨z, w⟩)]; simp
  · rw [decide_eq_false z]; rfl
def cnB (f : Nat → Bool) (k : Nat) : Nat := sumN k (fun i => one (f i))
theorem cnB_skip {f : Nat → Bool} {a b : Nat} (h : a ≤ b) (hz : ∀ i, a ≤ i → i < b → f i = false) : cnB f b = cnB f a := sumN_ext h (fun i h1 h2 => by rw [hz i h1 h2]; rfl)
theorem cnB_le (f : Nat → Bool) (k : Nat) : cnB f k ≤ k := by
  have := sumN_le (n := k) (f := fun i => one (f i)) (b := 1) (fun i _ => one_le _)
  unfold cnB; omega
theorem cnB_s (f : Nat → Bool) (k : Nat) : cnB f (k + 1) = cnB f k + one (f k) := rfl
theorem lpi_X7_moved {R C x : Nat} {ρ : Nat → Nat} {t : Int32} {post : PO} (hn : 89 ≤ n) (H0 : Hp) (q0 : ShL H0 11 R C) (ok : RowOK ρ) (hx : x < R * C)
    (K1 : t = 1 → ∀ h' c, Fr h' H0 → c < 256 → cdB R C ρ c = true → (∀ c', c' < c → cdB R C ρ c' = false) → post (some (.int (nI c))) (rf0 π) h' lg)
    (K : ∀ h', Fr h' H0 → XR h' 23 ρ → (t = 1 → ∀ c', c' < 16 * x + R * C → cdB R C ρ c' = false) → ∀ a4, WP l D cy B cX7_moved 5 RX7 wsX7_moved rmX7_moved (some .int) (QE0 D cy B n 0 0 (post)) EX0 n (rf0 π) h' lg 0 0 87 [some (.ref (B + 0)), some (.int t), some (.int (nI (cnB (cdB R C ρ) (16 * x + R * C)))), some (.int (nI x)), a4] []) :
    ∀ d y : Nat, y + d = R * C → x < y → ∀ h', Fr h' H0 → XR h' 23 ρ → (t = 1 → ∀ c', c' < 16 * x + y → cdB R C ρ c' = false) → WP l D cy B cX7_moved 5 RX7 wsX7_moved rmX7_moved (some .int) (QE0 D cy B n 0 0 (post)) EX0 n (rf0 π) h' lg 0 0 40 [some (.ref (B + 0)), some (.int t), some (.int (nI (cnB (cdB R C ρ) (16 * x + y)))), some (.int (nI x)), some (.int (nI y))] [] := by
  have hl := q0.1.le
  intro d
  induction d with
  | zero =>
    intro y hy hxy h' f xr al
    have : y = R * C := by omega
    subst this
    have qq := (q0.of_eq (h' := h') (f 11 (by decide) (by decide) (by decide))).places
    refine wp_iload_4 (pc' := 42) dX7_moved_40 rfl ?_
    refine wp_aload_n_0 (pc' := 43) dX7_moved_42 rfl ?_
    refine wp_get_7_2 (pc' := 46) (by omega) rfl rfl me_X7_moved_0 ic_X7_moved_7 dX7_moved_43 rfl ?_
    refine wp_callVu (pc' := 49) (c_X1_places hn la11) gX7_moved_X1_places rfl rfl hy_X1_places ⟨Nat.le_of_ble_eq_true rfl, Nat.le_of_ble_eq_true rfl⟩ ⟨rfl, rfl⟩ (Nat.le_of_ble_eq_true rfl) ⟨Nat.le_of_ble_eq_true rfl, Nat.le_of_ble_eq_true rfl⟩ (by omega) (ce1 rfl) rfl rfl dX7_moved_46 rfl ?_
    rw [qq]
    refine wp_icmp_ge (pc' := 52) (tgt := 87) dX7_moved_49 rfl rfl (fun c49 => ?_) (fun c49 => by exfalso; exact c49 (nI_le (Nat.le_refl _) (by omega)))
    exact K h' f xr al _
  | succ d ih =>
    intro y hy hxy h' f xr al
    have q := q0.of_eq (h' := h') (f 11 (by decide) (by decide) (by decide))
    have qq := q.places
    have ce := cdB_eq (ρ := ρ) hxy (show y < R * C by omega) hl
    refine wp_iload_4 (pc' := 42) dX7_moved_40 rfl ?_
    refine wp_aload_n_0 (pc' := 43) dX7_moved_42 rfl ?_
    refine wp_get_7_2 (pc' := 46) (by omega) rfl rfl me_X7_moved_0 ic_X7_moved_7 dX7_moved_43 rfl ?_
    refine wp_callVu (pc' := 49) (c_X1_places hn la11) gX7_moved_X1_places rfl rfl hy_X1_places ⟨Nat.le_of_ble_eq_true rfl, Nat.le_of_ble_eq_true rfl⟩ ⟨rfl, rfl⟩ (Nat.le_of_ble_eq_true rfl) ⟨Nat.le_of_ble_eq_true rfl, Nat.le_of_ble_eq_true rfl⟩ (by omega) (ce1 rfl) rfl rfl dX7_moved_46 rfl ?_
    rw [qq]
    refine wp_icmp_ge (pc' := 52) (tgt := 87) dX7_moved_49 rfl rfl (fun c49 => by exfalso; exact nI_ge (by omega) (by omega) c49) (fun c49 => ?_)
    refine wp_aload_n_0 (pc' := 53) dX7_moved_52 rfl ?_
    refine wp_iload_n_3 (pc' := 54) dX7_moved_53 rfl ?_
    refine wp_iload_4 (pc' := 56) dX7_moved_54 rfl ?_
    refine wp_callVq (pc' := 59) (c_X7_wouldMend hn q xr ok (by omega) (by omega)) gX7_moved_X7_wouldMend rfl rfl hy_X7_wouldMend ⟨Nat.le_of_ble_eq_true rfl, Nat.le_of_ble_eq_true rfl⟩ ⟨rfl, rfl⟩ (Nat.le_of_ble_eq_true rfl) ⟨Nat.le_of_ble_eq_true rfl, Nat.le_of_ble_eq_true rfl⟩ (by omega) (ce7 rfl) rfl rfl dX7_moved_56 rfl (fun x56 h56 q56 => ?_)
    obtain ⟨g0, g1, g2⟩ := q56
    subst g0
    have f2 : Fr h56 H0 := fun c z1 z2 z3 => by rw [g1 c z1 z2 (by omega), f c z1 z2 z3]
    rw [← ce]
    refine wp_if_ne (pc' := 62) (tgt := 65) dX7_moved_59 rfl rfl (fun c59 => ?_) (fun c59 => ?_)
    · skip -- 59 taken
      have e := b2i_ne0.mp c59
      refine wp_iload_n_1 (pc' := 66) dX7_moved_65 rfl ?_
      refine wp_iconst (pc' := 67) (1) dX7_moved_66 rfl (by decide) ?_
      refine wp_icmp_ne (pc' := 70) (tgt := 78) dX7_moved_67 rfl rfl (fun c67 => ?_) (fun c67 => ?_)
      · skip -- 67 taken
        refine wp_iinc_2 (pc' := 81) (v := nI (cnB (cdB R C ρ) (16 * x + y) + 1)) dX7_moved_78 (by first | rfl | exact nI_1 _) (by decide) rfl rfl ?_
        refine wp_iinc_4 (pc' := 84) (v := nI (y + 1)) dX7_moved_81 (by first | rfl | exact nI_1 _) (by decide) rfl rfl ?_
        refine wp_goto (tgt := 40) dX7_moved_84 rfl ?_
        have z := ih (y + 1) (by omega) (by omega) h56 f2 g2 (fun w => absurd w c67)
        rw [show 16 * x + (y + 1) = 16 * x + y + 1 by omega, cnB_s, e] at z
        exact z
      · skip -- 67 not taken
        refine wp_bipush (pc' := 72) (16) dX7_moved_70 rfl (by decide) ?_
        refine wp_iload_n_3 (pc' := 73) dX7_moved_72 rfl ?_
        refine wp_imul (pc' := 74) dX7_moved_73 rfl ?_
        refine wp_iload_4 (pc' := 76) dX7_moved_74 rfl ?_
        refine wp_iadd (pc' := 77) dX7_moved_76 rfl ?_
        rw [show (16 : Int32) = nI 16 from rfl, nI_mul, nI_add]
        refine wp_ireturn dX7_moved_77 rfl rfl (Nat.le_refl _) (Nat.le_refl _) ?_
        refine K1 (by assumption) _ (16 * x + y) f2 (by omega) e (al (by assumption))
    · skip -- 59 not taken
      have e := b2i_eq0.mp c59
      refine wp_goto (tgt := 81) dX7_moved_62 rfl ?_
      refine wp_iinc_4 (pc' := 84) (v := nI (y + 1)) dX7_moved_81 (by first | rfl | exact nI_1 _) (by decide) rfl rfl ?_
      refine wp_goto (tgt := 40) dX7_moved_84 rfl ?_
      have z := ih (y + 1) (by omega) (by omega) h56 f2 g2 (fun w c' hc => by
        by_cases e9 : c' = 16 * x + y
        · rw [e9]; exact e
        · exact al w c' (by omega))
      rw [show 16 * x + (y + 1) = 16 * x + y + 1 by omega, cnB_s, e] at z
      exact z
theorem lp_X7_moved {R C : Nat} {ρ : Nat → Nat} {t : Int32} {post : PO} (hn : 89 ≤ n) (H0 : Hp) (q0 : ShL H0 11 R C) (ok : RowOK ρ) (ht : t = 0 ∨ t = 1)
    (K0 : t = 0 → ∀ h', Fr h' H0 → post (some (.int (nI (cnB (cdB R C ρ) 256)))) (rf0 π) h' lg)
    (K1 : t = 1 → ∀ h' c, Fr h' H0 → c < 256 → cdB R C ρ c = true → (∀ c', c' < c → cdB R C ρ c' = false) → post (some (.int (nI c))) (rf0 π) h' lg)
    (K2 : t = 1 → ∀ h', Fr h' H0 → (∀ c', c' < 256 → cdB R C ρ c' = false) → post (some (.int (-4))) (rf0 π) h' lg) :
    ∀ d x : Nat, x + d = R * C → ∀ h', Fr h' H0 → XR h' 23 ρ → (t = 1 → ∀ c', c' < 16 * x → cdB R C ρ c' = false) → ∀ a4, WP l D cy B cX7_moved 5 RX7 wsX7_moved rmX7_moved (some .int) (QE0 D cy B n 0 0 (post)) EX0 n (rf0 π) h' lg 0 0 24 [some (.ref (B + 0)), some (.int t), some (.int (nI (cnB (cdB R C ρ) (16 * x)))), some (.int (nI x)), a4] [] := by
  have hl := q0.1.le
  intro d
  induction d with
  | zero =>
    intro x hx h' f xr al a4
    have : x = R * C := by omega
    subst this
    have qq := (q0.of_eq (h' := h') (f 11 (by decide) (by decide) (by decide))).places
    have out : ∀ c', 16 * (R * C) ≤ c' → c' < 256 → cdB R C ρ c' = false := fun c' z1 z2 => cdB_f (by omega)
    rw [← cnB_skip (f := cdB R C ρ) (a := 16 * (R * C)) (b := 256) (by omega) out]
    refine wp_iload_n_3 (pc' := 25) dX7_moved_24 rfl ?_
    refine wp_aload_n_0 (pc' := 26) dX7_moved_25 rfl ?_
    refine wp_get_7_2 (pc' := 29) (by omega) rfl rfl me_X7_moved_0 ic_X7_moved_7 dX7_moved_26 rfl ?_
    refine wp_callVu (pc' := 32) (c_X1_places hn la11) gX7_moved_X1_places rfl rfl hy_X1_places ⟨Nat.le_of_ble_eq_true rfl, Nat.le_of_ble_eq_true rfl⟩ ⟨rfl, rfl⟩ (Nat.le_of_ble_eq_true rfl) ⟨Nat.le_of_ble_eq_true rfl, Nat.le_of_ble_eq_true rfl⟩ (by omega) (ce1 rfl) rfl rfl dX7_moved_29 rfl ?_
    rw [qq]
    refine wp_icmp_ge (pc' := 35) (tgt := 93) dX7_moved_32 rfl rfl (fun c32 => ?_) (fun c32 => by exfalso; exact c32 (nI_le (Nat.le_refl _) (by omega)))
    refine wp_iload_n_1 (pc' := 94) dX7_moved_93 rfl ?_
    refine wp_iconst (pc' := 95) (1) dX7_moved_94 rfl (by decide) ?_
    refine wp_icmp_ne (pc' := 98) (tgt := 103) dX7_moved_95 rfl rfl (fun c95 => ?_) (fun c95 => ?_)
    · skip -- 95 taken
      refine wp_iload_n_2 (pc' := 104) dX7_moved_103 rfl ?_
      refine wp_ireturn dX7_moved_104 rfl rfl (Nat.le_refl _) (Nat.le_refl _) ?_
      exact K0 (by rcases ht with z | z; exact z; exact absurd z c95) h' f
    · skip -- 95 not taken
      refine wp_bipush (pc' := 100) (-4) dX7_moved_98 rfl (by decide) ?_
      refine wp_goto (tgt := 104) dX7_moved_100 rfl ?_
      refine wp_ireturn dX7_moved_104 rfl rfl (Nat.le_refl _) (Nat.le_refl _) ?_
      refine K2 c95 h' f (fun c' hc => ?_)
      by_cases z : c' < 16 * (R * C)
      · exact al c95 c' z
      · exact out c' (by omega) hc
  | succ d ih =>
    intro x hx h' f xr al a4
    have qq := (q0.of_eq (h' := h') (f 11 (by decide) (by decide) (by decide))).places
    have e1 : cnB (cdB R C ρ) (16 * x + (x + 1)) = cnB (cdB R C ρ) (16 * x) := cnB_skip (by omega) (fun c z1 z2 => cdB_f (by omega))
    have e2 : cnB (cdB R C ρ) (16 * (x + 1)) = cnB (cdB R C ρ) (16 * x + R * C) := cnB_skip (by omega) (fun c z1 z2 => cdB_f (by omega))
    refine wp_iload_n_3 (pc' := 25) dX7_moved_24 rfl ?_
    refine wp_aload_n_0 (pc' := 26) dX7_moved_25 rfl ?_
    refine wp_get_7_2 (pc' := 29) (by omega) rfl rfl me_X7_moved_0 ic_X7_moved_7 dX7_moved_26 rfl ?_
    refine wp_callVu (pc' := 32) (c_X1_places hn la11) gX7_moved_X1_places rfl rfl hy_X1_places ⟨Nat.le_of_ble_eq_true rfl, Nat.le_of_ble_eq_true rfl⟩ ⟨rfl, rfl⟩ (Nat.le_of_ble_eq_true rfl) ⟨Nat.le_of_ble_eq_true rfl, Nat.le_of_ble_eq_true rfl⟩ (by omega) (ce1 rfl) rfl rfl dX7_moved_29 rfl ?_
    rw [qq]
    refine wp_icmp_ge (pc' := 35) (tgt := 93) dX7_moved_32 rfl rfl (fun c32 => by exfalso; exact nI_ge (by omega) (by omega) c32) (fun c32 => ?_)
    refine wp_iload_n_3 (pc' := 36) dX7_moved_35 rfl ?_
    refine wp_iconst (pc' := 37) (1) dX7_moved_36 rfl (by decide) ?_
    refine wp_iadd (pc' := 38) dX7_moved_37 rfl ?_
    rw [nI_1, ← e1]
    refine wp_istore_4 (pc' := 40) dX7_moved_38 (by decide) rfl rfl ?_
    refine lpi_X7_moved (x := x) hn H0 q0 ok (by omega) K1 (fun h2 f2 xr2 al2 b4 => ?_) (R * C - (x + 1)) (x + 1) (by omega) (by omega) h' f xr (fun w c' hc => ?_)
    · rw [← e2]
      refine wp_iinc_3 (pc' := 90) (v := nI (x + 1)) dX7_moved_87 (by first | rfl | exact nI_1 _) (by decide) rfl rfl ?_
      refine wp_goto (tgt := 24) dX7_moved_90 rfl ?_
      refine ih (x + 1) (by omega) h2 f2 xr2 (fun w c' hc => ?_) _
      by_cases z : c' < 16 * x + R * C
      · exact al2 w c' z
      · exact cdB_f (by omega)
    · by_cases z : c' < 16 * x
      · exact al w c' z
      · exact cdB_f (by omega)
def ffO (f : Nat → Bool) : Nat → Nat → Option Nat
  | 0, _ => none
  | d + 1, y => if f y = true then some y else ffO f d (y + 1)
theorem ffO_some {f : Nat → Bool} {c : Nat} : ∀ d y, y ≤ c → c < y + d → (∀ z, y ≤ z → z < c → f z = false) → f c = true → ffO f d y = some c := by
  intro d
  induction d with
  | zero => intro y h1 h2; omega
  | succ d ih =>
    intro y h1 h2 h3 h4
    simp only [ffO]
    by_cases e : y = c
    · subst e; rw [if_pos h4]
    · rw [if_neg (by rw [h3 y (by omega) (by omega)]; decide)]
      exact ih (y + 1) (by omega) (by omega) (fun z z1 z2 => h3 z (by omega) z2) h4
theorem ffO_none {f : Nat → Bool} : ∀ d y, (∀ z, y ≤ z → z < y + d → f z = false) → ffO f d y = none := by
  intro d
  induction d with
  | zero => intro y _; rfl
  | succ d ih =>
    intro y h3
    simp only [ffO]
    rw [if_neg (by rw [h3 y (by omega) (by omega)]; decide)]
    exact ih (y + 1) (fun z z1 z2 => h3 z (by omega) (by omega))
def aMoved (σ : Sg) (t : Int32) : Int32 := match ix t 2 with
  | none => -1
  | some 0 => nI (cnB (cdB σ.R σ.C σ.ρ) 256)
  | some _ => enc (ffO (cdB σ.R σ.C σ.ρ) 256 0)
theorem c_X7_moved (hn : 89 ≤ n) (X : XI h π σ) (t : Int32) : Ctr l D cy B yX7_moved wsX7_moved rmX7_moved 0 0 n (rf0 π) h lg [.ref (B + 0), .int t] (XQ h lg (aMoved σ t) σ) := by
  obtain ⟨T, q, u, ok, xr, xp, xk⟩ := id X
  cases e : ix t 2 with
  | none =>
    rw [show aMoved σ t = -1 by simp only [aMoved, e]]
    refine Ctr.of (cc := cX7_moved) (nL := 5) (own := RX7) (rt := (some .int)) (ls := [some (.ref (B + 0)), some (.int t), none, none, none]) (by decide) rfl rfl (Nat.le_of_ble_eq_true rfl) rfl ?_
    refine wp_iload_n_1 (pc' := 1) dX7_moved_0 rfl ?_
    refine wp_callSu (pc' := 4) (c_choice _) gX7_moved_X7_isChoice rfl rfl hz_X7_isChoice ⟨Nat.le_of_ble_eq_true rfl, Nat.le_of_ble_eq_true rfl⟩ ⟨rfl, rfl⟩ (Nat.le_of_ble_eq_true rfl) ⟨Nat.le_of_ble_eq_true rfl, Nat.le_of_ble_eq_true rfl⟩ rfl dX7_moved_1 rfl ?_
    rw [e]
    refine wp_if_ne (pc' := 7) (tgt := 9) dX7_moved_4 rfl rfl (fun c4 => by exfalso; exact c4 rfl) (fun c4 => ?_)
    refine wp_iconst (pc' := 8) (-1) dX7_moved_7 rfl (by decide) ?_
    refine wp_ireturn dX7_moved_8 rfl rfl (Nat.le_refl _) (Nat.le_refl _) ?_
    exact XQ.id rfl X
  | some b =>
    have ht : t = 0 ∨ t = 1 := by rcases ix2 e with z | z; exact Or.inl z.1; exact Or.inr z.1
    have b0 : t = 0 → aMoved σ t = nI (cnB (cdB σ.R σ.C σ.ρ) 256) := by
      rintro rfl
      rcases ix2 e with ⟨_, rfl⟩ | ⟨z, _⟩
      · simp only [aMoved, e]
      · exact absurd z (by decide)
    have b1 : t = 1 → aMoved σ t = enc (ffO (cdB σ.R σ.C σ.ρ) 256 0) := by
      rintro rfl
      rcases ix2 e with ⟨z, _⟩ | ⟨_, rfl⟩
      · exact absurd z (by decide)
      · simp only [aMoved, e]
    refine Ctr.of (cc := cX7_moved) (nL := 5) (own := RX7) (rt := (some .int)) (ls := [some (.ref (B + 0)), some (.int t), none, none, none]) (by decide) rfl rfl (Nat.le_of_ble_eq_true rfl) rfl ?_
    refine wp_iload_n_1 (pc' := 1) dX7_moved_0 rfl ?_
    refine wp_callSu (pc' := 4) (c_choice _) gX7_moved_X7_isChoice rfl rfl hz_X7_isChoice ⟨Nat.le_of_ble_eq_true rfl, Nat.le_of_ble_eq_true rfl⟩ ⟨rfl, rfl⟩ (Nat.le_of_ble_eq_true rfl) ⟨Nat.le_of_ble_eq_true rfl, Nat.le_of_ble_eq_true rfl⟩ rfl dX7_moved_1 rfl ?_
    rw [e]
    refine wp_if_ne (pc' := 7) (tgt := 9) dX7_moved_4 rfl rfl (fun c4 => ?_) (fun c4 => by exfalso; exact absurd c4 bS)
    refine wp_aload_n_0 (pc' := 10) dX7_moved_9 rfl ?_
    refine wp_get_7_4 (pc' := 13) (by omega) rfl rfl me_X7_moved_1 ic_X7_moved_7 dX7_moved_10 rfl ?_
    refine wp_aload_n_0 (pc' := 14) dX7_moved_13 rfl ?_
    refine wp_get_7_3 (pc' := 17) (by omega) rfl rfl me_X7_moved_2 ic_X7_moved_7 dX7_moved_14 rfl ?_
    refine wp_callVv (pc' := 20) (c_X5_copy hn st23 st18 (by decide)) gX7_moved_X5_copy rfl rfl hy_X5_copy ⟨Nat.le_of_ble_eq_true rfl, Nat.le_of_ble_eq_true rfl⟩ ⟨rfl, rfl⟩ (Nat.le_of_ble_eq_true rfl) ⟨Nat.le_of_ble_eq_true rfl, Nat.le_of_ble_eq_true rfl⟩ (by omega) (ce5 rfl) rfl rfl dX7_moved_17 rfl (fun h17 q17 => ?_)
    refine wp_iconst (pc' := 21) (0) dX7_moved_20 rfl (by decide) ?_
    refine wp_istore_n_2 (pc' := 22) dX7_moved_21 (by decide) rfl rfl ?_
    refine wp_iconst (pc' := 23) (0) dX7_moved_22 rfl (by decide) ?_
    refine wp_istore_n_3 (pc' := 24) dX7_moved_23 (by decide) rfl rfl ?_
    refine lp_X7_moved hn h q ok ht (fun w h' f => XQ.fr (b0 w).symm X f) (fun w h' c f hc z1 z2 => XQ.fr ?_ X f) (fun w h' f z => XQ.fr ?_ X f) (σ.R * σ.C) 0 (by omega) h17 (fun c z1 z2 z3 => q17.1 c z3) (XR.of_copy ok xr q17) (fun w c' hc => by omega) _
    · rw [b1 w, ffO_some 256 0 (by omega) (by omega) (fun z _ hz => z2 z hz) z1]; rfl
    · rw [b1 w, ffO_none 256 0 (fun c _ hc => z c (by omega))]; rfl
end VP6

