abbrev rmX7_flood : Room := { frames := 5, cells := 0, slots := 0, locals := 117 }
theorem hy_X7_flood : yX7_flood.cls = RX7 ∧ yX7_flood.cls ≠ "java/lang/invoke/MethodHandle" ∧ yX7_flood.cls ≠ "java/lang/invoke/VarHandle" ∧ (parseMethodDescriptor yX7_flood.desc).map (fun d => d.parameters.length) = some 3 := by decide +kernel
theorem hz_X7_flood : yX7_flood.cls ≠ "java/lang/invoke/MethodHandle" ∧ yX7_flood.cls ≠ "java/lang/invoke/VarHandle" ∧ (parseMethodDescriptor yX7_flood.desc).map (fun d => d.parameters.length) = some 3 := by decide +kernel
abbrev rmX7_wash : Room := { frames := 1, cells := 0, slots := 0, locals := 23 }
theorem hy_X7_wash : yX7_wash.cls = RX7 ∧ yX7_wash.cls ≠ "java/lang/invoke/MethodHandle" ∧ yX7_wash.cls ≠ "java/lang/invoke/VarHandle" ∧ (parseMethodDescriptor yX7_wash.desc).map (fun d => d.parameters.length) = some 2 := by decide +kernel
theorem hz_X7_wash : yX7_wash.cls ≠ "java/lang/invoke/MethodHandle" ∧ yX7_wash.cls ≠ "java/lang/invoke/VarHandle" ∧ (parseMethodDescriptor yX7_wash.desc).map (fun d => d.parameters.length) = some 2 := by decide +kernel
theorem me_X7_wash_0 : Cond.fieldLink RX7 27 "DrawnByLost" "land" "LDrawnByLost$Land;" ∈ wsX7_wash := by decide +kernel
theorem me_X7_wash_1 : Cond.constantLong RX7 261 (7919) ∈ wsX7_wash := by decide +kernel
theorem me_X7_wash_2 : Cond.constantLong RX7 263 (6151) ∈ wsX7_wash := by decide +kernel
theorem me_X7_wash_3 : Cond.constantLong RX7 265 (65521) ∈ wsX7_wash := by decide +kernel
theorem me_X7_wash_4 : Cond.constantLong RX7 267 (4) ∈ wsX7_wash := by decide +kernel
theorem me_X7_wash_5 : Cond.fieldLink RX7 35 "DrawnByLost" "trial" "LDrawnByLost$Story;" ∈ wsX7_wash := by decide +kernel
theorem me_X7_flood_0 : Cond.fieldLink RX7 19 "DrawnByLost" "finder" "LDrawnByLost$Finder;" ∈ wsX7_flood := by decide +kernel
theorem me_X7_flood_1 : Cond.fieldLink RX7 35 "DrawnByLost" "trial" "LDrawnByLost$Story;" ∈ wsX7_flood := by decide +kernel
theorem me_X7_flood_2 : Cond.fieldLink RX7 106 "DrawnByLost$Story" "marks" "[I" ∈ wsX7_flood := by decide +kernel
theorem me_X7_flood_3 : Cond.fieldLink RX7 31 "DrawnByLost" "now" "LDrawnByLost$Story;" ∈ wsX7_flood := by decide +kernel
theorem ic_X7_wash_7 : ∀ w ∈ wsX70, w ∈ wsX7_wash := by decide +kernel
theorem ic_X7_flood_7 : ∀ w ∈ wsX70, w ∈ wsX7_flood := by decide +kernel
theorem ic_X7_flood_5 : ∀ w ∈ wsX50, w ∈ wsX7_flood := by decide +kernel
-- the class's calls: flood
section VP7
variable {l : Launch} {D : va_G} {cy : CY} {B n : Nat} {h : Hp} {lg : Lg} {π : Nat → Nat} {σ : Sg}
theorem lI_div {a b : Nat} (ha : a < 2 ^ 63) (h0 : 0 < b) (hb : b < 2 ^ 63) : lI a / lI b = lI (a / b) := by
  apply Int64.toInt_inj.mp
  rw [lg_ldiv_nonneg (by rw [lI_toInt ha]; omega) (by rw [lI_toInt hb]; omega), lI_toInt ha, lI_toInt hb, lI_toInt (Nat.lt_of_le_of_lt (Nat.div_le_self a b) ha)]
  first | rfl | exact (Int.natCast_ediv _ _).symm
theorem lI_sub {a b : Nat} (h : b ≤ a) : lI a - lI b = lI (a - b) := lN_sub h
theorem lI_rem {a b : Nat} (ha : a < 2 ^ 63) (h0 : 0 < b) (hb : b < 2 ^ 63) : lI a - lI a / lI b * lI b = lI (a % b) := by
  rw [lI_div ha h0 hb, lI_mul, lI_sub (Nat.div_mul_le_self a b)]
  exact congrArg lI (by have := Nat.div_add_mod' a b; omega)
theorem lI_i (a : Nat) : (lI a).toInt32 = nI a := lN_i a
def drx (z k : Nat) : Nat := 7919 * z + 6151 * k + 1
def drw (z k : Nat) : Nat := drx z k * drx z k % 65521 / 4
theorem drx_le {z k : Nat} (hz : z ≤ 9999) (hk : k < 40) : drx z k ≤ 80000000 := by unfold drx; omega
theorem drx_sq {z k : Nat} (hz : z ≤ 9999) (hk : k < 40) : drx z k * drx z k < 2 ^ 63 := Nat.lt_of_le_of_lt (Nat.mul_le_mul (drx_le hz hk) (drx_le hz hk)) (by decide)
theorem drw_le (z k : Nat) : drw z k < 16381 := by
  unfold drw
  have := Nat.mod_lt (drx z k * drx z k) (show 0 < 65521 by decide)
  omega
def fl (P z : Nat) (ρ : Nat → Nat) : Nat → Nat → Nat
  | 0 => ρ
  | k + 1 => swapR (fl P z ρ k) (drw z k % P) (drw z k / 16 % P)
theorem c_X7_wash {R C z k : Nat} {ρ : Nat → Nat} (hn : 89 ≤ n) (q : ShL h 11 R C) (xr : XR h 23 ρ) (hz : z ≤ 9999) (hk : k < 40) : Ctr l D cy B yX7_wash wsX7_wash rmX7_wash 0 0 n (rf0 π) h lg [.ref (B + 0), .int (nI z), .int (nI k)] (qV (fun h' => (∀ a, a ≠ 24 → h' a = h a) ∧ XR h' 23 (swapR ρ (drw z k % (R * C)) (drw z k / 16 % (R * C)))) (rf0 π) lg) := by
  have hl := q.1.le
  have hp := q.1.pos
  have dl := drx_le hz hk
  have dq := drx_sq hz hk
  have dw := drw_le z k
  have m1 := Nat.mod_lt (drw z k) (show 0 < R * C by omega)
  have m2 := Nat.mod_lt (drw z k / 16) (show 0 < R * C by omega)
  have hne : ¬ nI (R * C) = 0 := nI_ne0 (by omega) (by omega)
  refine Ctr.of (cc := cX7_wash) (nL := 7) (own := RX7) (rt := none) (ls := [some (.ref (B + 0)), some (.int (nI z)), some (.int (nI k)), none, none, none, none]) (by decide) rfl rfl (Nat.le_of_ble_eq_true rfl) rfl ?_
  refine wp_aload_n_0 (pc' := 1) dX7_wash_0 rfl ?_
  refine wp_get_7_2 (pc' := 4) (by omega) rfl rfl me_X7_wash_0 ic_X7_wash_7 dX7_wash_1 rfl ?_
  refine wp_callVu (pc' := 7) (c_X1_places hn la11) gX7_wash_X1_places rfl rfl hy_X1_places ⟨Nat.le_of_ble_eq_true rfl, Nat.le_of_ble_eq_true rfl⟩ ⟨rfl, rfl⟩ (Nat.le_of_ble_eq_true rfl) ⟨Nat.le_of_ble_eq_true rfl, Nat.le_of_ble_eq_true rfl⟩ (by omega) (ce1 rfl) rfl rfl dX7_wash_4 rfl ?_
  rw [q.places]
  refine wp_istore_n_3 (pc' := 8) dX7_wash_7 (by decide) rfl rfl ?_
  refine wp_iload_n_3 (pc' := 9) dX7_wash_8 rfl ?_
  refine wp_if_gt (pc' := 12) (tgt := 13) dX7_wash_9 rfl rfl (fun c9 => ?_) (fun c9 => by exfalso; exact c9 (by (simp (disch := omega) only [Int32.lt_iff_toInt_lt, Int32.le_iff_toInt_le, ← Int32.toInt_inj, nI_toInt, il_0, il_1, il_2, il_3, il_4, il_5, il_6, il_8, il_9, il_10, il_16, il_26, il_32, il_40, il_n4, il_n1, il_n2, il_11, il_48, il_57, il_59, il_44, il_126, il_200, il_9999, il_66666, il_10000, il_1000000, il_15, il_12, il_256, il_4096, il_53, il_52] at *; omega)))
  refine wp_ldc2 (pc' := 16) (v := (7919)) me_X7_wash_1 dX7_wash_13 rfl ?_
  refine wp_iload_n_1 (pc' := 17) dX7_wash_16 rfl ?_
  refine wp_i2l (pc' := 18) dX7_wash_17 rfl ?_
  rw [nI_long (by omega)]
  refine wp_lmul (pc' := 19) dX7_wash_18 rfl ?_
  rw [show (7919 : Int64) = lI 7919 from rfl, lI_mul]
  refine wp_ldc2 (pc' := 22) (v := (6151)) me_X7_wash_2 dX7_wash_19 rfl ?_
  refine wp_iload_n_2 (pc' := 23) dX7_wash_22 rfl ?_
  refine wp_i2l (pc' := 24) dX7_wash_23 rfl ?_
  rw [nI_long (by omega)]
  refine wp_lmul (pc' := 25) dX7_wash_24 rfl ?_
  rw [show (6151 : Int64) = lI 6151 from rfl, lI_mul]
  refine wp_ladd (pc' := 26) dX7_wash_25 rfl ?_
  rw [lI_add]
  refine wp_lconst (pc' := 27) (1) dX7_wash_26 rfl (by decide) ?_
  refine wp_ladd (pc' := 28) dX7_wash_27 rfl ?_
  rw [show (1 : Int64) = lI 1 from rfl, lI_add, show 7919 * z + 6151 * k + 1 = drx z k from rfl]
  refine wp_lstore_4 (pc' := 30) dX7_wash_28 (by decide) rfl rfl ?_
  refine wp_lload_4 (pc' := 32) dX7_wash_30 rfl ?_
  refine wp_lload_4 (pc' := 34) dX7_wash_32 rfl ?_
  refine wp_lmul (pc' := 35) dX7_wash_34 rfl ?_
  rw [lI_mul]
  refine wp_ldc2 (pc' := 38) (v := (65521)) me_X7_wash_3 dX7_wash_35 rfl ?_
  refine wp_lrem (pc' := 39) dX7_wash_38 rfl (by decide) ?_
  rw [show (65521 : Int64) = lI 65521 from rfl, lI_rem dq (by omega) (by omega)]
  refine wp_ldc2 (pc' := 42) (v := (4)) me_X7_wash_4 dX7_wash_39 rfl ?_
  refine wp_ldiv (pc' := 43) dX7_wash_42 rfl (by decide) ?_
  rw [show (4 : Int64) = lI 4 from rfl, lI_div (by omega) (by omega) (by omega)]
  refine wp_l2i (pc' := 44) dX7_wash_43 rfl ?_
  rw [lI_i, show drx z k * drx z k % 65521 / 4 = drw z k from rfl]
  refine wp_istore_6 (pc' := 46) dX7_wash_44 (by decide) rfl rfl ?_
  refine wp_aload_n_0 (pc' := 47) dX7_wash_46 rfl ?_
  refine wp_get_7_4 (pc' := 50) (by omega) rfl rfl me_X7_wash_5 ic_X7_wash_7 dX7_wash_47 rfl ?_
  refine wp_iload_6 (pc' := 52) dX7_wash_50 rfl ?_
  refine wp_iload_n_3 (pc' := 53) dX7_wash_52 rfl ?_
  refine wp_irem (pc' := 54) dX7_wash_53 rfl hne ?_
  rw [pk_rem (by omega) (by omega) (by omega)]
  refine wp_iload_6 (pc' := 56) dX7_wash_54 rfl ?_
  refine wp_bipush (pc' := 58) (16) dX7_wash_56 rfl (by decide) ?_
  refine wp_idiv (pc' := 59) dX7_wash_58 rfl (by decide) ?_
  rw [show (16 : Int32) = nI 16 from rfl, pk_div (by omega) (by omega) (by omega)]
  refine wp_iload_n_3 (pc' := 60) dX7_wash_59 rfl ?_
  refine wp_irem (pc' := 61) dX7_wash_60 rfl hne ?_
  rw [pk_rem (by omega) (by omega) (by omega)]
  refine wp_callVv (pc' := 64) (c_X5_trade hn st23 (by omega) (by omega)) gX7_wash_X5_trade rfl rfl hy_X5_trade ⟨Nat.le_of_ble_eq_true rfl, Nat.le_of_ble_eq_true rfl⟩ ⟨rfl, rfl⟩ (Nat.le_of_ble_eq_true rfl) ⟨Nat.le_of_ble_eq_true rfl, Nat.le_of_ble_eq_true rfl⟩ (by omega) (ce5 rfl) rfl rfl dX7_wash_61 rfl (fun h61 q61 => ?_)
  subst q61
  refine wp_return dX7_wash_64 rfl rfl (Nat.le_refl _) (Nat.le_refl _) ?_
  exact qV_of ⟨fun a ha => by rw [hup_cell ha, hup_cell ha], xr.swap (by omega) (by omega)⟩
theorem fl_ok {P z : Nat} {ρ : Nat → Nat} (ok : RowOK ρ) (hP : 0 < P) (hl : P ≤ 16) : ∀ k, RowOK (fl P z ρ k) := by
  intro k
  induction k with
  | zero => exact ok
  | succ k ih =>
    have m1 := Nat.mod_lt (drw z k) hP
    have m2 := Nat.mod_lt (drw z k / 16) hP
    exact swapR_ok ih (by omega) (by omega)
theorem fl_hi {P z : Nat} {ρ : Nat → Nat} (hP : 0 < P) (hl : P ≤ 16) : ∀ k i, 16 ≤ i → fl P z ρ k i = ρ i := by
  intro k
  induction k with
  | zero => intro i _; rfl
  | succ k ih =>
    intro i hi
    have m1 := Nat.mod_lt (drw z k) hP
    have m2 := Nat.mod_lt (drw z k / 16) hP
    rw [show fl P z ρ (k + 1) = swapR (fl P z ρ k) (drw z k % P) (drw z k / 16 % P) from rfl, swapR_hi (by omega) (by omega) i hi]
    exact ih i hi
theorem lp0_X7_flood {R C z m : Nat} {ρ : Nat → Nat} {post : PO} (hn : 89 ≤ n) (H0 : Hp) (q0 : ShL H0 11 R C) (ok : RowOK ρ) (hz : z ≤ 9999) (hm : m ≤ 40)
    (K : ∀ h', Fr h' H0 → post (some (.int (SN (ρ 16) (lieB R C (fl (R * C) z ρ m))))) (rf0 π) h' lg) :
    ∀ d k : Nat, k + d = m → ∀ h', Fr h' H0 → XR h' 23 (fl (R * C) z ρ k) → WP l D cy B cX7_flood 5 RX7 wsX7_flood rmX7_flood (some .int) (QE0 D cy B n 0 0 (post)) EX0 n (rf0 π) h' lg 0 0 45 [some (.ref (B + 0)), some (.int (nI z)), some (.int (nI m)), some (.int 0), some (.int (nI k))] [] := by
  have hl := q0.1.le
  have hp := q0.1.pos
  intro d
  induction d with
  | zero =>
    intro k hk h' f xr
    have : k = m := by omega
    subst this
    have q := q0.of_eq (h' := h') (f 11 (by decide) (by decide) (by decide))
    have okk := fl_ok (z := z) ok (show 0 < R * C by omega) hl k
    have e16 := fl_hi (z := z) (ρ := ρ) (show 0 < R * C by omega) hl k 16 (by omega)
    rw [← e16] at K
    refine wp_iload_4 (pc' := 47) dX7_flood_45 rfl ?_
    refine wp_iload_n_2 (pc' := 48) dX7_flood_47 rfl ?_
    refine wp_icmp_ge (pc' := 51) (tgt := 85) dX7_flood_48 rfl rfl (fun c48 => ?_) (fun c48 => by exfalso; exact c48 (nI_le (Nat.le_refl _) (by omega)))
    refine wp_iload_n_3 (pc' := 86) dX7_flood_85 rfl ?_
    refine wp_iconst (pc' := 87) (1) dX7_flood_86 rfl (by decide) ?_
    refine wp_icmp_ne (pc' := 90) (tgt := 93) dX7_flood_87 rfl rfl (fun c87 => ?_) (fun c87 => by exfalso; exact absurd c87 (by decide))
    refine wp_aload_n_0 (pc' := 94) dX7_flood_93 rfl ?_
    refine wp_get_7_1 (pc' := 97) (by omega) rfl rfl me_X7_flood_0 ic_X7_flood_7 dX7_flood_94 rfl ?_
    refine wp_aload_n_0 (pc' := 98) dX7_flood_97 rfl ?_
    refine wp_get_7_4 (pc' := 101) (by omega) rfl rfl me_X7_flood_1 ic_X7_flood_7 dX7_flood_98 rfl ?_
    refine wp_get_5_0 (pc' := 104) (by omega) rfl rfl me_X7_flood_2 ic_X7_flood_5 dX7_flood_101 rfl ?_
    refine wp_callVv (pc' := 107) (c_X0_look hn st23 q xr.1 okk.1) gX7_flood_X0_look rfl rfl hy_X0_look ⟨Nat.le_of_ble_eq_true rfl, Nat.le_of_ble_eq_true rfl⟩ ⟨rfl, rfl⟩ (Nat.le_of_ble_eq_true rfl) ⟨Nat.le_of_ble_eq_true rfl, Nat.le_of_ble_eq_true rfl⟩ (by omega) (ce0 rfl) rfl rfl dX7_flood_104 rfl (fun h104 q104 => ?_)
    obtain ⟨g0, g1⟩ := q104
    refine wp_aload_n_0 (pc' := 108) dX7_flood_107 rfl ?_
    refine wp_get_7_1 (pc' := 111) (by omega) rfl rfl me_X7_flood_0 ic_X7_flood_7 dX7_flood_108 rfl ?_
    refine wp_aload_n_0 (pc' := 112) dX7_flood_111 rfl ?_
    refine wp_get_7_4 (pc' := 115) (by omega) rfl rfl me_X7_flood_1 ic_X7_flood_7 dX7_flood_112 rfl ?_
    refine wp_callVq (pc' := 118) (c_X0_liars hn st23 (q.of_eq (g0 11 (by decide))) g1 (xr.congr (fun a h1 h2 => g0 a (by omega))) okk) gX7_flood_X0_liars rfl rfl hy_X0_liars ⟨Nat.le_of_ble_eq_true rfl, Nat.le_of_ble_eq_true rfl⟩ ⟨rfl, rfl⟩ (Nat.le_of_ble_eq_true rfl) ⟨Nat.le_of_ble_eq_true rfl, Nat.le_of_ble_eq_true rfl⟩ (by omega) (ce0 rfl) rfl rfl dX7_flood_115 rfl (fun x115 h115 q115 => ?_)
    obtain ⟨g2, g3⟩ := q115
    subst g2
    refine wp_ireturn dX7_flood_118 rfl rfl (Nat.le_refl _) (Nat.le_refl _) ?_
    exact K _ (fun c z1 z2 z3 => by rw [g3 c z2, g0 c z1, f c z1 z2 z3])
  | succ d ih =>
    intro k hk h' f xr
    have q := q0.of_eq (h' := h') (f 11 (by decide) (by decide) (by decide))
    refine wp_iload_4 (pc' := 47) dX7_flood_45 rfl ?_
    refine wp_iload_n_2 (pc' := 48) dX7_flood_47 rfl ?_
    refine wp_icmp_ge (pc' := 51) (tgt := 85) dX7_flood_48 rfl rfl (fun c48 => by exfalso; exact nI_ge (by omega) (by omega) c48) (fun c48 => ?_)
    refine wp_aload_n_0 (pc' := 52) dX7_flood_51 rfl ?_
    refine wp_iload_n_1 (pc' := 53) dX7_flood_52 rfl ?_
    refine wp_iload_4 (pc' := 55) dX7_flood_53 rfl ?_
    refine wp_callVv (pc' := 58) (c_X7_wash hn q xr hz (by omega)) gX7_flood_X7_wash rfl rfl hy_X7_wash ⟨Nat.le_of_ble_eq_true rfl, Nat.le_of_ble_eq_true rfl⟩ ⟨rfl, rfl⟩ (Nat.le_of_ble_eq_true rfl) ⟨Nat.le_of_ble_eq_true rfl, Nat.le_of_ble_eq_true rfl⟩ (by omega) (ce7 rfl) rfl rfl dX7_flood_55 rfl (fun h55 q55 => ?_)
    obtain ⟨g0, g1⟩ := q55
    refine wp_iload_n_3 (pc' := 59) dX7_flood_58 rfl ?_
    refine wp_iconst (pc' := 60) (1) dX7_flood_59 rfl (by decide) ?_
    refine wp_icmp_ne (pc' := 63) (tgt := 79) dX7_flood_60 rfl rfl (fun c60 => ?_) (fun c60 => by exfalso; exact absurd c60 (by decide))
    refine wp_iinc_4 (pc' := 82) (v := nI (k + 1)) dX7_flood_79 (by first | rfl | exact nI_1 _) (by decide) rfl rfl ?_
    refine wp_goto (tgt := 45) dX7_flood_82 rfl ?_
    exact ih (k + 1) (by omega) _ (fun c z1 z2 z3 => by rw [g0 c (by omega), f c z1 z2 z3]) g1
theorem lp1_X7_flood {R C z m : Nat} {ρ : Nat → Nat} {post : PO} (hn : 89 ≤ n) (H0 : Hp) (q0 : ShL H0 11 R C) (ok : RowOK ρ) (hz : z ≤ 9999) (hm : m ≤ 40)
    (K1 : ∀ h' k, Fr h' H0 → k < m → anyL R C (fl (R * C) z ρ (k + 1)) = true → (∀ j, j < k → anyL R C (fl (R * C) z ρ (j + 1)) = false) → post (some (.int (nI (k + 1)))) (rf0 π) h' lg)
    (K2 : ∀ h', Fr h' H0 → (∀ j, j < m → anyL R C (fl (R * C) z ρ (j + 1)) = false) → post (some (.int (-4))) (rf0 π) h' lg) :
    ∀ d k : Nat, k + d = m → (∀ j, j < k → anyL R C (fl (R * C) z ρ (j + 1)) = false) → ∀ h', Fr h' H0 → XR h' 23 (fl (R * C) z ρ k) → WP l D cy B cX7_flood 5 RX7 wsX7_flood rmX7_flood (some .int) (QE0 D cy B n 0 0 (post)) EX0 n (rf0 π) h' lg 0 0 45 [some (.ref (B + 0)), some (.int (nI z)), some (.int (nI m)), some (.int 1), some (.int (nI k))] [] := by
  have hl := q0.1.le
  have hp := q0.1.pos
  intro d
  induction d with
  | zero =>
    intro k hk al h' f xr
    have : k = m := by omega
    subst this
    refine wp_iload_4 (pc' := 47) dX7_flood_45 rfl ?_
    refine wp_iload_n_2 (pc' := 48) dX7_flood_47 rfl ?_
    refine wp_icmp_ge (pc' := 51) (tgt := 85) dX7_flood_48 rfl rfl (fun c48 => ?_) (fun c48 => by exfalso; exact c48 (nI_le (Nat.le_refl _) (by omega)))
    refine wp_iload_n_3 (pc' := 86) dX7_flood_85 rfl ?_
    refine wp_iconst (pc' := 87) (1) dX7_flood_86 rfl (by decide) ?_
    refine wp_icmp_ne (pc' := 90) (tgt := 93) dX7_flood_87 rfl rfl (fun c87 => by exfalso; exact absurd rfl c87) (fun c87 => ?_)
    refine wp_bipush (pc' := 92) (-4) dX7_flood_90 rfl (by decide) ?_
    refine wp_ireturn dX7_flood_92 rfl rfl (Nat.le_refl _) (Nat.le_refl _) ?_
    exact K2 h' f al
  | succ d ih =>
    intro k hk al h' f xr
    have q := q0.of_eq (h' := h') (f 11 (by decide) (by decide) (by decide))
    have okk := fl_ok (z := z) ok (show 0 < R * C by omega) hl (k + 1)
    refine wp_iload_4 (pc' := 47) dX7_flood_45 rfl ?_
    refine wp_iload_n_2 (pc' := 48) dX7_flood_47 rfl ?_
    refine wp_icmp_ge (pc' := 51) (tgt := 85) dX7_flood_48 rfl rfl (fun c48 => by exfalso; exact nI_ge (by omega) (by omega) c48) (fun c48 => ?_)
    refine wp_aload_n_0 (pc' := 52) dX7_flood_51 rfl ?_
    refine wp_iload_n_1 (pc' := 53) dX7_flood_52 rfl ?_
    refine wp_iload_4 (pc' := 55) dX7_flood_53 rfl ?_
    refine wp_callVv (pc' := 58) (c_X7_wash hn q xr hz (by omega)) gX7_flood_X7_wash rfl rfl hy_X7_wash ⟨Nat.le_of_ble_eq_true rfl, Nat.le_of_ble_eq_true rfl⟩ ⟨rfl, rfl⟩ (Nat.le_of_ble_eq_true rfl) ⟨Nat.le_of_ble_eq_true rfl, Nat.le_of_ble_eq_true rfl⟩ (by omega) (ce7 rfl) rfl rfl dX7_flood_55 rfl (fun h55 q55 => ?_)
    obtain ⟨g0, g1⟩ := q55
    have g1 : XR h55 23 (fl (R * C) z ρ (k + 1)) := g1
    refine wp_iload_n_3 (pc' := 59) dX7_flood_58 rfl ?_
    refine wp_iconst (pc' := 60) (1) dX7_flood_59 rfl (by decide) ?_
    refine wp_icmp_ne (pc' := 63) (tgt := 79) dX7_flood_60 rfl rfl (fun c60 => by exfalso; exact absurd rfl c60) (fun c60 => ?_)
    refine wp_aload_n_0 (pc' := 64) dX7_flood_63 rfl ?_
    refine wp_aload_n_0 (pc' := 65) dX7_flood_64 rfl ?_
    refine wp_get_7_4 (pc' := 68) (by omega) rfl rfl me_X7_flood_1 ic_X7_flood_7 dX7_flood_65 rfl ?_
    refine wp_callVq (pc' := 71) (c_X7_allCanLie hn st23 (q.of_eq (g0 11 (by decide))) g1 okk) gX7_flood_X7_allCanLie rfl rfl hy_X7_allCanLie ⟨Nat.le_of_ble_eq_true rfl, Nat.le_of_ble_eq_true rfl⟩ ⟨rfl, rfl⟩ (Nat.le_of_ble_eq_true rfl) ⟨Nat.le_of_ble_eq_true rfl, Nat.le_of_ble_eq_true rfl⟩ (by omega) (ce7 rfl) rfl rfl dX7_flood_68 rfl (fun x68 h68 q68 => ?_)
    obtain ⟨g2, g3⟩ := q68
    subst g2
    have f2 : Fr h68 H0 := fun c z1 z2 z3 => by rw [g3 c z1 z2, g0 c (by omega), f c z1 z2 z3]
    refine wp_if_ne (pc' := 74) (tgt := 79) dX7_flood_71 rfl rfl (fun c71 => ?_) (fun c71 => ?_)
    · skip -- 71 taken
      refine wp_iinc_4 (pc' := 82) (v := nI (k + 1)) dX7_flood_79 (by first | rfl | exact nI_1 _) (by decide) rfl rfl ?_
      refine wp_goto (tgt := 45) dX7_flood_82 rfl ?_
      refine ih (k + 1) (by omega) (fun j hj => ?_) _ f2 (g1.congr (fun a h1 h2 => g3 a (by omega) (by omega)))
      by_cases ej : j = k
      · subst ej
        cases e : anyL R C (fl (R * C) z ρ (j + 1))
        · rfl
        · rw [e] at c71; exact absurd rfl c71
      · exact al j (by omega)
    · skip -- 71 not taken
      refine wp_iload_4 (pc' := 76) dX7_flood_74 rfl ?_
      refine wp_iconst (pc' := 77) (1) dX7_flood_76 rfl (by decide) ?_
      refine wp_iadd (pc' := 78) dX7_flood_77 rfl ?_
      rw [nI_1]
      refine wp_ireturn dX7_flood_78 rfl rfl (Nat.le_refl _) (Nat.le_refl _) ?_
      refine K1 _ k f2 (by omega) ?_ al
      cases e : anyL R C (fl (R * C) z ρ (k + 1))
      · rw [e] at c71; exact absurd c71 (by decide)
      · rfl
def aFlood (σ : Sg) (z m t : Int32) : Int32 := match rg z 0 9999, rg m 1 40, ix t 2 with
  | some a, some b, some 0 => SN (σ.ρ 16) (lieB σ.R σ.C (fl (σ.R * σ.C) a σ.ρ b))
  | some a, some b, some _ => (match ffO (fun k => anyL σ.R σ.C (fl (σ.R * σ.C) a σ.ρ (k + 1))) b 0 with
    | none => -4
    | some k => nI (k + 1))
  | _, _, _ => -1
theorem c_X7_flood (hn : 89 ≤ n) (X : XI h π σ) (z m t : Int32) : Ctr l D cy B yX7_flood wsX7_flood rmX7_flood 0 0 n (rf0 π) h lg [.ref (B + 0), .int z, .int m, .int t] (XQ h lg (aFlood σ z m t) σ) := by
  obtain ⟨T, q, u, ok, xr, xp, xk⟩ := id X
  cases e : rg z 0 9999 with
  | none =>
    have z9 := rg_none.mp e
    rw [show aFlood σ z m t = -1 by simp only [aFlood, e]]
    refine Ctr.of (cc := cX7_flood) (nL := 5) (own := RX7) (rt := (some .int)) (ls := [some (.ref (B + 0)), some (.int z), some (.int m), some (.int t), none]) (by decide) rfl rfl (Nat.le_of_ble_eq_true rfl) rfl ?_
    refine wp_iload_n_1 (pc' := 1) dX7_flood_0 rfl ?_
    refine wp_if_lt (pc' := 4) (tgt := 29) dX7_flood_1 rfl rfl (fun c1 => ?_) (fun c1 => ?_)
    · skip -- 1 taken
      refine wp_iconst (pc' := 30) (-1) dX7_flood_29 rfl (by decide) ?_
      refine wp_ireturn dX7_flood_30 rfl rfl (Nat.le_refl _) (Nat.le_refl _) ?_
      exact XQ.id rfl X
    · skip -- 1 not taken
      refine wp_iload_n_1 (pc' := 5) dX7_flood_4 rfl ?_
      refine wp_sipush (pc' := 8) (9999) dX7_flood_5 rfl (by decide) ?_
      refine wp_icmp_gt (pc' := 11) (tgt := 29) dX7_flood_8 rfl rfl (fun c8 => ?_) (fun c8 => by exfalso; (simp (disch := omega) only [Int32.lt_iff_toInt_lt, Int32.le_iff_toInt_le, ← Int32.toInt_inj, nI_toInt, il_0, il_1, il_2, il_3, il_4, il_5, il_6, il_8, il_9, il_10, il_16, il_26, il_32, il_40, il_n4, il_n1, il_n2, il_11, il_48, il_57, il_59, il_44, il_126, il_200, il_9999, il_66666, il_10000, il_1000000, il_15, il_12, il_256, il_4096, il_53, il_52] at *; omega))
      refine wp_iconst (pc' := 30) (-1) dX7_flood_29 rfl (by decide) ?_
      refine wp_ireturn dX7_flood_30 rfl rfl (Nat.le_refl _) (Nat.le_refl _) ?_
      exact XQ.id rfl X
  | some a =>
    obtain ⟨rfl, z1, z2⟩ := rg_some e
    cases e2 : rg m 1 40 with
    | none =>
      have z9 := rg_none.mp e2
      rw [show aFlood σ (nI a) m t = -1 by simp only [aFlood, e, e2]]
      refine Ctr.of (cc := cX7_flood) (nL := 5) (own := RX7) (rt := (some .int)) (ls := [some (.ref (B + 0)), some (.int (nI a)), some (.int m), some (.int t), none]) (by decide) rfl rfl (Nat.le_of_ble_eq_true rfl) rfl ?_
      refine wp_iload_n_1 (pc' := 1) dX7_flood_0 rfl ?_
      refine wp_if_lt (pc' := 4) (tgt := 29) dX7_flood_1 rfl rfl (fun c1 => by exfalso; exact nI_pos (by omega) c1) (fun c1 => ?_)
      refine wp_iload_n_1 (pc' := 5) dX7_flood_4 rfl ?_
      refine wp_sipush (pc' := 8) (9999) dX7_flood_5 rfl (by decide) ?_
      refine wp_icmp_gt (pc' := 11) (tgt := 29) dX7_flood_8 rfl rfl (fun c8 => by exfalso; (simp (disch := omega) only [Int32.lt_iff_toInt_lt, Int32.le_iff_toInt_le, ← Int32.toInt_inj, nI_toInt, il_0, il_1, il_2, il_3, il_4, il_5, il_6, il_8, il_9, il_10, il_16, il_26, il_32, il_40, il_n4, il_n1, il_n2, il_11, il_48, il_57, il_59, il_44, il_126, il_200, il_9999, il_66666, il_10000, il_1000000, il_15, il_12, il_256, il_4096, il_53, il_52] at c8; omega)) (fun c8 => ?_)
      refine wp_iload_n_2 (pc' := 12) dX7_flood_11 rfl ?_
      refine wp_iconst (pc' := 13) (1) dX7_flood_12 rfl (by decide) ?_
      refine wp_icmp_lt (pc' := 16) (tgt := 29) dX7_flood_13 rfl rfl (fun c13 => ?_) (fun c13 => ?_)
      · skip -- 13 taken
        refine wp_iconst (pc' := 30) (-1) dX7_flood_29 rfl (by decide) ?_
        refine wp_ireturn dX7_flood_30 rfl rfl (Nat.le_refl _) (Nat.le_refl _) ?_
        exact XQ.id rfl X
      · skip -- 13 not taken
        refine wp_iload_n_2 (pc' := 17) dX7_flood_16 rfl ?_
        refine wp_bipush (pc' := 19) (40) dX7_flood_17 rfl (by decide) ?_
        refine wp_icmp_gt (pc' := 22) (tgt := 29) dX7_flood_19 rfl rfl (fun c19 => ?_) (fun c19 => by exfalso; (simp (disch := omega) only [Int32.lt_iff_toInt_lt, Int32.le_iff_toInt_le, ← Int32.toInt_inj, nI_toInt, il_0, il_1, il_2, il_3, il_4, il_5, il_6, il_8, il_9, il_10, il_16, il_26, il_32, il_40, il_n4, il_n1, il_n2, il_11, il_48, il_57, il_59, il_44, il_126, il_200, il_9999, il_66666, il_10000, il_1000000, il_15, il_12, il_256, il_4096, il_53, il_52] at *; omega))
        refine wp_iconst (pc' := 30) (-1) dX7_flood_29 rfl (by decide) ?_
        refine wp_ireturn dX7_flood_30 rfl rfl (Nat.le_refl _) (Nat.le_refl _) ?_
        exact XQ.id rfl X
    | some b =>
      obtain ⟨rfl, z3, z4⟩ := rg_some e2
      cases e3 : ix t 2 with
      | none =>
        rw [show aFlood σ (nI a) (nI b) t = -1 by simp only [aFlood, e, e2, e3]]
        refine Ctr.of (cc := cX7_flood) (nL := 5) (own := RX7) (rt := (some .int)) (ls := [some (.ref (B + 0)), some (.int (nI a)), some (.int (nI b)), some (.int t), none]) (by decide) rfl rfl (Nat.le_of_ble_eq_true rfl) rfl ?_
        refine wp_iload_n_1 (pc' := 1) dX7_flood_0 rfl ?_
        refine wp_if_lt (pc' := 4) (tgt := 29) dX7_flood_1 rfl rfl (fun c1 => by exfalso; exact nI_pos (by omega) c1) (fun c1 => ?_)
        refine wp_iload_n_1 (pc' := 5) dX7_flood_4 rfl ?_
        refine wp_sipush (pc' := 8) (9999) dX7_flood_5 rfl (by decide) ?_
        refine wp_icmp_gt (pc' := 11) (tgt := 29) dX7_flood_8 rfl rfl (fun c8 => by exfalso; (simp (disch := omega) only [Int32.lt_iff_toInt_lt, Int32.le_iff_toInt_le, ← Int32.toInt_inj, nI_toInt, il_0, il_1, il_2, il_3, il_4, il_5, il_6, il_8, il_9, il_10, il_16, il_26, il_32, il_40, il_n4, il_n1, il_n2, il_11, il_48, il_57, il_59, il_44, il_126, il_200, il_9999, il_66666, il_10000, il_1000000, il_15, il_12, il_256, il_4096, il_53, il_52] at c8; omega)) (fun c8 => ?_)
        refine wp_iload_n_2 (pc' := 12) dX7_flood_11 rfl ?_
        refine wp_iconst (pc' := 13) (1) dX7_flood_12 rfl (by decide) ?_
        refine wp_icmp_lt (pc' := 16) (tgt := 29) dX7_flood_13 rfl rfl (fun c13 => by exfalso; (simp (disch := omega) only [Int32.lt_iff_toInt_lt, Int32.le_iff_toInt_le, ← Int32.toInt_inj, nI_toInt, il_0, il_1, il_2, il_3, il_4, il_5, il_6, il_8, il_9, il_10, il_16, il_26, il_32, il_40, il_n4, il_n1, il_n2, il_11, il_48, il_57, il_59, il_44, il_126, il_200, il_9999, il_66666, il_10000, il_1000000, il_15, il_12, il_256, il_4096, il_53, il_52] at c13; omega)) (fun c13 => ?_)
        refine wp_iload_n_2 (pc' := 17) dX7_flood_16 rfl ?_
        refine wp_bipush (pc' := 19) (40) dX7_flood_17 rfl (by decide) ?_
        refine wp_icmp_gt (pc' := 22) (tgt := 29) dX7_flood_19 rfl rfl (fun c19 => by exfalso; (simp (disch := omega) only [Int32.lt_iff_toInt_lt, Int32.le_iff_toInt_le, ← Int32.toInt_inj, nI_toInt, il_0, il_1, il_2, il_3, il_4, il_5, il_6, il_8, il_9, il_10, il_16, il_26, il_32, il_40, il_n4, il_n1, il_n2, il_11, il_48, il_57, il_59, il_44, il_126, il_200, il_9999, il_66666, il_10000, il_1000000, il_15, il_12, il_256, il_4096, il_53, il_52] at c19; omega)) (fun c19 => ?_)
        refine wp_iload_n_3 (pc' := 23) dX7_flood_22 rfl ?_
        refine wp_callSu (pc' := 26) (c_choice _) gX7_flood_X7_isChoice rfl rfl hz_X7_isChoice ⟨Nat.le_of_ble_eq_true rfl, Nat.le_of_ble_eq_true rfl⟩ ⟨rfl, rfl⟩ (Nat.le_of_ble_eq_true rfl) ⟨Nat.le_of_ble_eq_true rfl, Nat.le_of_ble_eq_true rfl⟩ rfl dX7_flood_23 rfl ?_
        rw [e3]
        refine wp_if_ne (pc' := 29) (tgt := 31) dX7_flood_26 rfl rfl (fun c26 => by exfalso; exact c26 rfl) (fun c26 => ?_)
        refine wp_iconst (pc' := 30) (-1) dX7_flood_29 rfl (by decide) ?_
        refine wp_ireturn dX7_flood_30 rfl rfl (Nat.le_refl _) (Nat.le_refl _) ?_
        exact XQ.id rfl X
      | some c =>
        rcases ix2 e3 with ⟨rfl, rfl⟩ | ⟨rfl, rfl⟩
        · rw [show aFlood σ (nI a) (nI b) 0 = SN (σ.ρ 16) (lieB σ.R σ.C (fl (σ.R * σ.C) a σ.ρ b)) by simp only [aFlood, e, e2, e3]]
          refine Ctr.of (cc := cX7_flood) (nL := 5) (own := RX7) (rt := (some .int)) (ls := [some (.ref (B + 0)), some (.int (nI a)), some (.int (nI b)), some (.int 0), none]) (by decide) rfl rfl (Nat.le_of_ble_eq_true rfl) rfl ?_
          refine wp_iload_n_1 (pc' := 1) dX7_flood_0 rfl ?_
          refine wp_if_lt (pc' := 4) (tgt := 29) dX7_flood_1 rfl rfl (fun c1 => by exfalso; exact nI_pos (by omega) c1) (fun c1 => ?_)
          refine wp_iload_n_1 (pc' := 5) dX7_flood_4 rfl ?_
          refine wp_sipush (pc' := 8) (9999) dX7_flood_5 rfl (by decide) ?_
          refine wp_icmp_gt (pc' := 11) (tgt := 29) dX7_flood_8 rfl rfl (fun c8 => by exfalso; (simp (disch := omega) only [Int32.lt_iff_toInt_lt, Int32.le_iff_toInt_le, ← Int32.toInt_inj, nI_toInt, il_0, il_1, il_2, il_3, il_4, il_5, il_6, il_8, il_9, il_10, il_16, il_26, il_32, il_40, il_n4, il_n1, il_n2, il_11, il_48, il_57, il_59, il_44, il_126, il_200, il_9999, il_66666, il_10000, il_1000000, il_15, il_12, il_256, il_4096, il_53, il_52] at c8; omega)) (fun c8 => ?_)
          refine wp_iload_n_2 (pc' := 12) dX7_flood_11 rfl ?_
          refine wp_iconst (pc' := 13) (1) dX7_flood_12 rfl (by decide) ?_
          refine wp_icmp_lt (pc' := 16) (tgt := 29) dX7_flood_13 rfl rfl (fun c13 => by exfalso; (simp (disch := omega) only [Int32.lt_iff_toInt_lt, Int32.le_iff_toInt_le, ← Int32.toInt_inj, nI_toInt, il_0, il_1, il_2, il_3, il_4, il_5, il_6, il_8, il_9, il_10, il_16, il_26, il_32, il_40, il_n4, il_n1, il_n2, il_11, il_48, il_57, il_59, il_44, il_126, il_200, il_9999, il_66666, il_10000, il_1000000, il_15, il_12, il_256, il_4096, il_53, il_52] at c13; omega)) (fun c13 => ?_)
          refine wp_iload_n_2 (pc' := 17) dX7_flood_16 rfl ?_
          refine wp_bipush (pc' := 19) (40) dX7_flood_17 rfl (by decide) ?_
          refine wp_icmp_gt (pc' := 22) (tgt := 29) dX7_flood_19 rfl rfl (fun c19 => by exfalso; (simp (disch := omega) only [Int32.lt_iff_toInt_lt, Int32.le_iff_toInt_le, ← Int32.toInt_inj, nI_toInt, il_0, il_1, il_2, il_3, il_4, il_5, il_6, il_8, il_9, il_10, il_16, il_26, il_32, il_40, il_n4, il_n1, il_n2, il_11, il_48, il_57, il_59, il_44, il_126, il_200, il_9999, il_66666, il_10000, il_1000000, il_15, il_12, il_256, il_4096, il_53, il_52] at c19; omega)) (fun c19 => ?_)
          refine wp_iload_n_3 (pc' := 23) dX7_flood_22 rfl ?_
          refine wp_callSu (pc' := 26) (c_choice _) gX7_flood_X7_isChoice rfl rfl hz_X7_isChoice ⟨Nat.le_of_ble_eq_true rfl, Nat.le_of_ble_eq_true rfl⟩ ⟨rfl, rfl⟩ (Nat.le_of_ble_eq_true rfl) ⟨Nat.le_of_ble_eq_true rfl, Nat.le_of_ble_eq_true rfl⟩ rfl dX7_flood_23 rfl ?_
          rw [e3]
          refine wp_if_ne (pc' := 29) (tgt := 31) dX7_flood_26 rfl rfl (fun c26 => ?_) (fun c26 => by exfalso; exact absurd c26 bS)
          refine wp_aload_n_0 (pc' := 32) dX7_flood_31 rfl ?_
          refine wp_get_7_4 (pc' := 35) (by omega) rfl rfl me_X7_flood_1 ic_X7_flood_7 dX7_flood_32 rfl ?_
          refine wp_aload_n_0 (pc' := 36) dX7_flood_35 rfl ?_
          refine wp_get_7_3 (pc' := 39) (by omega) rfl rfl me_X7_flood_3 ic_X7_flood_7 dX7_flood_36 rfl ?_
          refine wp_callVv (pc' := 42) (c_X5_copy hn st23 st18 (by decide)) gX7_flood_X5_copy rfl rfl hy_X5_copy ⟨Nat.le_of_ble_eq_true rfl, Nat.le_of_ble_eq_true rfl⟩ ⟨rfl, rfl⟩ (Nat.le_of_ble_eq_true rfl) ⟨Nat.le_of_ble_eq_true rfl, Nat.le_of_ble_eq_true rfl⟩ (by omega) (ce5 rfl) rfl rfl dX7_flood_39 rfl (fun h39 q39 => ?_)
          refine wp_iconst (pc' := 43) (0) dX7_flood_42 rfl (by decide) ?_
          refine wp_istore_4 (pc' := 45) dX7_flood_43 (by decide) rfl rfl ?_
          exact lp0_X7_flood hn h q ok z2 z4 (fun h' f => XQ.fr rfl X f) b 0 (by omega) h39 (fun c z1 z2 z3 => q39.1 c z3) (XR.of_copy ok xr q39)
        · rw [show aFlood σ (nI a) (nI b) 1 = (match ffO (fun k => anyL σ.R σ.C (fl (σ.R * σ.C) a σ.ρ (k + 1))) b 0 with | none => -4 | some k => nI (k + 1)) by simp only [aFlood, e, e2, e3]]
          refine Ctr.of (cc := cX7_flood) (nL := 5) (own := RX7) (rt := (some .int)) (ls := [some (.ref (B + 0)), some (.int (nI a)), some (.int (nI b)), some (.int 1), none]) (by decide) rfl rfl (Nat.le_of_ble_eq_true rfl) rfl ?_
          refine wp_iload_n_1 (pc' := 1) dX7_flood_0 rfl ?_
          refine wp_if_lt (pc' := 4) (tgt := 29) dX7_flood_1 rfl rfl (fun c1 => by exfalso; exact nI_pos (by omega) c1) (fun c1 => ?_)
          refine wp_iload_n_1 (pc' := 5) dX7_flood_4 rfl ?_
          refine wp_sipush (pc' := 8) (9999) dX7_flood_5 rfl (by decide) ?_
          refine wp_icmp_gt (pc' := 11) (tgt := 29) dX7_flood_8 rfl rfl (fun c8 => by exfalso; (simp (disch := omega) only [Int32.lt_iff_toInt_lt, Int32.le_iff_toInt_le, ← Int32.toInt_inj, nI_toInt, il_0, il_1, il_2, il_3, il_4, il_5, il_6, il_8, il_9, il_10, il_16, il_26, il_32, il_40, il_n4, il_n1, il_n2, il_11, il_48, il_57, il_59, il_44, il_126, il_200, il_9999, il_66666, il_10000, il_1000000, il_15, il_12, il_256, il_4096, il_53, il_52] at c8; omega)) (fun c8 => ?_)
          refine wp_iload_n_2 (pc' := 12) dX7_flood_11 rfl ?_
          refine wp_iconst (pc' := 13) (1) dX7_flood_12 rfl (by decide) ?_
          refine wp_icmp_lt (pc' := 16) (tgt := 29) dX7_flood_13 rfl rfl (fun c13 => by exfalso; (simp (disch := omega) only [Int32.lt_iff_toInt_lt, Int32.le_iff_toInt_le, ← Int32.toInt_inj, nI_toInt, il_0, il_1, il_2, il_3, il_4, il_5, il_6, il_8, il_9, il_10, il_16, il_26, il_32, il_40, il_n4, il_n1, il_n2, il_11, il_48, il_57, il_59, il_44, il_126, il_200, il_9999, il_66666, il_10000, il_1000000, il_15, il_12, il_256, il_4096, il_53, il_52] at c13; omega)) (fun c13 => ?_)
          refine wp_iload_n_2 (pc' := 17) dX7_flood_16 rfl ?_
          refine wp_bipush (pc' := 19) (40) dX7_flood_17 rfl (by decide) ?_
          refine wp_icmp_gt (pc' := 22) (tgt := 29) dX7_flood_19 rfl rfl (fun c19 => by exfalso; (simp (disch := omega) only [Int32.lt_iff_toInt_lt, Int32.le_iff_toInt_le, ← Int32.toInt_inj, nI_toInt, il_0, il_1, il_2, il_3, il_4, il_5, il_6, il_8, il_9, il_10, il_16, il_26, il_32, il_40, il_n4, il_n1, il_n2, il_11, il_48, il_57, il_59, il_44, il_126, il_200, il_9999, il_66666, il_10000, il_1000000, il_15, il_12, il_256, il_4096, il_53, il_52] at c19; omega)) (fun c19 => ?_)
          refine wp_iload_n_3 (pc' := 23) dX7_flood_22 rfl ?_
          refine wp_callSu (pc' := 26) (c_choice _) gX7_flood_X7_isChoice rfl rfl hz_X7_isChoice ⟨Nat.le_of_ble_eq_true rfl, Nat.le_of_ble_eq_true rfl⟩ ⟨rfl, rfl⟩ (Nat.le_of_ble_eq_true rfl) ⟨Nat.le_of_ble_eq_true rfl, Nat.le_of_ble_eq_true rfl⟩ rfl dX7_flood_23 rfl ?_
          rw [e3]
          refine wp_if_ne (pc' := 29) (tgt := 31) dX7_flood_26 rfl rfl (fun c26 => ?_) (fun c26 => by exfalso; exact absurd c26 bS)
          refine wp_aload_n_0 (pc' := 32) dX7_flood_31 rfl ?_
          refine wp_get_7_4 (pc' := 35) (by omega) rfl rfl me_X7_flood_1 ic_X7_flood_7 dX7_flood_32 rfl ?_
          refine wp_aload_n_0 (pc' := 36) dX7_flood_35 rfl ?_
          refine wp_get_7_3 (pc' := 39) (by omega) rfl rfl me_X7_flood_3 ic_X7_flood_7 dX7_flood_36 rfl ?_
          refine wp_callVv (pc' := 42) (c_X5_copy hn st23 st18 (by decide)) gX7_flood_X5_copy rfl rfl hy_X5_copy ⟨Nat.le_of_ble_eq_true rfl, Nat.le_of_ble_eq_true rfl⟩ ⟨rfl, rfl⟩ (Nat.le_of_ble_eq_true rfl) ⟨Nat.le_of_ble_eq_true rfl, Nat.le_of_ble_eq_true rfl⟩ (by omega) (ce5 rfl) rfl rfl dX7_flood_39 rfl (fun h39 q39 => ?_)
          refine wp_iconst (pc' := 43) (0) dX7_flood_42 rfl (by decide) ?_
          refine wp_istore_4 (pc' := 45) dX7_flood_43 (by decide) rfl rfl ?_
          refine lp1_X7_flood hn h q ok z2 z4 (fun h' k f w1 w2 w3 => XQ.fr ?_ X f) (fun h' f w => XQ.fr ?_ X f) b 0 (by omega) (fun j hj => by omega) h39 (fun c z1 z2 z3 => q39.1 c z3) (XR.of_copy ok xr q39)
          · rw [ffO_some (f := fun k => anyL σ.R σ.C (fl (σ.R * σ.C) a σ.ρ (k + 1))) b 0 (by omega) (by omega) (fun z _ hz => w3 z hz) w2]
          · rw [ffO_none (f := fun k => anyL σ.R σ.C (fl (σ.R * σ.C) a σ.ρ (k + 1))) b 0 (fun c _ hc => w c (by omega))]
end VP7

