abbrev rmX8_flood : Room := { frames := 5, cells := 0, slots := 0, locals := 116 }
theorem hy_X8_flood : yX8_flood.cls = RX8 ∧ yX8_flood.cls ≠ "java/lang/invoke/MethodHandle" ∧ yX8_flood.cls ≠ "java/lang/invoke/VarHandle" ∧ (parseMethodDescriptor yX8_flood.desc).map (fun d => d.parameters.length) = some 3 := by decide +kernel
theorem hz_X8_flood : yX8_flood.cls ≠ "java/lang/invoke/MethodHandle" ∧ yX8_flood.cls ≠ "java/lang/invoke/VarHandle" ∧ (parseMethodDescriptor yX8_flood.desc).map (fun d => d.parameters.length) = some 3 := by decide +kernel
theorem me_X8_flood_0 : Cond.fieldLink RX8 53 "DrawnByLostModel" "saved" "[I" ∈ wsX8_flood := by decide +kernel
theorem me_X8_flood_1 : Cond.fieldLink RX8 19 "DrawnByLostModel" "now" "[I" ∈ wsX8_flood := by decide +kernel
theorem me_X8_flood_2 : Cond.constantLong RX8 210 (7919) ∈ wsX8_flood := by decide +kernel
theorem me_X8_flood_3 : Cond.constantLong RX8 212 (6151) ∈ wsX8_flood := by decide +kernel
theorem me_X8_flood_4 : Cond.constantLong RX8 214 (65521) ∈ wsX8_flood := by decide +kernel
theorem me_X8_flood_5 : Cond.constantLong RX8 206 (9999) ∈ wsX8_flood := by decide +kernel
theorem me_X8_flood_6 : Cond.constantLong RX8 208 (40) ∈ wsX8_flood := by decide +kernel
theorem ic_X8_flood_8 : ∀ w ∈ wsX80, w ∈ wsX8_flood := by decide +kernel
-- the reference's calls: flood
section VMA
variable {l : Launch} {D : va_G} {cy : CY} {B n : Nat} {h : Hp} {lg : Lg} {π : Nat → Nat} {σ : Sg}
theorem MI.same {h' : Hp} (X : MI h σ) (e : ∀ a, 89 ≤ a → a ≤ 96 → h' a = h a) : MI h' σ := by
  obtain ⟨⟨a1, a2, a3⟩, x2, x3, x4, x5, ⟨b1, b2, b3, b4⟩, ⟨c1, c2, c3, c4⟩⟩ := X
  exact ⟨⟨by rw [e 89 (by omega) (by omega)]; exact a1, a2, by rw [e 90 (by omega) (by omega)]; exact a3⟩, x2.of (by rw [e 91 (by omega) (by omega)]) (by rw [e 91 (by omega) (by omega)]), fun k hk => by rw [e 92 (by omega) (by omega)]; exact x3 k hk, x4, fun k hk => by rw [e 93 (by omega) (by omega)]; exact x5 k hk, ⟨by rw [e 89 (by omega) (by omega)]; exact b1, b2, b3, by unfold BR; rw [e 95 (by omega) (by omega)]; exact b4⟩, ⟨by rw [e 89 (by omega) (by omega)]; exact c1, c2, c3, by unfold BR; rw [e 96 (by omega) (by omega)]; exact c4⟩⟩
theorem lp1_X8_flood {z m t : Int32} {ρ : Nat → Nat} {post : PO} (hn : 105 ≤ n) (H0 : Hp) (nr : NR H0 93 ρ)
    (K : ∀ h', (∀ a, a ≠ 104 → h' a = H0 a) → (∀ i, i < 16 → h' 104 i = nI (ρ i)) → ∀ a4, WP l D cy B cX8_flood 10 RX8 wsX8_flood rmX8_flood (some .int) (QE0 D cy B n 0 0 (post)) EX0 n (rf0 π) h' lg 0 0 66 [some (.ref (B + 89)), some (.int z), some (.int m), some (.int t), a4, none, none, none, none, none] []) :
    ∀ d i : Nat, i + d = 16 → ∀ h', (∀ a, a ≠ 104 → h' a = H0 a) → (∀ j, j < i → h' 104 j = nI (ρ j)) → WP l D cy B cX8_flood 10 RX8 wsX8_flood rmX8_flood (some .int) (QE0 D cy B n 0 0 (post)) EX0 n (rf0 π) h' lg 0 0 39 [some (.ref (B + 89)), some (.int z), some (.int m), some (.int t), some (.int (nI i)), none, none, none, none, none] [] := by
  intro d
  induction d with
  | zero =>
    intro i hi h' e0 e1
    have : i = 16 := by omega
    subst this
    refine wp_iload_4 (pc' := 41) dX8_flood_39 rfl ?_
    refine wp_bipush (pc' := 43) (16) dX8_flood_41 rfl (by decide) ?_
    refine wp_icmp_ge (pc' := 46) (tgt := 66) dX8_flood_43 rfl rfl (fun c43 => ?_) (fun c43 => by exfalso; exact c43 (by decide))
    exact K h' e0 e1 _
  | succ d ih =>
    intro i hi h' e0 e1
    refine wp_iload_4 (pc' := 41) dX8_flood_39 rfl ?_
    refine wp_bipush (pc' := 43) (16) dX8_flood_41 rfl (by decide) ?_
    refine wp_icmp_ge (pc' := 46) (tgt := 66) dX8_flood_43 rfl rfl (fun c43 => by exfalso; (simp (disch := omega) only [Int32.lt_iff_toInt_lt, Int32.le_iff_toInt_le, ← Int32.toInt_inj, nI_toInt, il_0, il_1, il_2, il_3, il_4, il_5, il_6, il_8, il_9, il_10, il_16, il_26, il_32, il_40, il_n4, il_n1, il_n2, il_11, il_48, il_57, il_59, il_44, il_126, il_200, il_9999, il_66666, il_10000, il_1000000, il_15, il_12, il_256, il_4096, il_53, il_52] at c43; omega)) (fun c43 => ?_)
    refine wp_aload_n_0 (pc' := 47) dX8_flood_46 rfl ?_
    refine wp_get_8_21 (pc' := 50) (by omega) rfl rfl me_X8_flood_0 ic_X8_flood_8 dX8_flood_47 rfl ?_
    refine wp_iload_4 (pc' := 52) dX8_flood_50 rfl ?_
    refine wp_aload_n_0 (pc' := 53) dX8_flood_52 rfl ?_
    refine wp_get_8_4 (pc' := 56) (by omega) rfl rfl me_X8_flood_1 ic_X8_flood_8 dX8_flood_53 rfl ?_
    refine wp_iload_4 (pc' := 58) dX8_flood_56 rfl ?_
    refine wp_iald (pc' := 59) (N := 52) (by omega) rfl rfl (by first | exact vp_in_nI (by omega) (by omega) | assumption | (unfold vp_in; decide)) dX8_flood_58 rfl ?_
    rw [nI_clamp (by omega), e0 93 (by decide), nr i (by omega)]
    refine wp_iast (pc' := 60) (N := 16) (by omega) rfl rfl (by first | exact vp_in_nI (by omega) (by omega) | assumption | (unfold vp_in; decide)) dX8_flood_59 rfl ?_
    refine wp_iinc_4 (pc' := 63) (v := nI (i + 1)) dX8_flood_60 (by first | rfl | exact nI_1 _) (by decide) rfl rfl ?_
    refine wp_goto (tgt := 39) dX8_flood_63 rfl ?_
    rw [nI_clamp (by omega)]
    refine ih (i + 1) (by omega) _ (fun a ha => by rw [hup_cell ha]; exact e0 a ha) (fun j hj => ?_)
    by_cases e : j = i
    · subst e; rw [hup_at]
    · rw [hup_off e]; exact e1 j (by omega)
def flB (R C z : Nat) (ρ : Nat → Nat) (k : Nat) : Bool := anyL R C (fl (R * C) z ρ (k + 1))
def wkI (o : Option Nat) : Int32 := match o with
  | none => -4
  | some k => nI (k + 1)
def ldI (R C z : Nat) (ρ : Nat → Nat) (k : Nat) : Int32 := if k = 0 then 0 else SN (ρ 16) (lieB R C (fl (R * C) z ρ k))
theorem lp2_X8_flood {R C z m : Nat} {t : Int32} {ρ : Nat → Nat} {post : PO} (hn : 105 ≤ n) (H0 : Hp) (q0 : ShM H0 R C) (ok : RowOK ρ) (hz : z ≤ 9999) (hm : m ≤ 40)
    (K : ∀ h' a6 a7 a8 a9, MG h' H0 → NR h' 93 (fl (R * C) z ρ m) → WP l D cy B cX8_flood 10 RX8 wsX8_flood rmX8_flood (some .int) (QE0 D cy B n 0 0 (post)) EX0 n (rf0 π) h' lg 0 0 168 [some (.ref (B + 89)), some (.int (nI z)), some (.int (nI m)), some (.int t), some (.int (ldI R C z ρ m)), some (.int (wkI (ffO (flB R C z ρ) m 0))), a6, a7, a8, a9] []) :
    ∀ d k : Nat, k + d = m → ∀ h' a7 a8 a9, MG h' H0 → NR h' 93 (fl (R * C) z ρ k) → WP l D cy B cX8_flood 10 RX8 wsX8_flood rmX8_flood (some .int) (QE0 D cy B n 0 0 (post)) EX0 n (rf0 π) h' lg 0 0 76 [some (.ref (B + 89)), some (.int (nI z)), some (.int (nI m)), some (.int t), some (.int (ldI R C z ρ k)), some (.int (wkI (ffO (flB R C z ρ) k 0))), some (.int (nI k)), a7, a8, a9] [] := by
  have hl := q0.1.le
  have hp := q0.1.pos
  have hne : ¬ nI (R * C) = 0 := nI_ne0 (by omega) (by omega)
  intro d
  induction d with
  | zero =>
    intro k hk h' a7 a8 a9 f nr
    have : k = m := by omega
    subst this
    refine wp_iload_6 (pc' := 78) dX8_flood_76 rfl ?_
    refine wp_iload_n_2 (pc' := 79) dX8_flood_78 rfl ?_
    refine wp_icmp_ge (pc' := 82) (tgt := 168) dX8_flood_79 rfl rfl (fun c79 => ?_) (fun c79 => by exfalso; exact c79 (nI_le (Nat.le_refl _) (by omega)))
    exact K h' _ _ _ _ f nr
  | succ d ih =>
    intro k hk h' a7 a8 a9 f nr
    have q := f.sh q0
    have k40 : k < 40 := by omega
    have dl := drx_le hz k40
    have dq := drx_sq hz k40
    have dw := drw_le z k
    have m1 := Nat.mod_lt (drw z k) (show 0 < R * C by omega)
    have m2 := Nat.mod_lt (drw z k / 16) (show 0 < R * C by omega)
    have dm : drx z k * drx z k % 65521 < 65521 := Nat.mod_lt _ (by decide)
    have ok2 := fl_ok (z := z) ok (show 0 < R * C by omega) hl (k + 1)
    have e16 := fl_hi (z := z) (ρ := ρ) (show 0 < R * C by omega) hl (k + 1) 16 (by omega)
    have l0 := lied0 (R := R) (C := C) ok2
    have nr2 : NR (hup (hup h' 93 (drw z k % (R * C)) (h' 93 (drw z k / 16 % (R * C)))) 93 (drw z k / 16 % (R * C)) (h' 93 (drw z k % (R * C)))) 93 (fl (R * C) z ρ (k + 1)) := nr.swap (by omega) (by omega)
    have fin : ∀ h2 w b7 b8 b9, MG h2 H0 → NR h2 93 (fl (R * C) z ρ (k + 1)) → w = wkI (ffO (flB R C z ρ) (k + 1) 0) → WP l D cy B cX8_flood 10 RX8 wsX8_flood rmX8_flood (some .int) (QE0 D cy B n 0 0 (post)) EX0 n (rf0 π) h2 lg 0 0 76 [some (.ref (B + 89)), some (.int (nI z)), some (.int (nI m)), some (.int t), some (.int (SN (fl (R * C) z ρ (k + 1) 16) (lieB R C (fl (R * C) z ρ (k + 1))))), some (.int w), some (.int (nI (k + 1))), b7, b8, b9] [] := by
      intro h2 w b7 b8 b9 f2 nr3 hw
      have z9 := ih (k + 1) (by omega) h2 b7 b8 b9 f2 nr3
      rw [show ldI R C z ρ (k + 1) = SN (ρ 16) (lieB R C (fl (R * C) z ρ (k + 1))) from if_neg (by omega)] at z9
      rw [hw, e16]
      exact z9
    refine wp_iload_6 (pc' := 78) dX8_flood_76 rfl ?_
    refine wp_iload_n_2 (pc' := 79) dX8_flood_78 rfl ?_
    refine wp_icmp_ge (pc' := 82) (tgt := 168) dX8_flood_79 rfl rfl (fun c79 => by exfalso; exact nI_ge (by omega) (by omega) c79) (fun c79 => ?_)
    refine wp_ldc2 (pc' := 85) (v := (7919)) me_X8_flood_2 dX8_flood_82 rfl ?_
    refine wp_iload_n_1 (pc' := 86) dX8_flood_85 rfl ?_
    refine wp_i2l (pc' := 87) dX8_flood_86 rfl ?_
    rw [nI_long (by omega)]
    refine wp_lmul (pc' := 88) dX8_flood_87 rfl ?_
    rw [show (7919 : Int64) = lI 7919 from rfl, lI_mul]
    refine wp_ldc2 (pc' := 91) (v := (6151)) me_X8_flood_3 dX8_flood_88 rfl ?_
    refine wp_iload_6 (pc' := 93) dX8_flood_91 rfl ?_
    refine wp_i2l (pc' := 94) dX8_flood_93 rfl ?_
    rw [nI_long (by omega)]
    refine wp_lmul (pc' := 95) dX8_flood_94 rfl ?_
    rw [show (6151 : Int64) = lI 6151 from rfl, lI_mul]
    refine wp_ladd (pc' := 96) dX8_flood_95 rfl ?_
    rw [lI_add]
    refine wp_lconst (pc' := 97) (1) dX8_flood_96 rfl (by decide) ?_
    refine wp_ladd (pc' := 98) dX8_flood_97 rfl ?_
    rw [show (1 : Int64) = lI 1 from rfl, lI_add, show 7919 * z + 6151 * k + 1 = drx z k from rfl]
    refine wp_lstore_7 (pc' := 100) dX8_flood_98 (by decide) rfl rfl ?_
    refine wp_lload_7 (pc' := 102) dX8_flood_100 rfl ?_
    refine wp_lload_7 (pc' := 104) dX8_flood_102 rfl ?_
    refine wp_lmul (pc' := 105) dX8_flood_104 rfl ?_
    rw [lI_mul]
    refine wp_ldc2 (pc' := 108) (v := (65521)) me_X8_flood_4 dX8_flood_105 rfl ?_
    refine wp_lrem (pc' := 109) dX8_flood_108 rfl (by decide) ?_
    rw [show (65521 : Int64) = lI 65521 from rfl, lI_rem dq (by omega) (by omega)]
    refine wp_l2i (pc' := 110) dX8_flood_109 rfl ?_
    rw [lI_i]
    refine wp_iconst (pc' := 111) (4) dX8_flood_110 rfl (by decide) ?_
    refine wp_idiv (pc' := 112) dX8_flood_111 rfl (by decide) ?_
    rw [show (4 : Int32) = nI 4 from rfl, pk_div (by omega) (by omega) (by omega), show drx z k * drx z k % 65521 / 4 = drw z k from rfl]
    refine wp_istore_9 (pc' := 114) dX8_flood_112 (by decide) rfl rfl ?_
    refine wp_aload_n_0 (pc' := 115) dX8_flood_114 rfl ?_
    refine wp_iload_9 (pc' := 117) dX8_flood_115 rfl ?_
    refine wp_aload_n_0 (pc' := 118) dX8_flood_117 rfl ?_
    refine wp_callVu (pc' := 121) (c_X8_places hn q) gX8_flood_X8_places rfl rfl hy_X8_places ⟨Nat.le_of_ble_eq_true rfl, Nat.le_of_ble_eq_true rfl⟩ ⟨rfl, rfl⟩ (Nat.le_of_ble_eq_true rfl) ⟨Nat.le_of_ble_eq_true rfl, Nat.le_of_ble_eq_true rfl⟩ (by omega) (ce8 rfl) rfl rfl dX8_flood_118 rfl ?_
    refine wp_irem (pc' := 122) dX8_flood_121 rfl hne ?_
    rw [pk_rem (by omega) (by omega) (by omega)]
    refine wp_iload_9 (pc' := 124) dX8_flood_122 rfl ?_
    refine wp_bipush (pc' := 126) (16) dX8_flood_124 rfl (by decide) ?_
    refine wp_idiv (pc' := 127) dX8_flood_126 rfl (by decide) ?_
    rw [show (16 : Int32) = nI 16 from rfl, pk_div (by omega) (by omega) (by omega)]
    refine wp_aload_n_0 (pc' := 128) dX8_flood_127 rfl ?_
    refine wp_callVu (pc' := 131) (c_X8_places hn q) gX8_flood_X8_places rfl rfl hy_X8_places ⟨Nat.le_of_ble_eq_true rfl, Nat.le_of_ble_eq_true rfl⟩ ⟨rfl, rfl⟩ (Nat.le_of_ble_eq_true rfl) ⟨Nat.le_of_ble_eq_true rfl, Nat.le_of_ble_eq_true rfl⟩ (by omega) (ce8 rfl) rfl rfl dX8_flood_128 rfl ?_
    refine wp_irem (pc' := 132) dX8_flood_131 rfl hne ?_
    rw [pk_rem (by omega) (by omega) (by omega)]
    refine wp_callVv (pc' := 135) (c_X8_exchange hn (by omega) (by omega)) gX8_flood_X8_exchange rfl rfl hy_X8_exchange ⟨Nat.le_of_ble_eq_true rfl, Nat.le_of_ble_eq_true rfl⟩ ⟨rfl, rfl⟩ (Nat.le_of_ble_eq_true rfl) ⟨Nat.le_of_ble_eq_true rfl, Nat.le_of_ble_eq_true rfl⟩ (by omega) (ce8 rfl) rfl rfl dX8_flood_132 rfl (fun h132 q132 => ?_)
    subst q132
    have f1 : MG (hup (hup h' 93 (drw z k % (R * C)) (h' 93 (drw z k / 16 % (R * C)))) 93 (drw z k / 16 % (R * C)) (h' 93 (drw z k % (R * C)))) H0 := MG.tr (MG.of (fun c hc => by rw [hup_cell hc, hup_cell hc])) f
    refine wp_aload_n_0 (pc' := 136) dX8_flood_135 rfl ?_
    refine wp_callVq (pc' := 139) (c_X8_liedNow hn (f1.sh q0) nr2 ok2) gX8_flood_X8_liedNow rfl rfl hy_X8_liedNow ⟨Nat.le_of_ble_eq_true rfl, Nat.le_of_ble_eq_true rfl⟩ ⟨rfl, rfl⟩ (Nat.le_of_ble_eq_true rfl) ⟨Nat.le_of_ble_eq_true rfl, Nat.le_of_ble_eq_true rfl⟩ (by omega) (ce8 rfl) rfl rfl dX8_flood_136 rfl (fun x136 h136 q136 => ?_)
    obtain ⟨g0, g1⟩ := q136
    subst g0
    have f2 := g1.mg.tr f1
    have nr3 := g1.nr nr2
    refine wp_istore_4 (pc' := 141) dX8_flood_139 (by decide) rfl rfl ?_
    refine wp_iload_4 (pc' := 143) dX8_flood_141 rfl ?_
    refine wp_if_eq (pc' := 146) (tgt := 158) dX8_flood_143 rfl rfl (fun c143 => ?_) (fun c143 => ?_)
    · skip -- 143 taken
      refine wp_iload_5 (pc' := 160) dX8_flood_158 rfl ?_
      refine wp_istore_5 (pc' := 162) dX8_flood_160 (by decide) rfl rfl ?_
      refine wp_iinc_6 (pc' := 165) (v := nI (k + 1)) dX8_flood_162 (by first | rfl | exact nI_1 _) (by decide) rfl rfl ?_
      refine wp_goto (tgt := 76) dX8_flood_165 rfl ?_
      have e : flB R C z ρ k = false := l0.mp c143
      refine fin h136 _ _ _ _ f2 nr3 ?_
      rw [ffO_snoc, Nat.zero_add, e]
      cases ffO (flB R C z ρ) k 0 <;> rfl
    · skip -- 143 not taken
      refine wp_iload_5 (pc' := 148) dX8_flood_146 rfl ?_
      refine wp_if_ge (pc' := 151) (tgt := 158) dX8_flood_148 rfl rfl (fun c148 => ?_) (fun c148 => ?_)
      · skip -- 148 taken
        refine wp_iload_5 (pc' := 160) dX8_flood_158 rfl ?_
        refine wp_istore_5 (pc' := 162) dX8_flood_160 (by decide) rfl rfl ?_
        refine wp_iinc_6 (pc' := 165) (v := nI (k + 1)) dX8_flood_162 (by first | rfl | exact nI_1 _) (by decide) rfl rfl ?_
        refine wp_goto (tgt := 76) dX8_flood_165 rfl ?_
        refine fin h136 _ _ _ _ f2 nr3 ?_
        rw [ffO_snoc]
        cases e9 : ffO (flB R C z ρ) k 0 with
        | none => rw [e9] at c148; exact absurd c148 (by decide)
        | some v => rfl
      · skip -- 148 not taken
        refine wp_iload_6 (pc' := 153) dX8_flood_151 rfl ?_
        refine wp_iconst (pc' := 154) (1) dX8_flood_153 rfl (by decide) ?_
        refine wp_iadd (pc' := 155) dX8_flood_154 rfl ?_
        rw [nI_1]
        refine wp_goto (tgt := 160) dX8_flood_155 rfl ?_
        refine wp_istore_5 (pc' := 162) dX8_flood_160 (by decide) rfl rfl ?_
        refine wp_iinc_6 (pc' := 165) (v := nI (k + 1)) dX8_flood_162 (by first | rfl | exact nI_1 _) (by decide) rfl rfl ?_
        refine wp_goto (tgt := 76) dX8_flood_165 rfl ?_
        refine fin h136 _ _ _ _ f2 nr3 ?_
        have e : flB R C z ρ k = true := by
          cases e9 : flB R C z ρ k
          · exact absurd (l0.mpr e9) c143
          · rfl
        rw [ffO_snoc, Nat.zero_add]
        cases e9 : ffO (flB R C z ρ) k 0 with
        | none => simp only [e, if_true]; rfl
        | some v =>
          exfalso
          rw [e9] at c148
          obtain ⟨_, v2, _⟩ := ffO_spec _ _ _ e9
          exact c148 (nI_pos' (by omega))
theorem lp3_X8_flood {R C : Nat} {z m a b : Int32} {t : Int32} {ρ : Nat → Nat} {post : PO} (hn : 105 ≤ n) (H0 : Hp) (sv : ∀ i, i < 16 → H0 104 i = nI (ρ i)) (hi : ∀ i, 16 ≤ i → i < 52 → H0 93 i = nI (ρ i)) (ht : t = 0 ∨ t = 1)
    (K0 : t = 0 → ∀ h', (∀ c, c ≠ 93 → h' c = H0 c) → NR h' 93 ρ → post (some (.int a)) (rf0 π) h' lg)
    (K1 : t = 1 → ∀ h', (∀ c, c ≠ 93 → h' c = H0 c) → NR h' 93 ρ → post (some (.int b)) (rf0 π) h' lg) :
    ∀ d i : Nat, i + d = 16 → ∀ h' a7 a8 a9, (∀ c, c ≠ 93 → h' c = H0 c) → (∀ j, 16 ≤ j → h' 93 j = H0 93 j) → (∀ j, j < i → h' 93 j = nI (ρ j)) → WP l D cy B cX8_flood 10 RX8 wsX8_flood rmX8_flood (some .int) (QE0 D cy B n 0 0 (post)) EX0 n (rf0 π) h' lg 0 0 171 [some (.ref (B + 89)), some (.int z), some (.int m), some (.int t), some (.int a), some (.int b), some (.int (nI i)), a7, a8, a9] [] := by
  intro d
  induction d with
  | zero =>
    intro i hi9 h' a7 a8 a9 e0 e1 e2
    have : i = 16 := by omega
    subst this
    have nr : NR h' 93 ρ := fun k hk => by
      by_cases q : k < 16
      · exact e2 k q
      · rw [e1 k (by omega)]; exact hi k (by omega) hk
    refine wp_iload_6 (pc' := 173) dX8_flood_171 rfl ?_
    refine wp_bipush (pc' := 175) (16) dX8_flood_173 rfl (by decide) ?_
    refine wp_icmp_ge (pc' := 178) (tgt := 198) dX8_flood_175 rfl rfl (fun c175 => ?_) (fun c175 => by exfalso; exact c175 (by decide))
    refine wp_iload_n_3 (pc' := 199) dX8_flood_198 rfl ?_
    refine wp_if_ne (pc' := 202) (tgt := 207) dX8_flood_199 rfl rfl (fun c199 => ?_) (fun c199 => ?_)
    · skip -- 199 taken
      refine wp_iload_5 (pc' := 209) dX8_flood_207 rfl ?_
      refine wp_ireturn dX8_flood_209 rfl rfl (Nat.le_refl _) (Nat.le_refl _) ?_
      exact K1 (by rcases ht with v | v; exact absurd v c199; exact v) h' e0 nr
    · skip -- 199 not taken
      refine wp_iload_4 (pc' := 204) dX8_flood_202 rfl ?_
      refine wp_goto (tgt := 209) dX8_flood_204 rfl ?_
      refine wp_ireturn dX8_flood_209 rfl rfl (Nat.le_refl _) (Nat.le_refl _) ?_
      exact K0 c199 h' e0 nr
  | succ d ih =>
    intro i hi9 h' a7 a8 a9 e0 e1 e2
    refine wp_iload_6 (pc' := 173) dX8_flood_171 rfl ?_
    refine wp_bipush (pc' := 175) (16) dX8_flood_173 rfl (by decide) ?_
    refine wp_icmp_ge (pc' := 178) (tgt := 198) dX8_flood_175 rfl rfl (fun c175 => by exfalso; (simp (disch := omega) only [Int32.lt_iff_toInt_lt, Int32.le_iff_toInt_le, ← Int32.toInt_inj, nI_toInt, il_0, il_1, il_2, il_3, il_4, il_5, il_6, il_8, il_9, il_10, il_16, il_26, il_32, il_40, il_n4, il_n1, il_n2, il_11, il_48, il_57, il_59, il_44, il_126, il_200, il_9999, il_66666, il_10000, il_1000000, il_15, il_12, il_256, il_4096, il_53, il_52] at c175; omega)) (fun c175 => ?_)
    refine wp_aload_n_0 (pc' := 179) dX8_flood_178 rfl ?_
    refine wp_get_8_4 (pc' := 182) (by omega) rfl rfl me_X8_flood_1 ic_X8_flood_8 dX8_flood_179 rfl ?_
    refine wp_iload_6 (pc' := 184) dX8_flood_182 rfl ?_
    refine wp_aload_n_0 (pc' := 185) dX8_flood_184 rfl ?_
    refine wp_get_8_21 (pc' := 188) (by omega) rfl rfl me_X8_flood_0 ic_X8_flood_8 dX8_flood_185 rfl ?_
    refine wp_iload_6 (pc' := 190) dX8_flood_188 rfl ?_
    refine wp_iald (pc' := 191) (N := 16) (by omega) rfl rfl (by first | exact vp_in_nI (by omega) (by omega) | assumption | (unfold vp_in; decide)) dX8_flood_190 rfl ?_
    rw [nI_clamp (by omega), e0 104 (by decide), sv i (by omega)]
    refine wp_iast (pc' := 192) (N := 52) (by omega) rfl rfl (by first | exact vp_in_nI (by omega) (by omega) | assumption | (unfold vp_in; decide)) dX8_flood_191 rfl ?_
    refine wp_iinc_6 (pc' := 195) (v := nI (i + 1)) dX8_flood_192 (by first | rfl | exact nI_1 _) (by decide) rfl rfl ?_
    refine wp_goto (tgt := 171) dX8_flood_195 rfl ?_
    rw [nI_clamp (by omega)]
    refine ih (i + 1) (by omega) _ _ _ _ (fun c hc => by rw [hup_cell hc]; exact e0 c hc) (fun j hj => by rw [hup_off (by omega)]; exact e1 j hj) (fun j hj => ?_)
    by_cases e : j = i
    · subst e; rw [hup_at]
    · rw [hup_off e]; exact e2 j (by omega)
theorem c_X8_flood (hn : 105 ≤ n) (X : MI h σ) (z m t : Int32) : Ctr l D cy B yX8_flood wsX8_flood rmX8_flood 0 0 n (rf0 π) h lg [.ref (B + 89), .int z, .int m, .int t] (ZQ π h (aFlood σ z m t) σ) := by
  obtain ⟨T, q, hm, ok, nr, xp, xk⟩ := id X
  have hl := q.1.le
  have hp := q.1.pos
  cases e : rg z 0 9999 with
  | none =>
    rw [show aFlood σ z m t = -1 by simp only [aFlood, e]]
    refine Ctr.of (cc := cX8_flood) (nL := 10) (own := RX8) (rt := (some .int)) (ls := [some (.ref (B + 89)), some (.int z), some (.int m), some (.int t), none, none, none, none, none, none]) (by decide) rfl rfl (Nat.le_of_ble_eq_true rfl) rfl ?_
    refine wp_iload_n_1 (pc' := 1) dX8_flood_0 rfl ?_
    refine wp_i2l (pc' := 2) dX8_flood_1 rfl ?_
    refine wp_lconst (pc' := 3) (0) dX8_flood_2 rfl (by decide) ?_
    refine wp_ldc2 (pc' := 6) (v := (9999)) me_X8_flood_5 dX8_flood_3 rfl ?_
    refine wp_callSu (pc' := 9) (c_in_rg z (lo := 0) (hi := 9999) (by omega) (by omega)) gX8_flood_X8_in rfl rfl hz_X8_in ⟨Nat.le_of_ble_eq_true rfl, Nat.le_of_ble_eq_true rfl⟩ ⟨rfl, rfl⟩ (Nat.le_of_ble_eq_true rfl) ⟨Nat.le_of_ble_eq_true rfl, Nat.le_of_ble_eq_true rfl⟩ rfl dX8_flood_6 rfl ?_
    rw [e]
    refine wp_if_eq (pc' := 12) (tgt := 34) dX8_flood_9 rfl rfl (fun c9 => ?_) (fun c9 => by exfalso; exact c9 rfl)
    refine wp_iconst (pc' := 35) (-1) dX8_flood_34 rfl (by decide) ?_
    refine wp_ireturn dX8_flood_35 rfl rfl (Nat.le_refl _) (Nat.le_refl _) ?_
    exact ZQ.id rfl X
  | some a =>
    obtain ⟨rfl, z1, z2⟩ := rg_some e
    cases e2 : rg m 1 40 with
    | none =>
      rw [show aFlood σ (nI a) m t = -1 by simp only [aFlood, e, e2]]
      refine Ctr.of (cc := cX8_flood) (nL := 10) (own := RX8) (rt := (some .int)) (ls := [some (.ref (B + 89)), some (.int (nI a)), some (.int m), some (.int t), none, none, none, none, none, none]) (by decide) rfl rfl (Nat.le_of_ble_eq_true rfl) rfl ?_
      refine wp_iload_n_1 (pc' := 1) dX8_flood_0 rfl ?_
      refine wp_i2l (pc' := 2) dX8_flood_1 rfl ?_
      refine wp_lconst (pc' := 3) (0) dX8_flood_2 rfl (by decide) ?_
      refine wp_ldc2 (pc' := 6) (v := (9999)) me_X8_flood_5 dX8_flood_3 rfl ?_
      refine wp_callSu (pc' := 9) (c_in_rg (nI a) (lo := 0) (hi := 9999) (by omega) (by omega)) gX8_flood_X8_in rfl rfl hz_X8_in ⟨Nat.le_of_ble_eq_true rfl, Nat.le_of_ble_eq_true rfl⟩ ⟨rfl, rfl⟩ (Nat.le_of_ble_eq_true rfl) ⟨Nat.le_of_ble_eq_true rfl, Nat.le_of_ble_eq_true rfl⟩ rfl dX8_flood_6 rfl ?_
      rw [e]
      refine wp_if_eq (pc' := 12) (tgt := 34) dX8_flood_9 rfl rfl (fun c9 => by exfalso; exact absurd c9 bS) (fun c9 => ?_)
      refine wp_iload_n_2 (pc' := 13) dX8_flood_12 rfl ?_
      refine wp_i2l (pc' := 14) dX8_flood_13 rfl ?_
      refine wp_lconst (pc' := 15) (1) dX8_flood_14 rfl (by decide) ?_
      refine wp_ldc2 (pc' := 18) (v := (40)) me_X8_flood_6 dX8_flood_15 rfl ?_
      refine wp_callSu (pc' := 21) (c_in_rg m (lo := 1) (hi := 40) (by omega) (by omega)) gX8_flood_X8_in rfl rfl hz_X8_in ⟨Nat.le_of_ble_eq_true rfl, Nat.le_of_ble_eq_true rfl⟩ ⟨rfl, rfl⟩ (Nat.le_of_ble_eq_true rfl) ⟨Nat.le_of_ble_eq_true rfl, Nat.le_of_ble_eq_true rfl⟩ rfl dX8_flood_18 rfl ?_
      rw [e2]
      refine wp_if_eq (pc' := 24) (tgt := 34) dX8_flood_21 rfl rfl (fun c21 => ?_) (fun c21 => by exfalso; exact c21 rfl)
      refine wp_iconst (pc' := 35) (-1) dX8_flood_34 rfl (by decide) ?_
      refine wp_ireturn dX8_flood_35 rfl rfl (Nat.le_refl _) (Nat.le_refl _) ?_
      exact ZQ.id rfl X
    | some b =>
      obtain ⟨rfl, z3, z4⟩ := rg_some e2
      cases e3 : ix t 2 with
      | none =>
        rw [show aFlood σ (nI a) (nI b) t = -1 by simp only [aFlood, e, e2, e3]]
        refine Ctr.of (cc := cX8_flood) (nL := 10) (own := RX8) (rt := (some .int)) (ls := [some (.ref (B + 89)), some (.int (nI a)), some (.int (nI b)), some (.int t), none, none, none, none, none, none]) (by decide) rfl rfl (Nat.le_of_ble_eq_true rfl) rfl ?_
        refine wp_iload_n_1 (pc' := 1) dX8_flood_0 rfl ?_
        refine wp_i2l (pc' := 2) dX8_flood_1 rfl ?_
        refine wp_lconst (pc' := 3) (0) dX8_flood_2 rfl (by decide) ?_
        refine wp_ldc2 (pc' := 6) (v := (9999)) me_X8_flood_5 dX8_flood_3 rfl ?_
        refine wp_callSu (pc' := 9) (c_in_rg (nI a) (lo := 0) (hi := 9999) (by omega) (by omega)) gX8_flood_X8_in rfl rfl hz_X8_in ⟨Nat.le_of_ble_eq_true rfl, Nat.le_of_ble_eq_true rfl⟩ ⟨rfl, rfl⟩ (Nat.le_of_ble_eq_true rfl) ⟨Nat.le_of_ble_eq_true rfl, Nat.le_of_ble_eq_true rfl⟩ rfl dX8_flood_6 rfl ?_
        rw [e]
        refine wp_if_eq (pc' := 12) (tgt := 34) dX8_flood_9 rfl rfl (fun c9 => by exfalso; exact absurd c9 bS) (fun c9 => ?_)
        refine wp_iload_n_2 (pc' := 13) dX8_flood_12 rfl ?_
        refine wp_i2l (pc' := 14) dX8_flood_13 rfl ?_
        refine wp_lconst (pc' := 15) (1) dX8_flood_14 rfl (by decide) ?_
        refine wp_ldc2 (pc' := 18) (v := (40)) me_X8_flood_6 dX8_flood_15 rfl ?_
        refine wp_callSu (pc' := 21) (c_in_rg (nI b) (lo := 1) (hi := 40) (by omega) (by omega)) gX8_flood_X8_in rfl rfl hz_X8_in ⟨Nat.le_of_ble_eq_true rfl, Nat.le_of_ble_eq_true rfl⟩ ⟨rfl, rfl⟩ (Nat.le_of_ble_eq_true rfl) ⟨Nat.le_of_ble_eq_true rfl, Nat.le_of_ble_eq_true rfl⟩ rfl dX8_flood_18 rfl ?_
        rw [e2]
        refine wp_if_eq (pc' := 24) (tgt := 34) dX8_flood_21 rfl rfl (fun c21 => by exfalso; exact absurd c21 bS) (fun c21 => ?_)
        refine wp_iload_n_3 (pc' := 25) dX8_flood_24 rfl ?_
        refine wp_i2l (pc' := 26) dX8_flood_25 rfl ?_
        refine wp_lconst (pc' := 27) (0) dX8_flood_26 rfl (by decide) ?_
        refine wp_lconst (pc' := 28) (1) dX8_flood_27 rfl (by decide) ?_
        refine wp_callSu (pc' := 31) (c_in_rg t (lo := 0) (hi := 1) (by omega) (by omega)) gX8_flood_X8_in rfl rfl hz_X8_in ⟨Nat.le_of_ble_eq_true rfl, Nat.le_of_ble_eq_true rfl⟩ ⟨rfl, rfl⟩ (Nat.le_of_ble_eq_true rfl) ⟨Nat.le_of_ble_eq_true rfl, Nat.le_of_ble_eq_true rfl⟩ rfl dX8_flood_28 rfl ?_
        rw [rg_ix, e3]
        refine wp_if_ne (pc' := 34) (tgt := 36) dX8_flood_31 rfl rfl (fun c31 => by exfalso; exact c31 rfl) (fun c31 => ?_)
        refine wp_iconst (pc' := 35) (-1) dX8_flood_34 rfl (by decide) ?_
        refine wp_ireturn dX8_flood_35 rfl rfl (Nat.le_refl _) (Nat.le_refl _) ?_
        exact ZQ.id rfl X
      | some c =>
        have ht : t = 0 ∨ t = 1 := by rcases ix2 e3 with v | v; exact Or.inl v.1; exact Or.inr v.1
        have b0 : t = 0 → aFlood σ (nI a) (nI b) t = ldI σ.R σ.C a σ.ρ b := by
          rintro rfl
          rcases ix2 e3 with ⟨_, rfl⟩ | ⟨v, _⟩
          · simp only [aFlood, e, e2, e3]
            exact (if_neg (by omega)).symm
          · exact absurd v (by decide)
        have b1 : t = 1 → aFlood σ (nI a) (nI b) t = wkI (ffO (flB σ.R σ.C a σ.ρ) b 0) := by
          rintro rfl
          rcases ix2 e3 with ⟨v, _⟩ | ⟨_, rfl⟩
          · exact absurd v (by decide)
          · simp only [aFlood, e, e2, e3]
            rfl
        refine Ctr.of (cc := cX8_flood) (nL := 10) (own := RX8) (rt := (some .int)) (ls := [some (.ref (B + 89)), some (.int (nI a)), some (.int (nI b)), some (.int t), none, none, none, none, none, none]) (by decide) rfl rfl (Nat.le_of_ble_eq_true rfl) rfl ?_
        refine wp_iload_n_1 (pc' := 1) dX8_flood_0 rfl ?_
        refine wp_i2l (pc' := 2) dX8_flood_1 rfl ?_
        refine wp_lconst (pc' := 3) (0) dX8_flood_2 rfl (by decide) ?_
        refine wp_ldc2 (pc' := 6) (v := (9999)) me_X8_flood_5 dX8_flood_3 rfl ?_
        refine wp_callSu (pc' := 9) (c_in_rg (nI a) (lo := 0) (hi := 9999) (by omega) (by omega)) gX8_flood_X8_in rfl rfl hz_X8_in ⟨Nat.le_of_ble_eq_true rfl, Nat.le_of_ble_eq_true rfl⟩ ⟨rfl, rfl⟩ (Nat.le_of_ble_eq_true rfl) ⟨Nat.le_of_ble_eq_true rfl, Nat.le_of_ble_eq_true rfl⟩ rfl dX8_flood_6 rfl ?_
        rw [e]
        refine wp_if_eq (pc' := 12) (tgt := 34) dX8_flood_9 rfl rfl (fun c9 => by exfalso; exact absurd c9 bS) (fun c9 => ?_)
        refine wp_iload_n_2 (pc' := 13) dX8_flood_12 rfl ?_
        refine wp_i2l (pc' := 14) dX8_flood_13 rfl ?_
        refine wp_lconst (pc' := 15) (1) dX8_flood_14 rfl (by decide) ?_
        refine wp_ldc2 (pc' := 18) (v := (40)) me_X8_flood_6 dX8_flood_15 rfl ?_
        refine wp_callSu (pc' := 21) (c_in_rg (nI b) (lo := 1) (hi := 40) (by omega) (by omega)) gX8_flood_X8_in rfl rfl hz_X8_in ⟨Nat.le_of_ble_eq_true rfl, Nat.le_of_ble_eq_true rfl⟩ ⟨rfl, rfl⟩ (Nat.le_of_ble_eq_true rfl) ⟨Nat.le_of_ble_eq_true rfl, Nat.le_of_ble_eq_true rfl⟩ rfl dX8_flood_18 rfl ?_
        rw [e2]
        refine wp_if_eq (pc' := 24) (tgt := 34) dX8_flood_21 rfl rfl (fun c21 => by exfalso; exact absurd c21 bS) (fun c21 => ?_)
        refine wp_iload_n_3 (pc' := 25) dX8_flood_24 rfl ?_
        refine wp_i2l (pc' := 26) dX8_flood_25 rfl ?_
        refine wp_lconst (pc' := 27) (0) dX8_flood_26 rfl (by decide) ?_
        refine wp_lconst (pc' := 28) (1) dX8_flood_27 rfl (by decide) ?_
        refine wp_callSu (pc' := 31) (c_in_rg t (lo := 0) (hi := 1) (by omega) (by omega)) gX8_flood_X8_in rfl rfl hz_X8_in ⟨Nat.le_of_ble_eq_true rfl, Nat.le_of_ble_eq_true rfl⟩ ⟨rfl, rfl⟩ (Nat.le_of_ble_eq_true rfl) ⟨Nat.le_of_ble_eq_true rfl, Nat.le_of_ble_eq_true rfl⟩ rfl dX8_flood_28 rfl ?_
        rw [rg_ix, e3]
        refine wp_if_ne (pc' := 34) (tgt := 36) dX8_flood_31 rfl rfl (fun c31 => ?_) (fun c31 => by exfalso; exact absurd c31 bS)
        refine wp_iconst (pc' := 37) (0) dX8_flood_36 rfl (by decide) ?_
        refine wp_istore_4 (pc' := 39) dX8_flood_37 (by decide) rfl rfl ?_
        refine lp1_X8_flood hn h nr (fun h1 e0 e1 a4 => ?_) 16 0 (by omega) h (fun _ _ => rfl) (fun j hj => by omega)
        have X1 : MI h1 σ := X.same (fun c z1 z2 => e0 c (by omega))
        refine wp_iconst (pc' := 67) (0) dX8_flood_66 rfl (by decide) ?_
        refine wp_istore_4 (pc' := 69) dX8_flood_67 (by decide) rfl rfl ?_
        refine wp_bipush (pc' := 71) (-4) dX8_flood_69 rfl (by decide) ?_
        refine wp_istore_5 (pc' := 73) dX8_flood_71 (by decide) rfl rfl ?_
        refine wp_iconst (pc' := 74) (0) dX8_flood_73 rfl (by decide) ?_
        refine wp_istore_6 (pc' := 76) dX8_flood_74 (by decide) rfl rfl ?_
        refine lp2_X8_flood (R := σ.R) (C := σ.C) (z := a) (m := b) (ρ := σ.ρ) hn h1 X1.2.1 ok z2 z4 (fun h2 a6 a7 a8 a9 f nr2 => ?_) b 0 (by omega) h1 _ _ _ (MG.rf h1) X1.2.2.2.2.1
        refine wp_iconst (pc' := 169) (0) dX8_flood_168 rfl (by decide) ?_
        refine wp_istore_6 (pc' := 171) dX8_flood_169 (by decide) rfl rfl ?_
        refine lp3_X8_flood (R := σ.R) (C := σ.C) (ρ := σ.ρ) hn h2 (fun i hi => by rw [f.1 104 (by omega)]; exact e1 i hi) (fun i h1 h2 => by rw [nr2 i h2, fl_hi (by omega) hl b i h1]) ht (fun w h3 g nr3 => ?_) (fun w h3 g nr3 => ?_) 16 0 (by omega) h2 _ _ _ (fun _ _ => rfl) (fun _ _ => rfl) (fun j hj => by omega)
        · exact ZQ.of (b0 w).symm (X1.back' nr3 ((MG.of g).tr f)) (fun k hk => by rw [g k (by omega), f.1 k (by omega), e0 k (by omega)])
        · exact ZQ.of (b1 w).symm (X1.back' nr3 ((MG.of g).tr f)) (fun k hk => by rw [g k (by omega), f.1 k (by omega), e0 k (by omega)])
end VMA

