abbrev rmX0_liars : Room := { frames := 4, cells := 0, slots := 0, locals := 94 }
theorem hy_X0_liars : yX0_liars.cls = RX0 ∧ yX0_liars.cls ≠ "java/lang/invoke/MethodHandle" ∧ yX0_liars.cls ≠ "java/lang/invoke/VarHandle" ∧ (parseMethodDescriptor yX0_liars.desc).map (fun d => d.parameters.length) = some 1 := by decide +kernel
theorem hz_X0_liars : yX0_liars.cls ≠ "java/lang/invoke/MethodHandle" ∧ yX0_liars.cls ≠ "java/lang/invoke/VarHandle" ∧ (parseMethodDescriptor yX0_liars.desc).map (fun d => d.parameters.length) = some 1 := by decide +kernel
abbrev rmX0_rowsOf : Room := { frames := 4, cells := 0, slots := 0, locals := 94 }
theorem hy_X0_rowsOf : yX0_rowsOf.cls = RX0 ∧ yX0_rowsOf.cls ≠ "java/lang/invoke/MethodHandle" ∧ yX0_rowsOf.cls ≠ "java/lang/invoke/VarHandle" ∧ (parseMethodDescriptor yX0_rowsOf.desc).map (fun d => d.parameters.length) = some 2 := by decide +kernel
theorem hz_X0_rowsOf : yX0_rowsOf.cls ≠ "java/lang/invoke/MethodHandle" ∧ yX0_rowsOf.cls ≠ "java/lang/invoke/VarHandle" ∧ (parseMethodDescriptor yX0_rowsOf.desc).map (fun d => d.parameters.length) = some 2 := by decide +kernel
theorem me_X0_rowsOf_0 : Cond.fieldLink RX0 28 "DrawnByLost$Finder" "tally" "[I" ∈ wsX0_rowsOf := by decide +kernel
theorem me_X0_liars_0 : Cond.fieldLink RX0 50 "DrawnByLost$Story" "walks" "I" ∈ wsX0_liars := by decide +kernel
theorem me_X0_liars_1 : Cond.fieldLink RX0 12 "DrawnByLost$Finder" "land" "LDrawnByLost$Land;" ∈ wsX0_liars := by decide +kernel
theorem me_X0_liars_2 : Cond.fieldLink RX0 42 "DrawnByLost$Land" "all" "I" ∈ wsX0_liars := by decide +kernel
theorem ic_X0_rowsOf_0 : ∀ w ∈ wsX00, w ∈ wsX0_rowsOf := by decide +kernel
theorem ic_X0_liars_5 : ∀ w ∈ wsX50, w ∈ wsX0_liars := by decide +kernel
theorem ic_X0_liars_0 : ∀ w ∈ wsX00, w ∈ wsX0_liars := by decide +kernel
theorem ic_X0_liars_1 : ∀ w ∈ wsX10, w ∈ wsX0_liars := by decide +kernel
-- Finder: how many rows; who lied; round; passed; joined; seen
section VF5
variable {l : Launch} {D : va_G} {cy : CY} {B n : Nat} {h : Hp} {lg : Lg} {π : Nat → Nat}
theorem rch_pt {κ R C x y : Nat} (hx : x < R * C) : rch κ R C (fun z => decide (z = x)) y = (decide (y < R * C) && go κ C x y) := by
  rw [Bool.eq_iff_iff, rch_iff]
  simp only [Bool.and_eq_true, decide_eq_true_eq]
  constructor
  · rintro ⟨h1, z, h2, rfl, h3⟩
    exact ⟨h1, h3⟩
  · rintro ⟨h1, h2⟩
    exact ⟨h1, x, hx, rfl, h2⟩
theorem cf_sup {κ R C : Nat} {mk t : Nat → Nat} {f0 : Nat → Bool} {i x : Nat} (hx : R * C ≤ x) : cf κ R C mk t f0 i x = 0 := by
  have z := fw_sup κ R C mk t f0 i x hx
  unfold fw at z
  simp only [decide_eq_false_iff_not] at z
  omega
theorem aup_cf {κ R C : Nat} (hl : R * C ≤ 16) {mk t : Nat → Nat} {f0 : Nat → Bool} {i x : Nat} : aup κ R C (atB R C mk (t (i + 1))) (cf κ R C mk t f0 i) x = cf κ R C mk t f0 (i + 1) x := by
  unfold aup
  rw [cf_s]
  cases e : atB R C mk (t (i + 1)) x
  · simp [one]
  · have hx := (atB_sup R C mk _).lt e
    congr 1
    rw [sumN_ext hl (fun j h1 h2 => by rw [cf_sup h1, Nat.mul_zero])]
    exact sumN_congr fun y hy => by
      rw [rch_pt hx, go_comm]
      simp [hy]
theorem b2i_one (b : Bool) : b2i b = nI (one b) := by cases b <;> rfl
def waysN (R C : Nat) (mk ρ : Nat → Nat) (w : Nat) : Nat := sumN (R * C) (cf (kw ρ w) R C mk (tm ρ w) (fun _ => true) (sw ρ w - 1))
theorem fw_ways {R C : Nat} (hl : R * C ≤ 16) {mk ρ : Nat → Nat} {w : Nat} : S (fw (kw ρ w) R C mk (tm ρ w) (fun _ => true) (sw ρ w - 1)) = 0 ↔ waysN R C mk ρ w = 0 := by
  rw [S_eq0]
  constructor
  · intro h
    rcases Nat.eq_zero_or_pos (waysN R C mk ρ w) with q | q
    · exact q
    · exfalso
      obtain ⟨x, h1, h2⟩ := sumN_pos.mp q
      have := h x (by omega)
      unfold fw at this
      simp only [decide_eq_false_iff_not] at this
      exact this h2
  · intro h x _
    cases e : fw (kw ρ w) R C mk (tm ρ w) (fun _ => true) (sw ρ w - 1) x
    · rfl
    · exfalso
      have hx := (fw_sup (kw ρ w) R C mk (tm ρ w) (fun _ => true) (sw ρ w - 1)).lt e
      have := sumN_pos.mpr ⟨x, hx, fw_iff.mp e⟩
      unfold waysN at h
      omega
theorem lp1_X0_rowsOf {s w : Nat} {g : Nat → Bool} {κ : Int32} {post : PO} (hn : 89 ≤ n) (H0 : Hp)
    (K : ∀ h', (∀ a, a ≠ 16 → h' a = H0 a) → (∀ x, x < 16 → h' 16 x = nI (one (g x))) → ∀ a4 a5 a6, okc a4 = true → WP l D cy B cX0_rowsOf 7 RX0 wsX0_rowsOf rmX0_rowsOf (some .int) (QE0 D cy B n 0 0 (post)) EX0 n (rf0 π) h' lg 0 0 48 [some (.ref (B + 10)), some (.ref (B + s)), some (.int (nI w)), some (.int κ), a4, a5, a6] []) :
    ∀ d i : Nat, i + d = 16 → ∀ h', (∀ a, a ≠ 16 → h' a = H0 a) → (∀ x, x < i → h' 16 x = nI (one (g x))) → WP l D cy B cX0_rowsOf 7 RX0 wsX0_rowsOf rmX0_rowsOf (some .int) (QE0 D cy B n 0 0 (post)) EX0 n (rf0 π) h' lg 0 0 21 [some (.ref (B + 10)), some (.ref (B + s)), some (.int (nI w)), some (.int κ), some (.int (S g)), some (.int (nI i)), none] [] := by
  intro d
  induction d with
  | zero =>
    intro i hi h' e0 e1
    have : i = 16 := by omega
    subst this
    refine wp_iload_5 (pc' := 23) dX0_rowsOf_21 rfl ?_
    refine wp_bipush (pc' := 25) (16) dX0_rowsOf_23 rfl (by decide) ?_
    refine wp_icmp_ge (pc' := 28) (tgt := 48) dX0_rowsOf_25 rfl rfl (fun c25 => ?_) (fun c25 => by exfalso; exact c25 (by decide))
    exact K h' e0 e1 _ _ _ rfl
  | succ d ih =>
    intro i hi h' e0 e1
    refine wp_iload_5 (pc' := 23) dX0_rowsOf_21 rfl ?_
    refine wp_bipush (pc' := 25) (16) dX0_rowsOf_23 rfl (by decide) ?_
    refine wp_icmp_ge (pc' := 28) (tgt := 48) dX0_rowsOf_25 rfl rfl (fun c25 => by exfalso; (simp (disch := omega) only [Int32.lt_iff_toInt_lt, Int32.le_iff_toInt_le, ← Int32.toInt_inj, nI_toInt, il_0, il_1, il_2, il_3, il_4, il_5, il_6, il_8, il_9, il_10, il_16, il_26, il_32, il_40, il_n4, il_n1, il_n2, il_11, il_48, il_57, il_59, il_44, il_126, il_200, il_9999, il_66666, il_10000, il_1000000, il_15, il_12, il_256, il_4096, il_53, il_52] at c25; omega)) (fun c25 => ?_)
    refine wp_aload_n_0 (pc' := 29) dX0_rowsOf_28 rfl ?_
    refine wp_get_0_4 (pc' := 32) (by omega) rfl rfl me_X0_rowsOf_0 ic_X0_rowsOf_0 dX0_rowsOf_29 rfl ?_
    refine wp_iload_5 (pc' := 34) dX0_rowsOf_32 rfl ?_
    refine wp_iload_4 (pc' := 36) dX0_rowsOf_34 rfl ?_
    refine wp_iload_5 (pc' := 38) dX0_rowsOf_36 rfl ?_
    refine wp_ishr (pc' := 39) dX0_rowsOf_38 rfl ?_
    refine wp_iconst (pc' := 40) (1) dX0_rowsOf_39 rfl (by decide) ?_
    refine wp_iand (pc' := 41) dX0_rowsOf_40 rfl ?_
    rw [S_test g (by omega), b2i_one]
    refine wp_iast (pc' := 42) (N := 16) (by omega) rfl rfl (by first | exact vp_in_nI (by omega) (by omega) | assumption | (unfold vp_in; decide)) dX0_rowsOf_41 rfl ?_
    refine wp_iinc_5 (pc' := 45) (v := nI (i + 1)) dX0_rowsOf_42 (by first | rfl | exact nI_1 _) (by decide) rfl rfl ?_
    refine wp_goto (tgt := 21) dX0_rowsOf_45 rfl ?_
    refine ih (i + 1) (by omega) _ (fun a ha => by rw [hup_cell ha]; exact e0 a ha) (fun x hx => ?_)
    rw [nI_clamp (by omega)]
    by_cases e : x = i
    · subst e; rw [hup_at]
    · rw [hup_off e]; exact e1 x (by omega)
theorem lp2_X0_rowsOf {s w R C : Nat} {mk ρ : Nat → Nat} {post : PO} (hn : 89 ≤ n) (hs : St s) (H0 : Hp) (q0 : ShL H0 11 R C) (sp0 : Sp H0 R C mk) (xr0 : XR H0 s ρ) (ok : RowOK ρ) (hw : w < ρ 16)
    (K : ∀ h', (∀ a, a ≠ 16 → a ≠ 17 → h' a = H0 a) → (∀ x, x < 16 → h' 16 x = nI (cf (kw ρ w) R C mk (tm ρ w) (fun _ => true) (sw ρ w - 1) x)) → ∀ a3 a4 a5 a6, okc a4 = true → WP l D cy B cX0_rowsOf 7 RX0 wsX0_rowsOf rmX0_rowsOf (some .int) (QE0 D cy B n 0 0 (post)) EX0 n (rf0 π) h' lg 0 0 83 [some (.ref (B + 10)), some (.ref (B + s)), some (.int (nI w)), a3, a4, a5, a6] []) :
    ∀ d i : Nat, (i + 1) + d = sw ρ w → ∀ h', (∀ a, a ≠ 16 → a ≠ 17 → h' a = H0 a) → (∀ x, x < 16 → h' 16 x = nI (cf (kw ρ w) R C mk (tm ρ w) (fun _ => true) i x)) → ∀ a4 a6, okc a4 = true → WP l D cy B cX0_rowsOf 7 RX0 wsX0_rowsOf rmX0_rowsOf (some .int) (QE0 D cy B n 0 0 (post)) EX0 n (rf0 π) h' lg 0 0 51 [some (.ref (B + 10)), some (.ref (B + s)), some (.int (nI w)), some (.int (nI (kw ρ w))), a4, some (.int (nI (i + 1))), a6] [] := by
  have hl := q0.1.le
  obtain ⟨w5, hk3, hs2, hs5⟩ := ok.w hw
  intro d
  induction d with
  | zero =>
    intro i hi h' e0 e1 a4 a6 ho
    have q := q0.of_eq (e0 11 (by decide) (by decide))
    have xr := xr0.congr (h' := h') (fun a h1 h2 => e0 a (by have := hs.zone h1 h2; omega) (by have := hs.zone h1 h2; omega))
    have e : i = sw ρ w - 1 := by omega
    subst e
    refine wp_iload_5 (pc' := 53) dX0_rowsOf_51 rfl ?_
    refine wp_aload_n_1 (pc' := 54) dX0_rowsOf_53 rfl ?_
    refine wp_iload_n_2 (pc' := 55) dX0_rowsOf_54 rfl ?_
    refine wp_callVu (pc' := 58) (c_sizeOf hn hs xr ok hw) gX0_rowsOf_X5_sizeOf rfl rfl hy_X5_sizeOf ⟨Nat.le_of_ble_eq_true rfl, Nat.le_of_ble_eq_true rfl⟩ ⟨rfl, rfl⟩ (Nat.le_of_ble_eq_true rfl) ⟨Nat.le_of_ble_eq_true rfl, Nat.le_of_ble_eq_true rfl⟩ (hs.lt (by omega)) (ce5 hs.K) rfl rfl dX0_rowsOf_55 rfl ?_
    refine wp_icmp_ge (pc' := 61) (tgt := 83) dX0_rowsOf_58 rfl rfl (fun c58 => ?_) (fun c58 => by exfalso; exact c58 (nI_le (by omega) (by omega)))
    exact K h' e0 e1 _ _ _ _ ho
  | succ d ih =>
    intro i hi h' e0 e1 a4 a6 ho
    have q := q0.of_eq (e0 11 (by decide) (by decide))
    have sp := sp0.of_eq (e0 13 (by decide) (by decide))
    have xr := xr0.congr (h' := h') (fun a h1 h2 => e0 a (by have := hs.zone h1 h2; omega) (by have := hs.zone h1 h2; omega))
    have ht5 := tm_le ok hw (i := i + 1) (by omega)
    have hg := atB_sup R C mk (tm ρ w (i + 1))
    have hT := e1
    refine wp_iload_5 (pc' := 53) dX0_rowsOf_51 rfl ?_
    refine wp_aload_n_1 (pc' := 54) dX0_rowsOf_53 rfl ?_
    refine wp_iload_n_2 (pc' := 55) dX0_rowsOf_54 rfl ?_
    refine wp_callVu (pc' := 58) (c_sizeOf hn hs xr ok hw) gX0_rowsOf_X5_sizeOf rfl rfl hy_X5_sizeOf ⟨Nat.le_of_ble_eq_true rfl, Nat.le_of_ble_eq_true rfl⟩ ⟨rfl, rfl⟩ (Nat.le_of_ble_eq_true rfl) ⟨Nat.le_of_ble_eq_true rfl, Nat.le_of_ble_eq_true rfl⟩ (hs.lt (by omega)) (ce5 hs.K) rfl rfl dX0_rowsOf_55 rfl ?_
    refine wp_icmp_ge (pc' := 61) (tgt := 83) dX0_rowsOf_58 rfl rfl (fun c58 => by exfalso; exact nI_ge (by omega) (by omega) c58) (fun c58 => ?_)
    refine wp_aload_n_0 (pc' := 62) dX0_rowsOf_61 rfl ?_
    refine wp_iload_n_3 (pc' := 63) dX0_rowsOf_62 rfl ?_
    refine wp_aload_n_0 (pc' := 64) dX0_rowsOf_63 rfl ?_
    refine wp_aload_n_1 (pc' := 65) dX0_rowsOf_64 rfl ?_
    refine wp_iload_n_2 (pc' := 66) dX0_rowsOf_65 rfl ?_
    refine wp_iload_5 (pc' := 68) dX0_rowsOf_66 rfl ?_
    refine wp_callVu (pc' := 71) (c_rowMark hn hs xr ok hw (by omega)) gX0_rowsOf_X5_rowMark rfl rfl hy_X5_rowMark ⟨Nat.le_of_ble_eq_true rfl, Nat.le_of_ble_eq_true rfl⟩ ⟨rfl, rfl⟩ (Nat.le_of_ble_eq_true rfl) ⟨Nat.le_of_ble_eq_true rfl, Nat.le_of_ble_eq_true rfl⟩ (hs.lt (by omega)) (ce5 hs.K) rfl rfl dX0_rowsOf_68 rfl ?_
    refine wp_callVu (pc' := 74) (c_X0_placesOf hn sp (by omega)) gX0_rowsOf_X0_placesOf rfl rfl hy_X0_placesOf ⟨Nat.le_of_ble_eq_true rfl, Nat.le_of_ble_eq_true rfl⟩ ⟨rfl, rfl⟩ (Nat.le_of_ble_eq_true rfl) ⟨Nat.le_of_ble_eq_true rfl, Nat.le_of_ble_eq_true rfl⟩ (by omega) (ce0 rfl) rfl rfl dX0_rowsOf_71 rfl ?_
    refine wp_callVv (pc' := 77) (c_X0_addUp hn q hk3 hg hT) gX0_rowsOf_X0_addUp rfl rfl hy_X0_addUp ⟨Nat.le_of_ble_eq_true rfl, Nat.le_of_ble_eq_true rfl⟩ ⟨rfl, rfl⟩ (Nat.le_of_ble_eq_true rfl) ⟨Nat.le_of_ble_eq_true rfl, Nat.le_of_ble_eq_true rfl⟩ (by omega) (ce0 rfl) rfl rfl dX0_rowsOf_74 rfl (fun h74 q74 => ?_)
    obtain ⟨g0, g1⟩ := q74
    refine wp_iinc_5 (pc' := 80) (v := nI (i + 1 + 1)) dX0_rowsOf_77 (by first | rfl | exact nI_1 _) (by decide) ho rfl ?_
    refine wp_goto (tgt := 51) dX0_rowsOf_80 rfl ?_
    refine ih (i + 1) (by omega) h74 (fun a h1 h2 => by rw [g0 a h1 h2]; exact e0 a h1 h2) (fun x hx => ?_) _ _ ho
    rw [g1 x hx, aup_cf hl]
theorem lp3_X0_rowsOf {s w : Nat} {a3 a4 : Option Value} {T : Nat → Nat} {post : PO} (hn : 89 ≤ n) (ho : okc a4 = true) (hT : ∀ x, x < 16 → h 16 x = nI (T x)) (K : post (some (.int (nI (sumN 16 T)))) (rf0 π) h lg) :
    ∀ d i : Nat, i + d = 16 → WP l D cy B cX0_rowsOf 7 RX0 wsX0_rowsOf rmX0_rowsOf (some .int) (QE0 D cy B n 0 0 (post)) EX0 n (rf0 π) h lg 0 0 89 [some (.ref (B + 10)), some (.ref (B + s)), some (.int (nI w)), a3, a4, some (.int (nI (sumN i T))), some (.int (nI i))] [] := by
  intro d
  induction d with
  | zero =>
    intro i hi
    have : i = 16 := by omega
    subst this
    refine wp_iload_6 (pc' := 91) dX0_rowsOf_89 rfl ?_
    refine wp_bipush (pc' := 93) (16) dX0_rowsOf_91 rfl (by decide) ?_
    refine wp_icmp_ge (pc' := 96) (tgt := 114) dX0_rowsOf_93 rfl rfl (fun c93 => ?_) (fun c93 => by exfalso; exact c93 (by decide))
    refine wp_iload_5 (pc' := 116) dX0_rowsOf_114 rfl ?_
    refine wp_ireturn dX0_rowsOf_116 rfl rfl (Nat.le_refl _) (Nat.le_refl _) ?_
    exact K
  | succ d ih =>
    intro i hi
    refine wp_iload_6 (pc' := 91) dX0_rowsOf_89 rfl ?_
    refine wp_bipush (pc' := 93) (16) dX0_rowsOf_91 rfl (by decide) ?_
    refine wp_icmp_ge (pc' := 96) (tgt := 114) dX0_rowsOf_93 rfl rfl (fun c93 => by exfalso; (simp (disch := omega) only [Int32.lt_iff_toInt_lt, Int32.le_iff_toInt_le, ← Int32.toInt_inj, nI_toInt, il_0, il_1, il_2, il_3, il_4, il_5, il_6, il_8, il_9, il_10, il_16, il_26, il_32, il_40, il_n4, il_n1, il_n2, il_11, il_48, il_57, il_59, il_44, il_126, il_200, il_9999, il_66666, il_10000, il_1000000, il_15, il_12, il_256, il_4096, il_53, il_52] at c93; omega)) (fun c93 => ?_)
    refine wp_iload_5 (pc' := 98) dX0_rowsOf_96 rfl ?_
    refine wp_aload_n_0 (pc' := 99) dX0_rowsOf_98 rfl ?_
    refine wp_get_0_4 (pc' := 102) (by omega) rfl rfl me_X0_rowsOf_0 ic_X0_rowsOf_0 dX0_rowsOf_99 rfl ?_
    refine wp_iload_6 (pc' := 104) dX0_rowsOf_102 rfl ?_
    refine wp_iald (pc' := 105) (N := 16) (by omega) rfl rfl (by first | exact vp_in_nI (by omega) (by omega) | assumption | (unfold vp_in; decide)) dX0_rowsOf_104 rfl ?_
    rw [nI_clamp (by omega), hT i (by omega)]
    refine wp_iadd (pc' := 106) dX0_rowsOf_105 rfl ?_
    rw [nI_add]
    refine wp_istore_5 (pc' := 108) dX0_rowsOf_106 (by decide) ho rfl ?_
    refine wp_iinc_6 (pc' := 111) (v := nI (i + 1)) dX0_rowsOf_108 (by first | rfl | exact nI_1 _) (by decide) rfl rfl ?_
    refine wp_goto (tgt := 89) dX0_rowsOf_111 rfl ?_
    exact ih (i + 1) (by omega)
theorem c_X0_rowsOf {s w R C : Nat} {mk ρ : Nat → Nat} (hn : 89 ≤ n) (hs : St s) (q : ShL h 11 R C) (sp : Sp h R C mk) (xr : XR h s ρ) (ok : RowOK ρ) (hw : w < ρ 16) : Ctr l D cy B yX0_rowsOf wsX0_rowsOf rmX0_rowsOf 0 0 n (rf0 π) h lg [.ref (B + 10), .ref (B + s), .int (nI w)] (qI (fun x h' => x = nI (waysN R C mk ρ w) ∧ (∀ a, a ≠ 16 → a ≠ 17 → h' a = h a)) (rf0 π) lg) := by
  have hl := q.1.le
  obtain ⟨w5, hk3, hs2, hs5⟩ := ok.w hw
  have ht5 := tm_le ok hw (i := 0) (by omega)
  refine Ctr.of (cc := cX0_rowsOf) (nL := 7) (own := RX0) (rt := (some .int)) (ls := [some (.ref (B + 10)), some (.ref (B + s)), some (.int (nI w)), none, none, none, none]) (by decide) rfl rfl (Nat.le_of_ble_eq_true rfl) rfl ?_
  refine wp_aload_n_1 (pc' := 1) dX0_rowsOf_0 rfl ?_
  refine wp_iload_n_2 (pc' := 2) dX0_rowsOf_1 rfl ?_
  refine wp_callVu (pc' := 5) (c_kindOf hn hs xr ok hw) gX0_rowsOf_X5_kindOf rfl rfl hy_X5_kindOf ⟨Nat.le_of_ble_eq_true rfl, Nat.le_of_ble_eq_true rfl⟩ ⟨rfl, rfl⟩ (Nat.le_of_ble_eq_true rfl) ⟨Nat.le_of_ble_eq_true rfl, Nat.le_of_ble_eq_true rfl⟩ (hs.lt (by omega)) (ce5 hs.K) rfl rfl dX0_rowsOf_2 rfl ?_
  refine wp_istore_n_3 (pc' := 6) dX0_rowsOf_5 (by decide) rfl rfl ?_
  refine wp_aload_n_0 (pc' := 7) dX0_rowsOf_6 rfl ?_
  refine wp_aload_n_1 (pc' := 8) dX0_rowsOf_7 rfl ?_
  refine wp_iload_n_2 (pc' := 9) dX0_rowsOf_8 rfl ?_
  refine wp_iconst (pc' := 10) (0) dX0_rowsOf_9 rfl (by decide) ?_
  refine wp_callVu (pc' := 13) (c_rowMark (i := 0) hn hs xr ok hw (by omega)) gX0_rowsOf_X5_rowMark rfl rfl hy_X5_rowMark ⟨Nat.le_of_ble_eq_true rfl, Nat.le_of_ble_eq_true rfl⟩ ⟨rfl, rfl⟩ (Nat.le_of_ble_eq_true rfl) ⟨Nat.le_of_ble_eq_true rfl, Nat.le_of_ble_eq_true rfl⟩ (hs.lt (by omega)) (ce5 hs.K) rfl rfl dX0_rowsOf_10 rfl ?_
  refine wp_callVu (pc' := 16) (c_X0_placesOf hn sp (by omega)) gX0_rowsOf_X0_placesOf rfl rfl hy_X0_placesOf ⟨Nat.le_of_ble_eq_true rfl, Nat.le_of_ble_eq_true rfl⟩ ⟨rfl, rfl⟩ (Nat.le_of_ble_eq_true rfl) ⟨Nat.le_of_ble_eq_true rfl, Nat.le_of_ble_eq_true rfl⟩ (by omega) (ce0 rfl) rfl rfl dX0_rowsOf_13 rfl ?_
  refine wp_istore_4 (pc' := 18) dX0_rowsOf_16 (by decide) rfl rfl ?_
  refine wp_iconst (pc' := 19) (0) dX0_rowsOf_18 rfl (by decide) ?_
  refine wp_istore_5 (pc' := 21) dX0_rowsOf_19 (by decide) rfl rfl ?_
  refine lp1_X0_rowsOf hn h (fun h1 e0 e1 a4 a5 a6 ho => ?_) 16 0 (by omega) h (fun _ _ => rfl) (fun x hx => by omega)
  refine wp_iconst (pc' := 49) (1) dX0_rowsOf_48 rfl (by decide) ?_
  refine wp_istore_5 (pc' := 51) dX0_rowsOf_49 (by decide) ho rfl ?_
  refine lp2_X0_rowsOf (mk := mk) hn hs h1 (q.of_eq (e0 11 (by decide))) (sp.of_eq (e0 13 (by decide))) (xr.congr (fun a h1 h2 => e0 a (by have := hs.zone h1 h2; omega))) ok hw (fun h2 g0 g1 b3 b4 b5 b6 ho2 => ?_) (sw ρ w - 1) 0 (by omega) h1 (fun _ _ _ => rfl) (fun x hx => by rw [e1 x hx]; simp [cf]) _ _ ho
  refine wp_iconst (pc' := 84) (0) dX0_rowsOf_83 rfl (by decide) ?_
  refine wp_istore_5 (pc' := 86) dX0_rowsOf_84 (by decide) ho2 rfl ?_
  refine wp_iconst (pc' := 87) (0) dX0_rowsOf_86 rfl (by decide) ?_
  refine wp_istore_6 (pc' := 89) dX0_rowsOf_87 (by decide) rfl rfl ?_
  refine lp3_X0_rowsOf (T := cf (kw ρ w) R C mk (tm ρ w) (fun _ => true) (sw ρ w - 1)) hn ho2 g1 (qI_of ⟨?_, fun a h1 h2 => by rw [g0 a h1 h2]; exact e0 a h1⟩) 16 0 (by omega)
  unfold waysN
  rw [sumN_ext hl (fun j h1 h2 => cf_sup h1)]
theorem lp_X0_liars {s R C : Nat} {mk ρ : Nat → Nat} {post : PO} (hn : 89 ≤ n) (hs : St s) (H0 : Hp) (q0 : ShL H0 11 R C) (sp0 : Sp H0 R C mk) (xr0 : XR H0 s ρ) (ok : RowOK ρ)
    (K : ∀ h', (∀ a, a ≠ 14 → h' a = H0 a) → post (some (.int (SN (ρ 16) (fun w => decide (waysN R C mk ρ w = 0))))) (rf0 π) h' lg) :
    ∀ d w : Nat, w + d = ρ 16 → ∀ h', (∀ a, a ≠ 14 → h' a = H0 a) → WP l D cy B cX0_liars 4 RX0 wsX0_liars rmX0_liars (some .int) (QE0 D cy B n 0 0 (post)) EX0 n (rf0 π) h' lg 0 0 4 [some (.ref (B + 10)), some (.ref (B + s)), some (.int (SN w (fun w => decide (waysN R C mk ρ w = 0)))), some (.int (nI w))] [] := by
  have hl := q0.1.le
  have h5 := ok.2.1
  intro d
  induction d with
  | zero =>
    intro w hw h' e0
    have xr := xr0.congr (h' := h') (fun a h1 h2 => e0 a (by have := hs.zone h1 h2; omega))
    have : w = ρ 16 := by omega
    subst this
    refine wp_iload_n_3 (pc' := 5) dX0_liars_4 rfl ?_
    refine wp_aload_n_1 (pc' := 6) dX0_liars_5 rfl ?_
    refine wp_get_5_4 (pc' := 9) (hs.lt (by omega)) hs.K me_X0_liars_0 ic_X0_liars_5 dX0_liars_6 rfl ?_
    refine wp_icmp_ge (pc' := 12) (tgt := 40) dX0_liars_9 rfl rfl (fun c9 => ?_) (fun c9 => by exfalso; rw [xr.2.1] at c9; exact c9 (nI_le (by omega) (by omega)))
    refine wp_iload_n_2 (pc' := 41) dX0_liars_40 rfl ?_
    refine wp_ireturn dX0_liars_41 rfl rfl (Nat.le_refl _) (Nat.le_refl _) ?_
    exact K h' e0
  | succ d ih =>
    intro w hwd h' e0
    have q := q0.of_eq (e0 11 (by decide))
    have sp := sp0.of_eq (e0 13 (by decide))
    have xr := xr0.congr (h' := h') (fun a h1 h2 => e0 a (by have := hs.zone h1 h2; omega))
    have hw : w < ρ 16 := by omega
    refine wp_iload_n_3 (pc' := 5) dX0_liars_4 rfl ?_
    refine wp_aload_n_1 (pc' := 6) dX0_liars_5 rfl ?_
    refine wp_get_5_4 (pc' := 9) (hs.lt (by omega)) hs.K me_X0_liars_0 ic_X0_liars_5 dX0_liars_6 rfl ?_
    refine wp_icmp_ge (pc' := 12) (tgt := 40) dX0_liars_9 rfl rfl (fun c9 => by exfalso; rw [xr.2.1] at c9; exact nI_ge (by omega) (by omega) c9) (fun c9 => ?_)
    refine wp_aload_n_0 (pc' := 13) dX0_liars_12 rfl ?_
    refine wp_aload_n_1 (pc' := 14) dX0_liars_13 rfl ?_
    refine wp_iload_n_3 (pc' := 15) dX0_liars_14 rfl ?_
    refine wp_aload_n_0 (pc' := 16) dX0_liars_15 rfl ?_
    refine wp_get_0_0 (pc' := 19) (by omega) rfl rfl me_X0_liars_1 ic_X0_liars_0 dX0_liars_16 rfl ?_
    refine wp_get_1_2 (pc' := 22) (by omega) rfl me_X0_liars_2 ic_X0_liars_1 dX0_liars_19 rfl ?_
    rw [q.all]
    refine wp_callVq (pc' := 25) (c_X0_goFrom hn hs q sp xr ok hw) gX0_liars_X0_goFrom rfl rfl hy_X0_goFrom ⟨Nat.le_of_ble_eq_true rfl, Nat.le_of_ble_eq_true rfl⟩ ⟨rfl, rfl⟩ (Nat.le_of_ble_eq_true rfl) ⟨Nat.le_of_ble_eq_true rfl, Nat.le_of_ble_eq_true rfl⟩ (by omega) (ce0 rfl) rfl rfl dX0_liars_22 rfl (fun x22 h22 q22 => ?_)
    obtain ⟨g0, g1, _⟩ := q22
    subst g0
    rw [fw_all]
    refine wp_if_ne (pc' := 28) (tgt := 34) dX0_liars_25 rfl rfl (fun c25 => ?_) (fun c25 => ?_)
    · skip -- 25 taken
      refine wp_iinc_3 (pc' := 37) (v := nI (w + 1)) dX0_liars_34 (by first | rfl | exact nI_1 _) (by decide) rfl rfl ?_
      refine wp_goto (tgt := 4) dX0_liars_37 rfl ?_
      have z : ¬ waysN R C mk ρ w = 0 := fun e => c25 ((fw_ways hl).mpr e)
      have z2 := ih (w + 1) (by omega) h22 (fun a ha => by rw [g1 a ha]; exact e0 a ha)
      have z3 : SN (w + 1) (fun w => decide (waysN R C mk ρ w = 0)) = SN w (fun w => decide (waysN R C mk ρ w = 0)) := by simp [SN, z]
      rw [z3] at z2
      exact z2
    · skip -- 25 not taken
      refine wp_iload_n_2 (pc' := 29) dX0_liars_28 rfl ?_
      refine wp_iconst (pc' := 30) (1) dX0_liars_29 rfl (by decide) ?_
      refine wp_iload_n_3 (pc' := 31) dX0_liars_30 rfl ?_
      refine wp_ishl (pc' := 32) dX0_liars_31 rfl ?_
      refine wp_ior (pc' := 33) dX0_liars_32 rfl ?_
      refine wp_istore_n_2 (pc' := 34) dX0_liars_33 (by decide) rfl rfl ?_
      refine wp_iinc_3 (pc' := 37) (v := nI (w + 1)) dX0_liars_34 (by first | rfl | exact nI_1 _) (by decide) rfl rfl ?_
      refine wp_goto (tgt := 4) dX0_liars_37 rfl ?_
      have z := (fw_ways hl).mp c25
      have z2 := ih (w + 1) (by omega) h22 (fun a ha => by rw [g1 a ha]; exact e0 a ha)
      have z3 : SN (w + 1) (fun w => decide (waysN R C mk ρ w = 0)) = SN w (fun w => decide (waysN R C mk ρ w = 0)) ||| ((1 : Int32) <<< (nI w &&& 31)) := by simp [SN, z]
      rw [z3] at z2
      exact z2
theorem c_X0_liars {s R C : Nat} {mk ρ : Nat → Nat} (hn : 89 ≤ n) (hs : St s) (q : ShL h 11 R C) (sp : Sp h R C mk) (xr : XR h s ρ) (ok : RowOK ρ) : Ctr l D cy B yX0_liars wsX0_liars rmX0_liars 0 0 n (rf0 π) h lg [.ref (B + 10), .ref (B + s)] (qI (fun x h' => x = SN (ρ 16) (fun w => decide (waysN R C mk ρ w = 0)) ∧ (∀ a, a ≠ 14 → h' a = h a)) (rf0 π) lg) := by
  refine Ctr.of (cc := cX0_liars) (nL := 4) (own := RX0) (rt := (some .int)) (ls := [some (.ref (B + 10)), some (.ref (B + s)), none, none]) (by decide) rfl rfl (Nat.le_of_ble_eq_true rfl) rfl ?_
  refine wp_iconst (pc' := 1) (0) dX0_liars_0 rfl (by decide) ?_
  refine wp_istore_n_2 (pc' := 2) dX0_liars_1 (by decide) rfl rfl ?_
  refine wp_iconst (pc' := 3) (0) dX0_liars_2 rfl (by decide) ?_
  refine wp_istore_n_3 (pc' := 4) dX0_liars_3 (by decide) rfl rfl ?_
  exact lp_X0_liars hn hs h q sp xr ok (fun h' e0 => qI_of ⟨rfl, e0⟩) (ρ 16) 0 (by omega) h (fun _ _ => rfl)
end VF5

