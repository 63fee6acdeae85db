abbrev rmX8_may : Room := { frames := 5, cells := 0, slots := 0, locals := 116 }
theorem hy_X8_may : yX8_may.cls = RX8 ∧ yX8_may.cls ≠ "java/lang/invoke/MethodHandle" ∧ yX8_may.cls ≠ "java/lang/invoke/VarHandle" ∧ (parseMethodDescriptor yX8_may.desc).map (fun d => d.parameters.length) = some 1 := by decide +kernel
theorem hz_X8_may : yX8_may.cls ≠ "java/lang/invoke/MethodHandle" ∧ yX8_may.cls ≠ "java/lang/invoke/VarHandle" ∧ (parseMethodDescriptor yX8_may.desc).map (fun d => d.parameters.length) = some 1 := by decide +kernel
abbrev rmX8_moved : Room := { frames := 5, cells := 0, slots := 0, locals := 116 }
theorem hy_X8_moved : yX8_moved.cls = RX8 ∧ yX8_moved.cls ≠ "java/lang/invoke/MethodHandle" ∧ yX8_moved.cls ≠ "java/lang/invoke/VarHandle" ∧ (parseMethodDescriptor yX8_moved.desc).map (fun d => d.parameters.length) = some 1 := by decide +kernel
theorem hz_X8_moved : yX8_moved.cls ≠ "java/lang/invoke/MethodHandle" ∧ yX8_moved.cls ≠ "java/lang/invoke/VarHandle" ∧ (parseMethodDescriptor yX8_moved.desc).map (fun d => d.parameters.length) = some 1 := by decide +kernel
abbrev rmX8_nobody : Room := { frames := 3, cells := 0, slots := 0, locals := 72 }
theorem hy_X8_nobody : yX8_nobody.cls = RX8 ∧ yX8_nobody.cls ≠ "java/lang/invoke/MethodHandle" ∧ yX8_nobody.cls ≠ "java/lang/invoke/VarHandle" ∧ (parseMethodDescriptor yX8_nobody.desc).map (fun d => d.parameters.length) = some 0 := by decide +kernel
theorem hz_X8_nobody : yX8_nobody.cls ≠ "java/lang/invoke/MethodHandle" ∧ yX8_nobody.cls ≠ "java/lang/invoke/VarHandle" ∧ (parseMethodDescriptor yX8_nobody.desc).map (fun d => d.parameters.length) = some 0 := by decide +kernel
theorem me_X8_may_0 : Cond.fieldLink RX8 19 "DrawnByLostModel" "now" "[I" ∈ wsX8_may := by decide +kernel
theorem me_X8_moved_0 : Cond.fieldLink RX8 19 "DrawnByLostModel" "now" "[I" ∈ wsX8_moved := by decide +kernel
theorem me_X8_nobody_0 : Cond.fieldLink RX8 161 "DrawnByLostModel" "many" "I" ∈ wsX8_nobody := by decide +kernel
theorem me_X8_nobody_1 : Cond.fieldLink RX8 37 "DrawnByLostModel" "onward" "[I" ∈ wsX8_nobody := by decide +kernel
theorem me_X8_nobody_2 : Cond.fieldLink RX8 40 "DrawnByLostModel" "toward" "[I" ∈ wsX8_nobody := by decide +kernel
theorem me_X8_nobody_3 : Cond.fieldLink RX8 19 "DrawnByLostModel" "now" "[I" ∈ wsX8_nobody := by decide +kernel
theorem ic_X8_may_8 : ∀ w ∈ wsX80, w ∈ wsX8_may := by decide +kernel
theorem ic_X8_moved_8 : ∀ w ∈ wsX80, w ∈ wsX8_moved := by decide +kernel
theorem ic_X8_nobody_8 : ∀ w ∈ wsX80, w ∈ wsX8_nobody := by decide +kernel
-- the reference's calls: may, moved, nobody
section VM6
variable {l : Launch} {D : va_G} {cy : CY} {B n : Nat} {h : Hp} {lg : Lg} {π : Nat → Nat} {σ : Sg}
theorem lp_X8_may {R C a : Nat} {ρ : Nat → Nat} {post : PO} (hn : 105 ≤ n) (H0 : Hp) (q0 : ShM H0 R C) (ok : RowOK ρ) (ha : a < 16) (K : ∀ h', MG h' H0 → NR h' 93 ρ → post (some (.int (SN 6 (mayB R C ρ a)))) (rf0 π) h' lg) :
    ∀ d i : Nat, i + d = 6 → ∀ h' j, MG h' H0 → NR h' 93 (upN ρ a j) → WP l D cy B cX8_may 5 RX8 wsX8_may rmX8_may (some .int) (QE0 D cy B n 0 0 (post)) EX0 n (rf0 π) h' lg 0 0 22 [some (.ref (B + 89)), some (.int (nI a)), some (.int (nI (ρ a))), some (.int (SN i (mayB R C ρ a))), some (.int (nI i))] [] := by
  intro d
  induction d with
  | zero =>
    intro i hi h' j f nr
    have : i = 6 := by omega
    subst this
    have nr2 := nr.alter (x := a) (m := ρ a)
    rw [upN_upN, upN_self] at nr2
    refine wp_iload_4 (pc' := 24) dX8_may_22 rfl ?_
    refine wp_bipush (pc' := 26) (6) dX8_may_24 rfl (by decide) ?_
    refine wp_icmp_ge (pc' := 29) (tgt := 61) dX8_may_26 rfl rfl (fun c26 => ?_) (fun c26 => by exfalso; exact c26 (by decide))
    refine wp_aload_n_0 (pc' := 62) dX8_may_61 rfl ?_
    refine wp_get_8_4 (pc' := 65) (by omega) rfl rfl me_X8_may_0 ic_X8_may_8 dX8_may_62 rfl ?_
    refine wp_iload_n_1 (pc' := 66) dX8_may_65 rfl ?_
    refine wp_iload_n_2 (pc' := 67) dX8_may_66 rfl ?_
    refine wp_iast (pc' := 68) (N := 52) (by omega) rfl rfl (by first | exact vp_in_nI (by omega) (by omega) | assumption | (unfold vp_in; decide)) dX8_may_67 rfl ?_
    rw [nI_clamp (by omega)]
    refine wp_iload_n_3 (pc' := 69) dX8_may_68 rfl ?_
    refine wp_ireturn dX8_may_69 rfl rfl (Nat.le_refl _) (Nat.le_refl _) ?_
    exact K _ (MG.tr (MG.of (fun c hc => hup_cell hc)) f) nr2
  | succ d ih =>
    intro i hi h' j f nr
    have nr2 := nr.alter (x := a) (m := i)
    rw [upN_upN] at nr2
    have ok2 := upN_ok (m := i) ok ha (by omega)
    have f1 : MG (hup h' 93 a (nI i)) H0 := MG.tr (MG.of (fun c hc => hup_cell hc)) f
    have l0 := lied0 (R := R) (C := C) ok2
    refine wp_iload_4 (pc' := 24) dX8_may_22 rfl ?_
    refine wp_bipush (pc' := 26) (6) dX8_may_24 rfl (by decide) ?_
    refine wp_icmp_ge (pc' := 29) (tgt := 61) dX8_may_26 rfl rfl (fun c26 => by exfalso; (simp (disch := omega) only [Int32.lt_iff_toInt_lt, Int32.le_iff_toInt_le, ← Int32.toInt_inj, nI_toInt, il_0, il_1, il_2, il_3, il_4, il_5, il_6, il_8, il_9, il_10, il_16, il_26, il_32, il_40, il_n4, il_n1, il_n2, il_11, il_48, il_57, il_59, il_44, il_126, il_200, il_9999, il_66666, il_10000, il_1000000, il_15, il_12, il_256, il_4096, il_53, il_52] at c26; omega)) (fun c26 => ?_)
    refine wp_aload_n_0 (pc' := 30) dX8_may_29 rfl ?_
    refine wp_get_8_4 (pc' := 33) (by omega) rfl rfl me_X8_may_0 ic_X8_may_8 dX8_may_30 rfl ?_
    refine wp_iload_n_1 (pc' := 34) dX8_may_33 rfl ?_
    refine wp_iload_4 (pc' := 36) dX8_may_34 rfl ?_
    refine wp_iast (pc' := 37) (N := 52) (by omega) rfl rfl (by first | exact vp_in_nI (by omega) (by omega) | assumption | (unfold vp_in; decide)) dX8_may_36 rfl ?_
    rw [nI_clamp (by omega)]
    refine wp_iload_n_3 (pc' := 38) dX8_may_37 rfl ?_
    refine wp_aload_n_0 (pc' := 39) dX8_may_38 rfl ?_
    refine wp_callVq (pc' := 42) (c_X8_liedNow hn (f1.sh q0) nr2 ok2) gX8_may_X8_liedNow rfl rfl hy_X8_liedNow ⟨Nat.le_of_ble_eq_true rfl, Nat.le_of_ble_eq_true rfl⟩ ⟨rfl, rfl⟩ (Nat.le_of_ble_eq_true rfl) ⟨Nat.le_of_ble_eq_true rfl, Nat.le_of_ble_eq_true rfl⟩ (by omega) (ce8 rfl) rfl rfl dX8_may_39 rfl (fun x39 h39 q39 => ?_)
    obtain ⟨g0, g1⟩ := q39
    subst g0
    refine wp_if_ne (pc' := 45) (tgt := 52) dX8_may_42 rfl rfl (fun c42 => ?_) (fun c42 => ?_)
    · skip -- 42 taken
      refine wp_iconst (pc' := 53) (0) dX8_may_52 rfl (by decide) ?_
      refine wp_ior (pc' := 54) dX8_may_53 rfl ?_
      refine wp_istore_n_3 (pc' := 55) dX8_may_54 (by decide) rfl rfl ?_
      refine wp_iinc_4 (pc' := 58) (v := nI (i + 1)) dX8_may_55 (by first | rfl | exact nI_1 _) (by decide) rfl rfl ?_
      refine wp_goto (tgt := 22) dX8_may_58 rfl ?_
      have e : ¬ mayB R C ρ a i = true := fun z => by
        unfold mayB at z
        rw [Bool.not_eq_true'] at z
        exact c42 (l0.mpr z)
      have z := ih (i + 1) (by omega) h39 i (g1.mg.tr f1) (g1.nr nr2)
      rw [show SN (i + 1) (mayB R C ρ a) = SN i (mayB R C ρ a) ||| 0 by simp [SN, e]] at z
      exact z
    · skip -- 42 not taken
      refine wp_iconst (pc' := 46) (1) dX8_may_45 rfl (by decide) ?_
      refine wp_iload_4 (pc' := 48) dX8_may_46 rfl ?_
      refine wp_ishl (pc' := 49) dX8_may_48 rfl ?_
      refine wp_goto (tgt := 53) dX8_may_49 rfl ?_
      refine wp_ior (pc' := 54) dX8_may_53 rfl ?_
      refine wp_istore_n_3 (pc' := 55) dX8_may_54 (by decide) rfl rfl ?_
      refine wp_iinc_4 (pc' := 58) (v := nI (i + 1)) dX8_may_55 (by first | rfl | exact nI_1 _) (by decide) rfl rfl ?_
      refine wp_goto (tgt := 22) dX8_may_58 rfl ?_
      have e : mayB R C ρ a i = true := by
        unfold mayB
        rw [l0.mp c42]; rfl
      have z := ih (i + 1) (by omega) h39 i (g1.mg.tr f1) (g1.nr nr2)
      rw [show SN (i + 1) (mayB R C ρ a) = SN i (mayB R C ρ a) ||| ((1 : Int32) <<< (nI i &&& 31)) by simp [SN, e]] at z
      exact z
theorem ZQ.mg {h1 : Hp} {lg1 : Lg} {a b : Int32} (e : b = a) (X : MI h σ) (f : MG h1 h) (nr : NR h1 93 σ.ρ) : ZQ π h a σ (some (.int b)) (rf0 π) h1 lg1 := ZQ.of e (X.back' nr f) (fun k hk => f.1 k (Or.inl hk))
theorem MG.rf (h : Hp) : MG h h := (MF.rf h).mg
theorem c_X8_may (hn : 105 ≤ n) (X : MI h σ) (x : Int32) : Ctr l D cy B yX8_may wsX8_may rmX8_may 0 0 n (rf0 π) h lg [.ref (B + 89), .int x] (ZQ π h (aMay σ x) σ) := by
  obtain ⟨T, q, hm, ok, nr, xp, xk⟩ := id X
  have hl := q.1.le
  cases e : ix x (σ.R * σ.C) with
  | none =>
    rw [show aMay σ x = -1 by simp only [aMay, e]]
    refine Ctr.of (cc := cX8_may) (nL := 5) (own := RX8) (rt := (some .int)) (ls := [some (.ref (B + 89)), some (.int x), none, none, none]) (by decide) rfl rfl (Nat.le_of_ble_eq_true rfl) rfl ?_
    refine wp_aload_n_0 (pc' := 1) dX8_may_0 rfl ?_
    refine wp_iload_n_1 (pc' := 2) dX8_may_1 rfl ?_
    refine wp_callVu (pc' := 5) (c_X8_isPlace hn q _) gX8_may_X8_isPlace rfl rfl hy_X8_isPlace ⟨Nat.le_of_ble_eq_true rfl, Nat.le_of_ble_eq_true rfl⟩ ⟨rfl, rfl⟩ (Nat.le_of_ble_eq_true rfl) ⟨Nat.le_of_ble_eq_true rfl, Nat.le_of_ble_eq_true rfl⟩ (by omega) (ce8 rfl) rfl rfl dX8_may_2 rfl ?_
    rw [e]
    refine wp_if_ne (pc' := 8) (tgt := 10) dX8_may_5 rfl rfl (fun c5 => by exfalso; exact c5 rfl) (fun c5 => ?_)
    refine wp_iconst (pc' := 9) (-1) dX8_may_8 rfl (by decide) ?_
    refine wp_ireturn dX8_may_9 rfl rfl (Nat.le_refl _) (Nat.le_refl _) ?_
    exact ZQ.id rfl X
  | some a =>
    obtain ⟨rfl, z1⟩ := ix_some e
    have nr1 := nr
    rw [← upN_self σ.ρ a] at nr1
    rw [show aMay σ (nI a) = SN 6 (mayB σ.R σ.C σ.ρ a) by simp only [aMay, e]]
    refine Ctr.of (cc := cX8_may) (nL := 5) (own := RX8) (rt := (some .int)) (ls := [some (.ref (B + 89)), some (.int (nI a)), none, none, none]) (by decide) rfl rfl (Nat.le_of_ble_eq_true rfl) rfl ?_
    refine wp_aload_n_0 (pc' := 1) dX8_may_0 rfl ?_
    refine wp_iload_n_1 (pc' := 2) dX8_may_1 rfl ?_
    refine wp_callVu (pc' := 5) (c_X8_isPlace hn q _) gX8_may_X8_isPlace rfl rfl hy_X8_isPlace ⟨Nat.le_of_ble_eq_true rfl, Nat.le_of_ble_eq_true rfl⟩ ⟨rfl, rfl⟩ (Nat.le_of_ble_eq_true rfl) ⟨Nat.le_of_ble_eq_true rfl, Nat.le_of_ble_eq_true rfl⟩ (by omega) (ce8 rfl) rfl rfl dX8_may_2 rfl ?_
    rw [e]
    refine wp_if_ne (pc' := 8) (tgt := 10) dX8_may_5 rfl rfl (fun c5 => ?_) (fun c5 => by exfalso; exact absurd c5 bS)
    refine wp_aload_n_0 (pc' := 11) dX8_may_10 rfl ?_
    refine wp_get_8_4 (pc' := 14) (by omega) rfl rfl me_X8_may_0 ic_X8_may_8 dX8_may_11 rfl ?_
    refine wp_iload_n_1 (pc' := 15) dX8_may_14 rfl ?_
    refine wp_iald (pc' := 16) (N := 52) (by omega) rfl rfl (by first | exact vp_in_nI (by omega) (by omega) | assumption | (unfold vp_in; decide)) dX8_may_15 rfl ?_
    rw [nI_clamp (by omega), nr a (by omega)]
    refine wp_istore_n_2 (pc' := 17) dX8_may_16 (by decide) rfl rfl ?_
    refine wp_iconst (pc' := 18) (0) dX8_may_17 rfl (by decide) ?_
    refine wp_istore_n_3 (pc' := 19) dX8_may_18 (by decide) rfl rfl ?_
    refine wp_iconst (pc' := 20) (0) dX8_may_19 rfl (by decide) ?_
    refine wp_istore_4 (pc' := 22) dX8_may_20 (by decide) rfl rfl ?_
    exact lp_X8_may hn h q ok (by omega) (fun h' f nr' => ZQ.mg rfl X f nr') 6 0 (by omega) h (σ.ρ a) (MG.rf h) nr1
theorem ffO_snoc (f : Nat → Bool) : ∀ c y, ffO f (c + 1) y = match ffO f c y with
    | some z => some z
    | none => if f (y + c) = true then some (y + c) else none := by
  intro c
  induction c with
  | zero => intro y; simp [ffO]
  | succ c ih =>
    intro y
    rw [show ffO f (c + 1 + 1) y = if f y = true then some y else ffO f (c + 1) (y + 1) from rfl, ih (y + 1), show ffO f (c + 1) y = if f y = true then some y else ffO f c (y + 1) from rfl]
    by_cases e : f y = true
    · simp [e]
    · simp only [e, if_false, Bool.false_eq_true]
      rw [show y + 1 + c = y + (c + 1) by omega]
theorem ffO_cn (f : Nat → Bool) : ∀ c, ffO f c 0 = none ↔ cnB f c = 0 := by
  intro c
  induction c with
  | zero => simp [ffO, cnB, sumN]
  | succ c ih =>
    rw [ffO_snoc, cnB_s, Nat.zero_add]
    cases e : ffO f c 0 with
    | some z =>
      have : ¬ cnB f c = 0 := fun w => by rw [ih.mpr w] at e; cases e
      simp only [reduceCtorEq, false_iff]
      omega
    | none =>
      have := ih.mp e
      cases e2 : f c <;> simp [one, this]
theorem lp_X8_moved {R C : Nat} {ρ : Nat → Nat} {t : Int32} {post : PO} (hn : 105 ≤ n) (H0 : Hp) (q0 : ShM H0 R C) (ok : RowOK ρ) (ht : t = 0 ∨ t = 1)
    (K0 : t = 0 → ∀ h', MG h' H0 → NR h' 93 ρ → post (some (.int (nI (cnB (cdB R C ρ) 256)))) (rf0 π) h' lg)
    (K1 : t = 1 → ∀ h', MG h' H0 → NR h' 93 ρ → post (some (.int (enc (ffO (cdB R C ρ) 256 0)))) (rf0 π) h' lg) :
    ∀ d c : Nat, c + d = 256 → ∀ h' a5 a6 a7, MG h' H0 → NR h' 93 ρ → WP l D cy B cX8_moved 8 RX8 wsX8_moved rmX8_moved (some .int) (QE0 D cy B n 0 0 (post)) EX0 n (rf0 π) h' lg 0 0 20 [some (.ref (B + 89)), some (.int t), some (.int (nI (cnB (cdB R C ρ) c))), some (.int (enc (ffO (cdB R C ρ) c 0))), some (.int (nI c)), a5, a6, a7] [] := by
  have hl := q0.1.le
  intro d
  induction d with
  | zero =>
    intro c hc h' a5 a6 a7 f nr
    have : c = 256 := by omega
    subst this
    refine wp_iload_4 (pc' := 22) dX8_moved_20 rfl ?_
    refine wp_sipush (pc' := 25) (256) dX8_moved_22 rfl (by decide) ?_
    refine wp_icmp_ge (pc' := 28) (tgt := 140) dX8_moved_25 rfl rfl (fun c25 => ?_) (fun c25 => by exfalso; exact c25 (by decide))
    refine wp_iload_n_1 (pc' := 141) dX8_moved_140 rfl ?_
    refine wp_if_ne (pc' := 144) (tgt := 148) dX8_moved_141 rfl rfl (fun c141 => ?_) (fun c141 => ?_)
    · skip -- 141 taken
      refine wp_iload_n_3 (pc' := 149) dX8_moved_148 rfl ?_
      refine wp_ireturn dX8_moved_149 rfl rfl (Nat.le_refl _) (Nat.le_refl _) ?_
      exact K1 (by rcases ht with z | z; exact absurd z c141; exact z) h' f nr
    · skip -- 141 not taken
      refine wp_iload_n_2 (pc' := 145) dX8_moved_144 rfl ?_
      refine wp_goto (tgt := 149) dX8_moved_145 rfl ?_
      refine wp_ireturn dX8_moved_149 rfl rfl (Nat.le_refl _) (Nat.le_refl _) ?_
      exact K0 c141 h' f nr
  | succ d ih =>
    intro c hc h' a5 a6 a7 f nr
    have q := f.sh q0
    have cl := cnB_le (cdB R C ρ) c
    have x16 : c / 16 < 16 := by omega
    have y16 : c % 16 < 16 := by omega
    have x5 := ok.1 (c / 16) x16
    have y5 := ok.1 (c % 16) y16
    have skip : cdB R C ρ c = false → ∀ h2 b5 b6 b7, MG h2 H0 → NR h2 93 ρ → WP l D cy B cX8_moved 8 RX8 wsX8_moved rmX8_moved (some .int) (QE0 D cy B n 0 0 (post)) EX0 n (rf0 π) h2 lg 0 0 20 [some (.ref (B + 89)), some (.int t), some (.int (nI (cnB (cdB R C ρ) c))), some (.int (enc (ffO (cdB R C ρ) c 0))), some (.int (nI (c + 1))), b5, b6, b7] [] := by
      intro e h2 b5 b6 b7 f2 nr2
      have z := ih (c + 1) (by omega) h2 b5 b6 b7 f2 nr2
      rw [cnB_s, e, ffO_snoc, Nat.zero_add, e] at z
      rw [show (match ffO (cdB R C ρ) c 0 with | some z => some z | none => if false = true then some c else none) = ffO (cdB R C ρ) c 0 by cases ffO (cdB R C ρ) c 0 <;> rfl] at z
      exact z
    have nr2 := nr.swap x16 y16
    have ok2 := swapR_ok ok x16 y16
    have l0 := lied0 (R := R) (C := C) ok2
    refine wp_iload_4 (pc' := 22) dX8_moved_20 rfl ?_
    refine wp_sipush (pc' := 25) (256) dX8_moved_22 rfl (by decide) ?_
    refine wp_icmp_ge (pc' := 28) (tgt := 140) dX8_moved_25 rfl rfl (fun c25 => by exfalso; exact nI_ge (a := c) (b := 256) (by omega) (by omega) c25) (fun c25 => ?_)
    refine wp_iload_4 (pc' := 30) dX8_moved_28 rfl ?_
    refine wp_bipush (pc' := 32) (16) dX8_moved_30 rfl (by decide) ?_
    refine wp_idiv (pc' := 33) dX8_moved_32 rfl (by decide) ?_
    rw [show (16 : Int32) = nI 16 from rfl, pk_div (by omega) (by omega) (by omega)]
    refine wp_istore_5 (pc' := 35) dX8_moved_33 (by decide) rfl rfl ?_
    refine wp_iload_4 (pc' := 37) dX8_moved_35 rfl ?_
    refine wp_bipush (pc' := 39) (16) dX8_moved_37 rfl (by decide) ?_
    refine wp_irem (pc' := 40) dX8_moved_39 rfl (by decide) ?_
    rw [show (16 : Int32) = nI 16 from rfl, pk_rem (by omega) (by omega) (by omega)]
    refine wp_istore_6 (pc' := 42) dX8_moved_40 (by decide) rfl rfl ?_
    refine wp_iload_5 (pc' := 44) dX8_moved_42 rfl ?_
    refine wp_iload_6 (pc' := 46) dX8_moved_44 rfl ?_
    refine wp_icmp_ge (pc' := 49) (tgt := 134) dX8_moved_46 rfl rfl (fun c46 => ?_) (fun c46 => ?_)
    · skip -- 46 taken
      have e46 : ¬ c / 16 < c % 16 := fun z => nI_ge z (by omega) c46
      refine wp_iinc_4 (pc' := 137) (v := nI (c + 1)) dX8_moved_134 (by first | rfl | exact nI_1 _) (by decide) rfl rfl ?_
      refine wp_goto (tgt := 20) dX8_moved_137 rfl ?_
      exact skip (cdB_f (fun z => e46 z.1)) h' _ _ _ f nr
    · skip -- 46 not taken
      refine wp_iload_6 (pc' := 51) dX8_moved_49 rfl ?_
      refine wp_aload_n_0 (pc' := 52) dX8_moved_51 rfl ?_
      refine wp_callVu (pc' := 55) (c_X8_places hn q) gX8_moved_X8_places rfl rfl hy_X8_places ⟨Nat.le_of_ble_eq_true rfl, Nat.le_of_ble_eq_true rfl⟩ ⟨rfl, rfl⟩ (Nat.le_of_ble_eq_true rfl) ⟨Nat.le_of_ble_eq_true rfl, Nat.le_of_ble_eq_true rfl⟩ (by omega) (ce8 rfl) rfl rfl dX8_moved_52 rfl ?_
      refine wp_icmp_ge (pc' := 58) (tgt := 134) dX8_moved_55 rfl rfl (fun c55 => ?_) (fun c55 => ?_)
      · skip -- 55 taken
        have e55 : ¬ c % 16 < R * C := fun z => nI_ge z (by omega) c55
        refine wp_iinc_4 (pc' := 137) (v := nI (c + 1)) dX8_moved_134 (by first | rfl | exact nI_1 _) (by decide) rfl rfl ?_
        refine wp_goto (tgt := 20) dX8_moved_137 rfl ?_
        exact skip (cdB_f (fun z => e55 z.2)) h' _ _ _ f nr
      · skip -- 55 not taken
        refine wp_aload_n_0 (pc' := 59) dX8_moved_58 rfl ?_
        refine wp_get_8_4 (pc' := 62) (by omega) rfl rfl me_X8_moved_0 ic_X8_moved_8 dX8_moved_59 rfl ?_
        refine wp_iload_5 (pc' := 64) dX8_moved_62 rfl ?_
        refine wp_iald (pc' := 65) (N := 52) (by omega) rfl rfl (by first | exact vp_in_nI (by omega) (by omega) | assumption | (unfold vp_in; decide)) dX8_moved_64 rfl ?_
        rw [nI_clamp (by omega), nr _ (by omega)]
        refine wp_aload_n_0 (pc' := 66) dX8_moved_65 rfl ?_
        refine wp_get_8_4 (pc' := 69) (by omega) rfl rfl me_X8_moved_0 ic_X8_moved_8 dX8_moved_66 rfl ?_
        refine wp_iload_6 (pc' := 71) dX8_moved_69 rfl ?_
        refine wp_iald (pc' := 72) (N := 52) (by omega) rfl rfl (by first | exact vp_in_nI (by omega) (by omega) | assumption | (unfold vp_in; decide)) dX8_moved_71 rfl ?_
        rw [nI_clamp (by omega), nr _ (by omega)]
        refine wp_icmp_eq (pc' := 75) (tgt := 134) dX8_moved_72 rfl rfl (fun c72 => ?_) (fun c72 => ?_)
        · skip -- 72 taken
          have e72 : ρ (c / 16) = ρ (c % 16) := (nI_eq (by omega) (by omega)).mp c72
          refine wp_iinc_4 (pc' := 137) (v := nI (c + 1)) dX8_moved_134 (by first | rfl | exact nI_1 _) (by decide) rfl rfl ?_
          refine wp_goto (tgt := 20) dX8_moved_137 rfl ?_
          refine skip ?_ h' _ _ _ f nr
          unfold cdB
          rw [decide_eq_false (p := ρ (c / 16) ≠ ρ (c % 16)) (fun z => z e72)]
          simp
        · skip -- 72 not taken
          have cd : cdB R C ρ c = !anyL R C (swapR ρ (c / 16) (c % 16)) := by
            unfold cdB
            rw [decide_eq_true (p := ρ (c / 16) ≠ ρ (c % 16)) (fun z => c72 (by rw [z])), decide_eq_true (p := c / 16 < c % 16) (by
              apply Classical.byContradiction
              intro z
              exact c46 (nI_le (by omega) (by omega))), decide_eq_true (p := c % 16 < R * C) (by
              apply Classical.byContradiction
              intro z
              exact c55 (nI_le (by omega) (by omega)))]
            simp
          refine wp_aload_n_0 (pc' := 76) dX8_moved_75 rfl ?_
          refine wp_iload_5 (pc' := 78) dX8_moved_76 rfl ?_
          refine wp_iload_6 (pc' := 80) dX8_moved_78 rfl ?_
          refine wp_callVv (pc' := 83) (c_X8_exchange hn (by omega) (by omega)) gX8_moved_X8_exchange rfl rfl hy_X8_exchange ⟨Nat.le_of_ble_eq_true rfl, Nat.le_of_ble_eq_true rfl⟩ ⟨rfl, rfl⟩ (Nat.le_of_ble_eq_true rfl) ⟨Nat.le_of_ble_eq_true rfl, Nat.le_of_ble_eq_true rfl⟩ (by omega) (ce8 rfl) rfl rfl dX8_moved_80 rfl (fun h80 q80 => ?_)
          subst q80
          have f1 : MG (hup (hup h' 93 (c / 16) (h' 93 (c % 16))) 93 (c % 16) (h' 93 (c / 16))) H0 := MG.tr (MG.of (fun b hb => by rw [hup_cell hb, hup_cell hb])) f
          refine wp_aload_n_0 (pc' := 84) dX8_moved_83 rfl ?_
          refine wp_callVq (pc' := 87) (c_X8_liedNow hn (f1.sh q0) nr2 ok2) gX8_moved_X8_liedNow rfl rfl hy_X8_liedNow ⟨Nat.le_of_ble_eq_true rfl, Nat.le_of_ble_eq_true rfl⟩ ⟨rfl, rfl⟩ (Nat.le_of_ble_eq_true rfl) ⟨Nat.le_of_ble_eq_true rfl, Nat.le_of_ble_eq_true rfl⟩ (by omega) (ce8 rfl) rfl rfl dX8_moved_84 rfl (fun x84 h84 q84 => ?_)
          obtain ⟨g0, g1⟩ := q84
          subst g0
          have nr3 := (g1.nr nr2).swap x16 y16
          rw [swapR_swap] at nr3
          refine wp_if_ne (pc' := 90) (tgt := 94) dX8_moved_87 rfl rfl (fun c87 => ?_) (fun c87 => ?_)
          · skip -- 87 taken
            refine wp_iconst (pc' := 95) (0) dX8_moved_94 rfl (by decide) ?_
            refine wp_istore_7 (pc' := 97) dX8_moved_95 (by decide) rfl rfl ?_
            refine wp_aload_n_0 (pc' := 98) dX8_moved_97 rfl ?_
            refine wp_iload_5 (pc' := 100) dX8_moved_98 rfl ?_
            refine wp_iload_6 (pc' := 102) dX8_moved_100 rfl ?_
            refine wp_callVv (pc' := 105) (c_X8_exchange hn (by omega) (by omega)) gX8_moved_X8_exchange rfl rfl hy_X8_exchange ⟨Nat.le_of_ble_eq_true rfl, Nat.le_of_ble_eq_true rfl⟩ ⟨rfl, rfl⟩ (Nat.le_of_ble_eq_true rfl) ⟨Nat.le_of_ble_eq_true rfl, Nat.le_of_ble_eq_true rfl⟩ (by omega) (ce8 rfl) rfl rfl dX8_moved_102 rfl (fun h102 q102 => ?_)
            subst q102
            have f3 : MG (hup (hup h84 93 (c / 16) (h84 93 (c % 16))) 93 (c % 16) (h84 93 (c / 16))) H0 := MG.tr (MG.of (fun b hb => by rw [hup_cell hb, hup_cell hb])) (g1.mg.tr f1)
            refine wp_iload_7 (pc' := 107) dX8_moved_105 rfl ?_
            refine wp_if_eq (pc' := 110) (tgt := 119) dX8_moved_107 rfl rfl (fun c107 => ?_) (fun c107 => by exfalso; exact c107 rfl)
            refine wp_iload_n_3 (pc' := 120) dX8_moved_119 rfl ?_
            refine wp_istore_n_3 (pc' := 121) dX8_moved_120 (by decide) rfl rfl ?_
            refine wp_iload_n_2 (pc' := 122) dX8_moved_121 rfl ?_
            refine wp_iload_7 (pc' := 124) dX8_moved_122 rfl ?_
            refine wp_if_eq (pc' := 127) (tgt := 131) dX8_moved_124 rfl rfl (fun c124 => ?_) (fun c124 => by exfalso; exact c124 rfl)
            refine wp_iconst (pc' := 132) (0) dX8_moved_131 rfl (by decide) ?_
            refine wp_iadd (pc' := 133) dX8_moved_132 rfl ?_
            refine wp_istore_n_2 (pc' := 134) dX8_moved_133 (by decide) rfl rfl ?_
            refine wp_iinc_4 (pc' := 137) (v := nI (c + 1)) dX8_moved_134 (by first | rfl | exact nI_1 _) (by decide) rfl rfl ?_
            refine wp_goto (tgt := 20) dX8_moved_137 rfl ?_
            have e : cdB R C ρ c = false := by
              rw [cd]
              cases e9 : anyL R C (swapR ρ (c / 16) (c % 16))
              · exact absurd (l0.mpr e9) c87
              · rfl
            have z := skip e _ (some (.int (nI (c / 16)))) (some (.int (nI (c % 16)))) (some (.int 0)) f3 nr3
            rw [show nI (cnB (cdB R C ρ) c) = nI (cnB (cdB R C ρ) c) + 0 by simp] at z
            exact z
          · skip -- 87 not taken
            refine wp_iconst (pc' := 91) (1) dX8_moved_90 rfl (by decide) ?_
            refine wp_goto (tgt := 95) dX8_moved_91 rfl ?_
            refine wp_istore_7 (pc' := 97) dX8_moved_95 (by decide) rfl rfl ?_
            refine wp_aload_n_0 (pc' := 98) dX8_moved_97 rfl ?_
            refine wp_iload_5 (pc' := 100) dX8_moved_98 rfl ?_
            refine wp_iload_6 (pc' := 102) dX8_moved_100 rfl ?_
            refine wp_callVv (pc' := 105) (c_X8_exchange hn (by omega) (by omega)) gX8_moved_X8_exchange rfl rfl hy_X8_exchange ⟨Nat.le_of_ble_eq_true rfl, Nat.le_of_ble_eq_true rfl⟩ ⟨rfl, rfl⟩ (Nat.le_of_ble_eq_true rfl) ⟨Nat.le_of_ble_eq_true rfl, Nat.le_of_ble_eq_true rfl⟩ (by omega) (ce8 rfl) rfl rfl dX8_moved_102 rfl (fun h102 q102 => ?_)
            subst q102
            have f3 : MG (hup (hup h84 93 (c / 16) (h84 93 (c % 16))) 93 (c % 16) (h84 93 (c / 16))) H0 := MG.tr (MG.of (fun b hb => by rw [hup_cell hb, hup_cell hb])) (g1.mg.tr f1)
            refine wp_iload_7 (pc' := 107) dX8_moved_105 rfl ?_
            refine wp_if_eq (pc' := 110) (tgt := 119) dX8_moved_107 rfl rfl (fun c107 => by exfalso; exact absurd c107 (by decide)) (fun c107 => ?_)
            refine wp_iload_n_2 (pc' := 111) dX8_moved_110 rfl ?_
            refine wp_if_ne (pc' := 114) (tgt := 119) dX8_moved_111 rfl rfl (fun c111 => ?_) (fun c111 => ?_)
            · skip -- 111 taken
              have hne : ¬ cnB (cdB R C ρ) c = 0 := fun w => c111 (by rw [w]; rfl)
              refine wp_iload_n_3 (pc' := 120) dX8_moved_119 rfl ?_
              refine wp_istore_n_3 (pc' := 121) dX8_moved_120 (by decide) rfl rfl ?_
              refine wp_iload_n_2 (pc' := 122) dX8_moved_121 rfl ?_
              refine wp_iload_7 (pc' := 124) dX8_moved_122 rfl ?_
              refine wp_if_eq (pc' := 127) (tgt := 131) dX8_moved_124 rfl rfl (fun c124 => by exfalso; exact absurd c124 (by decide)) (fun c124 => ?_)
              refine wp_iconst (pc' := 128) (1) dX8_moved_127 rfl (by decide) ?_
              refine wp_goto (tgt := 132) dX8_moved_128 rfl ?_
              refine wp_iadd (pc' := 133) dX8_moved_132 rfl ?_
              refine wp_istore_n_2 (pc' := 134) dX8_moved_133 (by decide) rfl rfl ?_
              refine wp_iinc_4 (pc' := 137) (v := nI (c + 1)) dX8_moved_134 (by first | rfl | exact nI_1 _) (by decide) rfl rfl ?_
              refine wp_goto (tgt := 20) dX8_moved_137 rfl ?_
              have e : cdB R C ρ c = true := by rw [cd, l0.mp c87]; rfl
              have z := ih (c + 1) (by omega) _ (some (.int (nI (c / 16)))) (some (.int (nI (c % 16)))) (some (.int 1)) f3 nr3
              obtain ⟨z0, hz0⟩ : ∃ z0, ffO (cdB R C ρ) c 0 = some z0 := by
                cases e5 : ffO (cdB R C ρ) c 0 with
                | none => exact absurd ((ffO_cn _ _).mp e5) hne
                | some z0 => exact ⟨z0, rfl⟩
              rw [cnB_s, e, show one true = 1 from rfl, ← nI_1 (cnB (cdB R C ρ) c), ffO_snoc, hz0] at z
              rw [hz0]
              exact z
            · skip -- 111 not taken
              have hz : cnB (cdB R C ρ) c = 0 := (nI_eq (by omega) (by omega)).mp (show nI (cnB (cdB R C ρ) c) = nI 0 from c111)
              refine wp_iload_4 (pc' := 116) dX8_moved_114 rfl ?_
              refine wp_goto (tgt := 120) dX8_moved_116 rfl ?_
              refine wp_istore_n_3 (pc' := 121) dX8_moved_120 (by decide) rfl rfl ?_
              refine wp_iload_n_2 (pc' := 122) dX8_moved_121 rfl ?_
              refine wp_iload_7 (pc' := 124) dX8_moved_122 rfl ?_
              refine wp_if_eq (pc' := 127) (tgt := 131) dX8_moved_124 rfl rfl (fun c124 => by exfalso; exact absurd c124 (by decide)) (fun c124 => ?_)
              refine wp_iconst (pc' := 128) (1) dX8_moved_127 rfl (by decide) ?_
              refine wp_goto (tgt := 132) dX8_moved_128 rfl ?_
              refine wp_iadd (pc' := 133) dX8_moved_132 rfl ?_
              refine wp_istore_n_2 (pc' := 134) dX8_moved_133 (by decide) rfl rfl ?_
              refine wp_iinc_4 (pc' := 137) (v := nI (c + 1)) dX8_moved_134 (by first | rfl | exact nI_1 _) (by decide) rfl rfl ?_
              refine wp_goto (tgt := 20) dX8_moved_137 rfl ?_
              have e : cdB R C ρ c = true := by rw [cd, l0.mp c87]; rfl
              have z := ih (c + 1) (by omega) _ (some (.int (nI (c / 16)))) (some (.int (nI (c % 16)))) (some (.int 1)) f3 nr3
              rw [cnB_s, e, show one true = 1 from rfl, ← nI_1 (cnB (cdB R C ρ) c), ffO_snoc, (ffO_cn _ _).mpr hz, Nat.zero_add] at z
              simp only [e, if_true] at z
              exact z
theorem c_X8_moved (hn : 105 ≤ n) (X : MI h σ) (t : Int32) : Ctr l D cy B yX8_moved wsX8_moved rmX8_moved 0 0 n (rf0 π) h lg [.ref (B + 89), .int t] (ZQ π h (aMoved σ t) σ) := by
  obtain ⟨T, q, hm, ok, nr, xp, xk⟩ := id X
  cases e : ix t 2 with
  | none =>
    rw [show aMoved σ t = -1 by simp only [aMoved, e]]
    refine Ctr.of (cc := cX8_moved) (nL := 8) (own := RX8) (rt := (some .int)) (ls := [some (.ref (B + 89)), some (.int t), none, none, none, none, none, none]) (by decide) rfl rfl (Nat.le_of_ble_eq_true rfl) rfl ?_
    refine wp_iload_n_1 (pc' := 1) dX8_moved_0 rfl ?_
    refine wp_i2l (pc' := 2) dX8_moved_1 rfl ?_
    refine wp_lconst (pc' := 3) (0) dX8_moved_2 rfl (by decide) ?_
    refine wp_lconst (pc' := 4) (1) dX8_moved_3 rfl (by decide) ?_
    refine wp_callSu (pc' := 7) (c_in_rg t (lo := 0) (hi := 1) (by omega) (by omega)) gX8_moved_X8_in rfl rfl hz_X8_in ⟨Nat.le_of_ble_eq_true rfl, Nat.le_of_ble_eq_true rfl⟩ ⟨rfl, rfl⟩ (Nat.le_of_ble_eq_true rfl) ⟨Nat.le_of_ble_eq_true rfl, Nat.le_of_ble_eq_true rfl⟩ rfl dX8_moved_4 rfl ?_
    rw [rg_ix, e]
    refine wp_if_ne (pc' := 10) (tgt := 12) dX8_moved_7 rfl rfl (fun c7 => by exfalso; exact c7 rfl) (fun c7 => ?_)
    refine wp_iconst (pc' := 11) (-1) dX8_moved_10 rfl (by decide) ?_
    refine wp_ireturn dX8_moved_11 rfl rfl (Nat.le_refl _) (Nat.le_refl _) ?_
    exact ZQ.id rfl X
  | some b =>
    have ht : t = 0 ∨ t = 1 := by rcases ix2 e with z | z; exact Or.inl z.1; exact Or.inr z.1
    have b0 : t = 0 → aMoved σ t = nI (cnB (cdB σ.R σ.C σ.ρ) 256) := by
      rintro rfl
      rcases ix2 e with ⟨_, rfl⟩ | ⟨z, _⟩
      · simp only [aMoved, e]
      · exact absurd z (by decide)
    have b1 : t = 1 → aMoved σ t = enc (ffO (cdB σ.R σ.C σ.ρ) 256 0) := by
      rintro rfl
      rcases ix2 e with ⟨z, _⟩ | ⟨_, rfl⟩
      · exact absurd z (by decide)
      · simp only [aMoved, e]
    refine Ctr.of (cc := cX8_moved) (nL := 8) (own := RX8) (rt := (some .int)) (ls := [some (.ref (B + 89)), some (.int t), none, none, none, none, none, none]) (by decide) rfl rfl (Nat.le_of_ble_eq_true rfl) rfl ?_
    refine wp_iload_n_1 (pc' := 1) dX8_moved_0 rfl ?_
    refine wp_i2l (pc' := 2) dX8_moved_1 rfl ?_
    refine wp_lconst (pc' := 3) (0) dX8_moved_2 rfl (by decide) ?_
    refine wp_lconst (pc' := 4) (1) dX8_moved_3 rfl (by decide) ?_
    refine wp_callSu (pc' := 7) (c_in_rg t (lo := 0) (hi := 1) (by omega) (by omega)) gX8_moved_X8_in rfl rfl hz_X8_in ⟨Nat.le_of_ble_eq_true rfl, Nat.le_of_ble_eq_true rfl⟩ ⟨rfl, rfl⟩ (Nat.le_of_ble_eq_true rfl) ⟨Nat.le_of_ble_eq_true rfl, Nat.le_of_ble_eq_true rfl⟩ rfl dX8_moved_4 rfl ?_
    rw [rg_ix, e]
    refine wp_if_ne (pc' := 10) (tgt := 12) dX8_moved_7 rfl rfl (fun c7 => ?_) (fun c7 => by exfalso; exact absurd c7 bS)
    refine wp_iconst (pc' := 13) (0) dX8_moved_12 rfl (by decide) ?_
    refine wp_istore_n_2 (pc' := 14) dX8_moved_13 (by decide) rfl rfl ?_
    refine wp_bipush (pc' := 16) (-4) dX8_moved_14 rfl (by decide) ?_
    refine wp_istore_n_3 (pc' := 17) dX8_moved_16 (by decide) rfl rfl ?_
    refine wp_iconst (pc' := 18) (0) dX8_moved_17 rfl (by decide) ?_
    refine wp_istore_4 (pc' := 20) dX8_moved_18 (by decide) rfl rfl ?_
    exact lp_X8_moved hn h q ok ht (fun w h' f nr' => ZQ.mg (b0 w).symm X f nr') (fun w h' f nr' => ZQ.mg (b1 w).symm X f nr') 256 0 (by omega) h _ _ _ (MG.rf h) nr
def nbS (R C : Nat) (ρ : Nat → Nat) (w k : Nat) : Nat → Bool := fun y => paB R C ρ ρ w 0 y || anyB k (fun c => decide (c % 16 = y) && onB R C ρ ρ w (c / 16) y)
theorem nbS_no {R C w k : Nat} {ρ : Nat → Nat} (h : onB R C ρ ρ w (k / 16) (k % 16) = false) (y : Nat) : nbS R C ρ w k y = nbS R C ρ w (k + 1) y := by
  unfold nbS
  rw [anyB_succ]
  by_cases e : k % 16 = y
  · subst e; rw [h]; simp
  · rw [decide_eq_false e]; simp
theorem nbS_yes {R C w k : Nat} {ρ : Nat → Nat} (h : onB R C ρ ρ w (k / 16) (k % 16) = true) (y : Nat) : (nbS R C ρ w k y || decide (y = k % 16)) = nbS R C ρ w (k + 1) y := by
  unfold nbS
  rw [anyB_succ, Bool.or_assoc]
  by_cases e : k % 16 = y
  · subst e; rw [h]; simp
  · rw [decide_eq_false e, decide_eq_false (fun z => e z.symm)]; rfl
theorem nbS_end {R C w : Nat} {ρ : Nat → Nat} {y : Nat} (hy : y < 16) : nbS R C ρ w (16 * sw ρ w) y = paB R C ρ ρ (w + 1) 0 y := by
  rw [← paB_w]
  unfold nbS paB
  rw [show anyB 0 (fun j => onB R C ρ ρ w j y) = false from rfl, Bool.or_false]
  congr 1
  rw [Bool.eq_iff_iff, anyB_iff, anyB_iff]
  constructor
  · rintro ⟨c, h1, h2⟩
    rw [Bool.and_eq_true] at h2
    exact ⟨c / 16, by omega, h2.2⟩
  · rintro ⟨i, h1, h2⟩
    exact ⟨16 * i + y, by omega, by rw [show (16 * i + y) % 16 = y by omega, show (16 * i + y) / 16 = i by omega, h2]; simp⟩
theorem cb_b {κ R C : Nat} (h : R * C ≤ 16) (mk t : Nat → Nat) (s : Nat) {j x : Nat} (hj : j < 5) : cb κ R C mk t s j x < 2 ^ 31 := by
  have z := cb_le (κ := κ) h mk t s j x
  have : 16 ^ j ≤ 16 ^ 4 := Nat.pow_le_pow_right (by decide) (by omega)
  omega
theorem lpi_X8_nobody {R C w : Nat} {ρ : Nat → Nat} {post : PO} (hn : 105 ≤ n) (q : ShM h R C) (ok : RowOK ρ) (hw : w < ρ 16) (tk : TK h (kw ρ w) (sw ρ w) (tm ρ w))
    (on : ∀ k x, k < sw ρ w → x < R * C → h 99 (16 * k + x) = nI (cb (kw ρ w) R C ρ (tm ρ w) (sw ρ w) (sw ρ w - 1 - k) x))
    (to : ∀ k x, k < sw ρ w → x < R * C → h 100 (16 * k + x) = nI (cf (kw ρ w) R C ρ (tm ρ w) (fun _ => true) k x))
    (K : ∀ a3 a4, WP l D cy B cX8_nobody 5 RX8 wsX8_nobody rmX8_nobody (some .int) (QE0 D cy B n 0 0 (post)) EX0 n (rf0 π) h lg 0 0 103 [some (.ref (B + 89)), some (.int (S (paB R C ρ ρ (w + 1) 0))), some (.int (nI w)), a3, a4] []) :
    ∀ d k : Nat, k + d = 16 * sw ρ w → ∀ a4, WP l D cy B cX8_nobody 5 RX8 wsX8_nobody rmX8_nobody (some .int) (QE0 D cy B n 0 0 (post)) EX0 n (rf0 π) h lg 0 0 32 [some (.ref (B + 89)), some (.int (S (nbS R C ρ w k))), some (.int (nI w)), some (.int (nI k)), a4] [] := by
  have hl := q.1.le
  obtain ⟨w5, hk3, hs2, hs5⟩ := ok.w hw
  intro d
  induction d with
  | zero =>
    intro k hk a4
    have : k = 16 * sw ρ w := by omega
    subst this
    rw [S_ext (f := nbS R C ρ w (16 * sw ρ w)) (g := paB R C ρ ρ (w + 1) 0) (fun y hy => nbS_end hy)]
    refine wp_iload_n_3 (pc' := 33) dX8_nobody_32 rfl ?_
    refine wp_bipush (pc' := 35) (16) dX8_nobody_33 rfl (by decide) ?_
    refine wp_aload_n_0 (pc' := 36) dX8_nobody_35 rfl ?_
    refine wp_get_8_14 (pc' := 39) (by omega) rfl me_X8_nobody_0 ic_X8_nobody_8 dX8_nobody_36 rfl ?_
    rw [tk.2.1]
    refine wp_imul (pc' := 40) dX8_nobody_39 rfl ?_
    rw [show (16 : Int32) = nI 16 from rfl, nI_mul]
    refine wp_icmp_ge (pc' := 43) (tgt := 103) dX8_nobody_40 rfl rfl (fun c40 => ?_) (fun c40 => by exfalso; exact c40 (nI_le (Nat.le_refl _) (by omega)))
    exact K _ _
  | succ d ih =>
    intro k hk a4
    have no : onB R C ρ ρ w (k / 16) (k % 16) = false → ∀ b4, WP l D cy B cX8_nobody 5 RX8 wsX8_nobody rmX8_nobody (some .int) (QE0 D cy B n 0 0 (post)) EX0 n (rf0 π) h lg 0 0 32 [some (.ref (B + 89)), some (.int (S (nbS R C ρ w k) ||| 0)), some (.int (nI w)), some (.int (nI (k + 1))), b4] [] := by
      intro e b4
      have z := ih (k + 1) (by omega) b4
      rw [S_ext (f := nbS R C ρ w (k + 1)) (g := nbS R C ρ w k) (fun y _ => (nbS_no e y).symm)] at z
      rw [show S (nbS R C ρ w k) ||| 0 = S (nbS R C ρ w k) by simp]
      exact z
    have k5 : k / 16 < sw ρ w := by omega
    have kd : k = 16 * (k / 16) + k % 16 := by omega
    refine wp_iload_n_3 (pc' := 33) dX8_nobody_32 rfl ?_
    refine wp_bipush (pc' := 35) (16) dX8_nobody_33 rfl (by decide) ?_
    refine wp_aload_n_0 (pc' := 36) dX8_nobody_35 rfl ?_
    refine wp_get_8_14 (pc' := 39) (by omega) rfl me_X8_nobody_0 ic_X8_nobody_8 dX8_nobody_36 rfl ?_
    rw [tk.2.1]
    refine wp_imul (pc' := 40) dX8_nobody_39 rfl ?_
    rw [show (16 : Int32) = nI 16 from rfl, nI_mul]
    refine wp_icmp_ge (pc' := 43) (tgt := 103) dX8_nobody_40 rfl rfl (fun c40 => by exfalso; exact nI_ge (by omega) (by omega) c40) (fun c40 => ?_)
    refine wp_iload_n_3 (pc' := 44) dX8_nobody_43 rfl ?_
    refine wp_bipush (pc' := 46) (16) dX8_nobody_44 rfl (by decide) ?_
    refine wp_irem (pc' := 47) dX8_nobody_46 rfl (by decide) ?_
    rw [show (16 : Int32) = nI 16 from rfl, pk_rem (by omega) (by omega) (by omega)]
    refine wp_aload_n_0 (pc' := 48) dX8_nobody_47 rfl ?_
    refine wp_callVu (pc' := 51) (c_X8_places hn q) gX8_nobody_X8_places rfl rfl hy_X8_places ⟨Nat.le_of_ble_eq_true rfl, Nat.le_of_ble_eq_true rfl⟩ ⟨rfl, rfl⟩ (Nat.le_of_ble_eq_true rfl) ⟨Nat.le_of_ble_eq_true rfl, Nat.le_of_ble_eq_true rfl⟩ (by omega) (ce8 rfl) rfl rfl dX8_nobody_48 rfl ?_
    refine wp_icmp_ge (pc' := 54) (tgt := 76) dX8_nobody_51 rfl rfl (fun c51 => ?_) (fun c51 => ?_)
    · skip -- 51 taken
      have e51 : ¬ k % 16 < R * C := fun z => nI_ge z (by omega) c51
      refine wp_iconst (pc' := 77) (0) dX8_nobody_76 rfl (by decide) ?_
      refine wp_istore_4 (pc' := 79) dX8_nobody_77 (by decide) rfl rfl ?_
      refine wp_iload_n_1 (pc' := 80) dX8_nobody_79 rfl ?_
      refine wp_iload_4 (pc' := 82) dX8_nobody_80 rfl ?_
      refine wp_if_eq (pc' := 85) (tgt := 94) dX8_nobody_82 rfl rfl (fun c82 => ?_) (fun c82 => by exfalso; exact c82 rfl)
      refine wp_iconst (pc' := 95) (0) dX8_nobody_94 rfl (by decide) ?_
      refine wp_ior (pc' := 96) dX8_nobody_95 rfl ?_
      first | rw [S_or] | skip
      refine wp_istore_n_1 (pc' := 97) dX8_nobody_96 (by decide) rfl rfl ?_
      refine wp_iinc_3 (pc' := 100) (v := nI (k + 1)) dX8_nobody_97 (by first | rfl | exact nI_1 _) (by decide) rfl rfl ?_
      refine wp_goto (tgt := 32) dX8_nobody_100 rfl ?_
      refine no ?_ _
      unfold onB
      rw [fw_sup (kw ρ w) R C ρ (tm ρ w) (fun _ => true) (k / 16) (k % 16) (by omega)]; rfl
    · skip -- 51 not taken
      have hx : k % 16 < R * C := by
        apply Classical.byContradiction
        intro z
        exact c51 (nI_le (by omega) (by omega))
      have on1 := on (k / 16) (k % 16) k5 hx
      have to1 := to (k / 16) (k % 16) k5 hx
      rw [← kd] at on1 to1
      have b1 := cb_b (κ := kw ρ w) hl ρ (tm ρ w) (sw ρ w) (j := sw ρ w - 1 - k / 16) (x := k % 16) (by omega)
      have b2 := cf_b (κ := kw ρ w) hl ρ (tm ρ w) (fun _ => true) (i := k / 16) (x := k % 16) (by omega)
      refine wp_aload_n_0 (pc' := 55) dX8_nobody_54 rfl ?_
      refine wp_get_8_16 (pc' := 58) (by omega) rfl rfl me_X8_nobody_1 ic_X8_nobody_8 dX8_nobody_55 rfl ?_
      refine wp_iload_n_3 (pc' := 59) dX8_nobody_58 rfl ?_
      refine wp_iald (pc' := 60) (N := 80) (by omega) rfl rfl (by first | exact vp_in_nI (by omega) (by omega) | assumption | (unfold vp_in; decide)) dX8_nobody_59 rfl ?_
      rw [nI_clamp (by omega), on1]
      refine wp_if_le (pc' := 63) (tgt := 76) dX8_nobody_60 rfl rfl (fun c60 => ?_) (fun c60 => ?_)
      · skip -- 60 taken
        refine wp_iconst (pc' := 77) (0) dX8_nobody_76 rfl (by decide) ?_
        refine wp_istore_4 (pc' := 79) dX8_nobody_77 (by decide) rfl rfl ?_
        refine wp_iload_n_1 (pc' := 80) dX8_nobody_79 rfl ?_
        refine wp_iload_4 (pc' := 82) dX8_nobody_80 rfl ?_
        refine wp_if_eq (pc' := 85) (tgt := 94) dX8_nobody_82 rfl rfl (fun c82 => ?_) (fun c82 => by exfalso; exact c82 rfl)
        refine wp_iconst (pc' := 95) (0) dX8_nobody_94 rfl (by decide) ?_
        refine wp_ior (pc' := 96) dX8_nobody_95 rfl ?_
        first | rw [S_or] | skip
        refine wp_istore_n_1 (pc' := 97) dX8_nobody_96 (by decide) rfl rfl ?_
        refine wp_iinc_3 (pc' := 100) (v := nI (k + 1)) dX8_nobody_97 (by first | rfl | exact nI_1 _) (by decide) rfl rfl ?_
        refine wp_goto (tgt := 32) dX8_nobody_100 rfl ?_
        refine no ?_ _
        unfold onB
        rw [Bool.and_eq_false_iff]
        right
        rw [Bool.eq_false_iff, ne_eq, bw_iff]
        intro z
        exact nI_nle z b1 c60
      · skip -- 60 not taken
        refine wp_aload_n_0 (pc' := 64) dX8_nobody_63 rfl ?_
        refine wp_get_8_17 (pc' := 67) (by omega) rfl rfl me_X8_nobody_2 ic_X8_nobody_8 dX8_nobody_64 rfl ?_
        refine wp_iload_n_3 (pc' := 68) dX8_nobody_67 rfl ?_
        refine wp_iald (pc' := 69) (N := 80) (by omega) rfl rfl (by first | exact vp_in_nI (by omega) (by omega) | assumption | (unfold vp_in; decide)) dX8_nobody_68 rfl ?_
        rw [nI_clamp (by omega), to1]
        refine wp_if_le (pc' := 72) (tgt := 76) dX8_nobody_69 rfl rfl (fun c69 => ?_) (fun c69 => ?_)
        · skip -- 69 taken
          refine wp_iconst (pc' := 77) (0) dX8_nobody_76 rfl (by decide) ?_
          refine wp_istore_4 (pc' := 79) dX8_nobody_77 (by decide) rfl rfl ?_
          refine wp_iload_n_1 (pc' := 80) dX8_nobody_79 rfl ?_
          refine wp_iload_4 (pc' := 82) dX8_nobody_80 rfl ?_
          refine wp_if_eq (pc' := 85) (tgt := 94) dX8_nobody_82 rfl rfl (fun c82 => ?_) (fun c82 => by exfalso; exact c82 rfl)
          refine wp_iconst (pc' := 95) (0) dX8_nobody_94 rfl (by decide) ?_
          refine wp_ior (pc' := 96) dX8_nobody_95 rfl ?_
          first | rw [S_or] | skip
          refine wp_istore_n_1 (pc' := 97) dX8_nobody_96 (by decide) rfl rfl ?_
          refine wp_iinc_3 (pc' := 100) (v := nI (k + 1)) dX8_nobody_97 (by first | rfl | exact nI_1 _) (by decide) rfl rfl ?_
          refine wp_goto (tgt := 32) dX8_nobody_100 rfl ?_
          refine no ?_ _
          unfold onB
          rw [Bool.and_eq_false_iff]
          left
          rw [Bool.eq_false_iff, ne_eq, fw_iff]
          intro z
          exact nI_nle z b2 c69
        · skip -- 69 not taken
          refine wp_iconst (pc' := 73) (1) dX8_nobody_72 rfl (by decide) ?_
          refine wp_goto (tgt := 77) dX8_nobody_73 rfl ?_
          refine wp_istore_4 (pc' := 79) dX8_nobody_77 (by decide) rfl rfl ?_
          refine wp_iload_n_1 (pc' := 80) dX8_nobody_79 rfl ?_
          refine wp_iload_4 (pc' := 82) dX8_nobody_80 rfl ?_
          refine wp_if_eq (pc' := 85) (tgt := 94) dX8_nobody_82 rfl rfl (fun c82 => by exfalso; exact absurd c82 (by decide)) (fun c82 => ?_)
          refine wp_iconst (pc' := 86) (1) dX8_nobody_85 rfl (by decide) ?_
          refine wp_iload_n_3 (pc' := 87) dX8_nobody_86 rfl ?_
          refine wp_bipush (pc' := 89) (16) dX8_nobody_87 rfl (by decide) ?_
          refine wp_irem (pc' := 90) dX8_nobody_89 rfl (by decide) ?_
          rw [show (16 : Int32) = nI 16 from rfl, pk_rem (by omega) (by omega) (by omega)]
          refine wp_ishl (pc' := 91) dX8_nobody_90 rfl ?_
          rw [S_one (by omega)]
          refine wp_goto (tgt := 95) dX8_nobody_91 rfl ?_
          refine wp_ior (pc' := 96) dX8_nobody_95 rfl ?_
          first | rw [S_or] | skip
          refine wp_istore_n_1 (pc' := 97) dX8_nobody_96 (by decide) rfl rfl ?_
          refine wp_iinc_3 (pc' := 100) (v := nI (k + 1)) dX8_nobody_97 (by first | rfl | exact nI_1 _) (by decide) rfl rfl ?_
          refine wp_goto (tgt := 32) dX8_nobody_100 rfl ?_
          have e : onB R C ρ ρ w (k / 16) (k % 16) = true := by
            unfold onB
            rw [Bool.and_eq_true, fw_iff, bw_iff]
            constructor
            · rcases Nat.eq_zero_or_pos (cf (kw ρ w) R C ρ (tm ρ w) (fun _ => true) (k / 16) (k % 16)) with v | v
              · exfalso; rw [v] at c69; exact c69 (by decide)
              · exact v
            · rcases Nat.eq_zero_or_pos (cb (kw ρ w) R C ρ (tm ρ w) (sw ρ w) (sw ρ w - 1 - k / 16) (k % 16)) with v | v
              · exfalso; rw [v] at c60; exact c60 (by decide)
              · exact v
          have z := ih (k + 1) (by omega) (some (.int 1))
          rw [S_ext (f := nbS R C ρ w (k + 1)) (g := fun y => nbS R C ρ w k y || decide (y = k % 16)) (fun y _ => (nbS_yes e y).symm)] at z
          exact z
theorem lp_X8_nobody {R C : Nat} {ρ : Nat → Nat} {post : PO} (hn : 105 ≤ n) (H0 : Hp) (q0 : ShM H0 R C) (nr0 : NR H0 93 ρ) (ok : RowOK ρ)
    (K : ∀ h', MF h' H0 → post (some (.int (S (fun i => decide (i < R * C) && !paB R C ρ ρ (ρ 16) 0 i)))) (rf0 π) h' lg) :
    ∀ d w : Nat, w + d = ρ 16 → ∀ h' a3 a4, MF h' H0 → WP l D cy B cX8_nobody 5 RX8 wsX8_nobody rmX8_nobody (some .int) (QE0 D cy B n 0 0 (post)) EX0 n (rf0 π) h' lg 0 0 4 [some (.ref (B + 89)), some (.int (S (paB R C ρ ρ w 0))), some (.int (nI w)), a3, a4] [] := by
  have hl := q0.1.le
  have hp := q0.1.pos
  have h5 := ok.2.1
  intro d
  induction d with
  | zero =>
    intro w hw h' a3 a4 f
    have : w = ρ 16 := by omega
    subst this
    have q := f.sh q0
    have nr := f.nr nr0
    have sh := (shp_ok R (by have := q0.1; unfold Sh at this; omega) C (by have := q0.1; unfold Sh at this; omega) q0.1.1 q0.1.2.2.1).1
    rw [nI_mul] at sh
    refine wp_iload_n_2 (pc' := 5) dX8_nobody_4 rfl ?_
    refine wp_aload_n_0 (pc' := 6) dX8_nobody_5 rfl ?_
    refine wp_get_8_4 (pc' := 9) (by omega) rfl rfl me_X8_nobody_3 ic_X8_nobody_8 dX8_nobody_6 rfl ?_
    refine wp_bipush (pc' := 11) (16) dX8_nobody_9 rfl (by decide) ?_
    refine wp_iald (pc' := 12) (N := 52) (by omega) rfl rfl (by first | exact vp_in_nI (by omega) (by omega) | assumption | (unfold vp_in; decide)) dX8_nobody_11 rfl ?_
    rw [show (16 : Int32).toNatClampNeg = 16 from rfl, nr 16 (by omega)]
    refine wp_icmp_ge (pc' := 15) (tgt := 109) dX8_nobody_12 rfl rfl (fun c12 => ?_) (fun c12 => by exfalso; exact c12 (nI_le (Nat.le_refl _) (by omega)))
    refine wp_iconst (pc' := 110) (1) dX8_nobody_109 rfl (by decide) ?_
    refine wp_aload_n_0 (pc' := 111) dX8_nobody_110 rfl ?_
    refine wp_callVu (pc' := 114) (c_X8_places hn q) gX8_nobody_X8_places rfl rfl hy_X8_places ⟨Nat.le_of_ble_eq_true rfl, Nat.le_of_ble_eq_true rfl⟩ ⟨rfl, rfl⟩ (Nat.le_of_ble_eq_true rfl) ⟨Nat.le_of_ble_eq_true rfl, Nat.le_of_ble_eq_true rfl⟩ (by omega) (ce8 rfl) rfl rfl dX8_nobody_111 rfl ?_
    refine wp_ishl (pc' := 115) dX8_nobody_114 rfl ?_
    refine wp_iconst (pc' := 116) (1) dX8_nobody_115 rfl (by decide) ?_
    refine wp_isub (pc' := 117) dX8_nobody_116 rfl ?_
    rw [sh]
    refine wp_iload_n_1 (pc' := 118) dX8_nobody_117 rfl ?_
    refine wp_iconst (pc' := 119) (-1) dX8_nobody_118 rfl (by decide) ?_
    refine wp_ixor (pc' := 120) dX8_nobody_119 rfl ?_
    refine wp_iand (pc' := 121) dX8_nobody_120 rfl ?_
    rw [S_andnot]
    refine wp_ireturn dX8_nobody_121 rfl rfl (Nat.le_refl _) (Nat.le_refl _) ?_
    exact K h' f
  | succ d ih =>
    intro w hwd h' a3 a4 f
    have q := f.sh q0
    have nr := f.nr nr0
    have hw : w < ρ 16 := by omega
    obtain ⟨w5, hk3, hs2, hs5⟩ := ok.w hw
    refine wp_iload_n_2 (pc' := 5) dX8_nobody_4 rfl ?_
    refine wp_aload_n_0 (pc' := 6) dX8_nobody_5 rfl ?_
    refine wp_get_8_4 (pc' := 9) (by omega) rfl rfl me_X8_nobody_3 ic_X8_nobody_8 dX8_nobody_6 rfl ?_
    refine wp_bipush (pc' := 11) (16) dX8_nobody_9 rfl (by decide) ?_
    refine wp_iald (pc' := 12) (N := 52) (by omega) rfl rfl (by first | exact vp_in_nI (by omega) (by omega) | assumption | (unfold vp_in; decide)) dX8_nobody_11 rfl ?_
    rw [show (16 : Int32).toNatClampNeg = 16 from rfl, nr 16 (by omega)]
    refine wp_icmp_ge (pc' := 15) (tgt := 109) dX8_nobody_12 rfl rfl (fun c12 => by exfalso; exact nI_ge (by omega) (by omega) c12) (fun c12 => ?_)
    refine wp_aload_n_0 (pc' := 16) dX8_nobody_15 rfl ?_
    refine wp_iload_n_2 (pc' := 17) dX8_nobody_16 rfl ?_
    refine wp_callVv (pc' := 20) (c_X8_take hn nr ok hw) gX8_nobody_X8_take rfl rfl hy_X8_take ⟨Nat.le_of_ble_eq_true rfl, Nat.le_of_ble_eq_true rfl⟩ ⟨rfl, rfl⟩ (Nat.le_of_ble_eq_true rfl) ⟨Nat.le_of_ble_eq_true rfl, Nat.le_of_ble_eq_true rfl⟩ (by omega) (ce8 rfl) rfl rfl dX8_nobody_17 rfl (fun h17 q17 => ?_)
    refine wp_aload_n_0 (pc' := 21) dX8_nobody_20 rfl ?_
    refine wp_callVv (pc' := 24) (c_X8_countOnward hn (q17.1.sh q) q17.2 (q17.1.nr nr) hk3 hs5 ok.1 (fun i hi => tm_le ok hw hi)) gX8_nobody_X8_countOnward rfl rfl hy_X8_countOnward ⟨Nat.le_of_ble_eq_true rfl, Nat.le_of_ble_eq_true rfl⟩ ⟨rfl, rfl⟩ (Nat.le_of_ble_eq_true rfl) ⟨Nat.le_of_ble_eq_true rfl, Nat.le_of_ble_eq_true rfl⟩ (by omega) (ce8 rfl) rfl rfl dX8_nobody_21 rfl (fun h21 q21 => ?_)
    obtain ⟨g0, g1⟩ := q21
    have f2 : MF h21 h' := MF.tr (MF.hi (fun a ha => g0 a (by omega))) q17.1
    have tk2 := q17.2.of (g0 89 (by decide)) (g0 98 (by decide))
    refine wp_aload_n_0 (pc' := 25) dX8_nobody_24 rfl ?_
    refine wp_bipush (pc' := 27) (-4) dX8_nobody_25 rfl (by decide) ?_
    refine wp_callVv (pc' := 30) (c_X8_countToward (f0 := fun _ => true) hn (f2.sh q) tk2 (f2.nr nr) hk3 hs5 ok.1 (fun i hi => tm_le ok hw hi) (fun y _ => ⟨fun _ => Or.inl (by decide), fun _ => rfl⟩)) gX8_nobody_X8_countToward rfl rfl hy_X8_countToward ⟨Nat.le_of_ble_eq_true rfl, Nat.le_of_ble_eq_true rfl⟩ ⟨rfl, rfl⟩ (Nat.le_of_ble_eq_true rfl) ⟨Nat.le_of_ble_eq_true rfl, Nat.le_of_ble_eq_true rfl⟩ (by omega) (ce8 rfl) rfl rfl dX8_nobody_27 rfl (fun h27 q27 => ?_)
    obtain ⟨g2, g3⟩ := q27
    have f3 : MF h27 h' := MF.tr (MF.hi (fun a ha => g2 a (by omega))) f2
    have tk3 := tk2.of (g2 89 (by decide)) (g2 98 (by decide))
    refine wp_iconst (pc' := 31) (0) dX8_nobody_30 rfl (by decide) ?_
    rw [S_ext (f := paB R C ρ ρ w 0) (g := nbS R C ρ w 0) (fun y _ => by unfold nbS; rw [show anyB 0 (fun c => decide (c % 16 = y) && onB R C ρ ρ w (c / 16) y) = false from rfl, Bool.or_false])]
    refine wp_istore_n_3 (pc' := 32) dX8_nobody_31 (by decide) rfl rfl ?_
    refine lpi_X8_nobody hn (f3.sh q) ok hw tk3 (fun k x z1 z2 => by rw [g2 99 (by decide)]; exact g1 k x z1 z2) g3 (fun b3 b4 => ?_) (16 * sw ρ w) 0 (by omega) _
    refine wp_iinc_2 (pc' := 106) (v := nI (w + 1)) dX8_nobody_103 (by first | rfl | exact nI_1 _) (by decide) rfl rfl ?_
    refine wp_goto (tgt := 4) dX8_nobody_106 rfl ?_
    exact ih (w + 1) (by omega) _ _ _ (f3.tr f)
theorem c_X8_nobody (hn : 105 ≤ n) (X : MI h σ) : Ctr l D cy B yX8_nobody wsX8_nobody rmX8_nobody 0 0 n (rf0 π) h lg [.ref (B + 89)] (ZQ π h (aNobody σ) σ) := by
  obtain ⟨T, q, hm, ok, nr, xp, xk⟩ := id X
  refine Ctr.of (cc := cX8_nobody) (nL := 5) (own := RX8) (rt := (some .int)) (ls := [some (.ref (B + 89)), none, none, none, none]) (by decide) rfl rfl (Nat.le_of_ble_eq_true rfl) rfl ?_
  refine wp_iconst (pc' := 1) (0) dX8_nobody_0 rfl (by decide) ?_
  rw [show ([Value.int 0] : List Value) = [Value.int (S (paB σ.R σ.C σ.ρ σ.ρ 0 0))] by rw [← S_zero]; rw [S_ext (f := fun _ => false) (g := paB σ.R σ.C σ.ρ σ.ρ 0 0) (fun i _ => by simp [paB, anyB])]]
  refine wp_istore_n_1 (pc' := 2) dX8_nobody_1 (by decide) rfl rfl ?_
  refine wp_iconst (pc' := 3) (0) dX8_nobody_2 rfl (by decide) ?_
  refine wp_istore_n_2 (pc' := 4) dX8_nobody_3 (by decide) rfl rfl ?_
  exact lp_X8_nobody hn h q nr ok (fun h' f => ZQ.mf rfl X f) (σ.ρ 16) 0 (by omega) h _ _ (MF.rf h)
end VM6

