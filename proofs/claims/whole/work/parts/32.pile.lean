abbrev rmX2_turnOldestUp : Room := { frames := 0, cells := 0, slots := 0, locals := 0 }
theorem hy_X2_turnOldestUp : yX2_turnOldestUp.cls = RX2 ∧ yX2_turnOldestUp.cls ≠ "java/lang/invoke/MethodHandle" ∧ yX2_turnOldestUp.cls ≠ "java/lang/invoke/VarHandle" ∧ (parseMethodDescriptor yX2_turnOldestUp.desc).map (fun d => d.parameters.length) = some 0 := by decide +kernel
theorem hz_X2_turnOldestUp : yX2_turnOldestUp.cls ≠ "java/lang/invoke/MethodHandle" ∧ yX2_turnOldestUp.cls ≠ "java/lang/invoke/VarHandle" ∧ (parseMethodDescriptor yX2_turnOldestUp.desc).map (fun d => d.parameters.length) = some 0 := by decide +kernel
abbrev rmX5_drop : Room := { frames := 0, cells := 0, slots := 0, locals := 0 }
theorem hy_X5_drop : yX5_drop.cls = RX5 ∧ yX5_drop.cls ≠ "java/lang/invoke/MethodHandle" ∧ yX5_drop.cls ≠ "java/lang/invoke/VarHandle" ∧ (parseMethodDescriptor yX5_drop.desc).map (fun d => d.parameters.length) = some 1 := by decide +kernel
theorem hz_X5_drop : yX5_drop.cls ≠ "java/lang/invoke/MethodHandle" ∧ yX5_drop.cls ≠ "java/lang/invoke/VarHandle" ∧ (parseMethodDescriptor yX5_drop.desc).map (fun d => d.parameters.length) = some 1 := by decide +kernel
theorem me_X5_drop_0 : Cond.fieldLink RX5 21 "DrawnByLost$Story" "told" "[I" ∈ wsX5_drop := by decide +kernel
theorem me_X5_drop_1 : Cond.fieldLink RX5 24 "DrawnByLost$Story" "walks" "I" ∈ wsX5_drop := by decide +kernel
theorem me_X5_drop_2 : Cond.fieldLink RX5 15 "DrawnByLost$Story" "kinds" "[I" ∈ wsX5_drop := by decide +kernel
theorem me_X5_drop_3 : Cond.fieldLink RX5 18 "DrawnByLost$Story" "sizes" "[I" ∈ wsX5_drop := by decide +kernel
theorem me_X2_turnOldestUp_0 : Cond.fieldLink RX2 15 "DrawnByLost$Pile" "stories" "[LDrawnByLost$Story;" ∈ wsX2_turnOldestUp := by decide +kernel
theorem ic_X5_drop_5 : ∀ w ∈ wsX50, w ∈ wsX5_drop := by decide +kernel
theorem ic_X2_turnOldestUp_2 : ∀ w ∈ wsX20, w ∈ wsX2_turnOldestUp := by decide +kernel
-- Story.drop and the piles
section VPL
variable {l : Launch} {D : va_G} {cy : CY} {B n : Nat} {h : Hp} {lg : Lg} {π : Nat → Nat}
theorem nI_pred' {a : Nat} (h : 1 ≤ a) : nI a - 1 = nI (a - 1) := by
  rw [← nI_lit1, nI_sub h]
def dropR (ρ : Nat → Nat) (w : Nat) : Nat → Nat := fun i => if i = 16 then ρ 16 - 1 else if 17 + 7 * w ≤ i ∧ i < 52 then (if i + 7 < 52 then ρ (i + 7) else 0) else ρ i
theorem dropR_lo {ρ : Nat → Nat} {w i : Nat} (hi : i < 16) : dropR ρ w i = ρ i := by
  unfold dropR; rw [if_neg (by omega), if_neg (by omega)]
theorem dropR_16 {ρ : Nat → Nat} {w : Nat} : dropR ρ w 16 = ρ 16 - 1 := rfl
theorem dropR_f {ρ : Nat → Nat} {w v f : Nat} (hv : v + 1 < 5) (hf : f < 7) : dropR ρ w (17 + 7 * v + f) = if w ≤ v then ρ (17 + 7 * (v + 1) + f) else ρ (17 + 7 * v + f) := by
  unfold dropR
  rw [if_neg (by omega)]
  by_cases q : w ≤ v
  · rw [if_pos (by omega), if_pos (by omega), if_pos q]; congr 1; omega
  · rw [if_neg (by omega), if_neg q]
theorem dropR_ok {ρ : Nat → Nat} {w : Nat} (ok : RowOK ρ) : RowOK (dropR ρ w) := by
  obtain ⟨o1, o2, o3⟩ := ok
  refine ⟨fun i hi => by rw [dropR_lo hi]; exact o1 i hi, by rw [dropR_16]; omega, fun v hv => ?_⟩
  rw [dropR_16] at hv
  have e0 := dropR_f (ρ := ρ) (w := w) (v := v) (f := 0) (by omega) (by omega)
  have e1 := dropR_f (ρ := ρ) (w := w) (v := v) (f := 1) (by omega) (by omega)
  rw [show 17 + 7 * v + 1 = 18 + 7 * v by omega, show 17 + 7 * (v + 1) + 1 = 18 + 7 * (v + 1) by omega] at e1
  rw [Nat.add_zero, Nat.add_zero] at e0
  rw [e0, e1]
  by_cases q : w ≤ v
  · obtain ⟨p1, p2, p3, p4⟩ := o3 (v + 1) (by omega)
    rw [if_pos q, if_pos q]
    refine ⟨p1, p2, p3, fun j hj => ?_⟩
    have := dropR_f (ρ := ρ) (w := w) (v := v) (f := 2 + j) (by omega) (by omega)
    rw [if_pos q, show 17 + 7 * v + (2 + j) = 19 + 7 * v + j by omega, show 17 + 7 * (v + 1) + (2 + j) = 19 + 7 * (v + 1) + j by omega] at this
    rw [this]; exact p4 j hj
  · obtain ⟨p1, p2, p3, p4⟩ := o3 v (by omega)
    rw [if_neg q, if_neg q]
    refine ⟨p1, p2, p3, fun j hj => ?_⟩
    have := dropR_f (ρ := ρ) (w := w) (v := v) (f := 2 + j) (by omega) (by omega)
    rw [if_neg q, show 17 + 7 * v + (2 + j) = 19 + 7 * v + j by omega] at this
    rw [this]; exact p4 j hj
def DKS (k w t : Nat) (H h' : Hp) : Prop := (∀ a, a ≠ k + 2 → a ≠ k + 3 → a ≠ k + 4 → h' a = H a) ∧ (∀ v, h' (k + 2) v = if w ≤ v ∧ v < t then H (k + 2) (v + 1) else H (k + 2) v) ∧ (∀ v, h' (k + 3) v = if w ≤ v ∧ v < t then H (k + 3) (v + 1) else H (k + 3) v)
def DTO (k w t j : Nat) (H h' : Hp) : Prop := ∀ v i, i < 5 → h' (k + 4) (5 * v + i) = if (w ≤ v ∧ v < t) ∨ (v = t ∧ i < j) then H (k + 4) (5 * (v + 1) + i) else H (k + 4) (5 * v + i)
theorem lp_X5_drop_in {k w t : Nat} {post : PO} (hn : 89 ≤ n) (hs : St k) (hwt : w ≤ t) (ht : t + 1 < 5) (H : Hp)
    (K : ∀ h', DKS k w (t + 1) H h' → DTO k w t 5 H h' → ∀ a, WP l D cy B cX5_drop 4 RX5 wsX5_drop rmX5_drop none (QE0 D cy B n 0 0 (post)) EX0 n (rf0 π) h' lg 0 0 95 [some (.ref (B + k)), some (.int (nI w)), some (.int (nI t)), a] []) :
    ∀ d j : Nat, j + d = 5 → ∀ h', DKS k w (t + 1) H h' → DTO k w t j H h' → WP l D cy B cX5_drop 4 RX5 wsX5_drop rmX5_drop none (QE0 D cy B n 0 0 (post)) EX0 n (rf0 π) h' lg 0 0 62 [some (.ref (B + k)), some (.int (nI w)), some (.int (nI t)), some (.int (nI j))] [] := by
  intro d
  induction d with
  | zero =>
    intro j hj h' e0 e1
    have : j = 5 := by omega
    subst this
    refine wp_iload_n_3 (pc' := 63) dX5_drop_62 rfl ?_
    refine wp_iconst (pc' := 64) (5) dX5_drop_63 rfl (by decide) ?_
    refine wp_icmp_ge (pc' := 67) (tgt := 95) dX5_drop_64 rfl rfl (fun c64 => ?_) (fun c64 => by exfalso; exact c64 (by decide))
    exact K h' e0 e1 _
  | succ d ih =>
    intro j hj h' e0 e1
    refine wp_iload_n_3 (pc' := 63) dX5_drop_62 rfl ?_
    refine wp_iconst (pc' := 64) (5) dX5_drop_63 rfl (by decide) ?_
    refine wp_icmp_ge (pc' := 67) (tgt := 95) dX5_drop_64 rfl rfl (fun c64 => by exfalso; (simp (disch := omega) only [Int32.lt_iff_toInt_lt, Int32.le_iff_toInt_le, ← Int32.toInt_inj, nI_toInt, il_0, il_1, il_2, il_3, il_4, il_5, il_6, il_8, il_9, il_10, il_16, il_26, il_32, il_40, il_n4, il_n1, il_n2, il_11, il_48, il_57, il_59, il_44, il_126, il_200, il_9999, il_66666, il_10000, il_1000000, il_15, il_12, il_256, il_4096, il_53, il_52] at c64; omega)) (fun c64 => ?_)
    refine wp_aload_n_0 (pc' := 68) dX5_drop_67 rfl ?_
    refine wp_get_5_3 (pc' := 71) (hs.lt hn) hs.K (hs.r3) me_X5_drop_0 ic_X5_drop_5 dX5_drop_68 rfl ?_
    refine wp_iload_n_2 (pc' := 72) dX5_drop_71 rfl ?_
    refine wp_iconst (pc' := 73) (5) dX5_drop_72 rfl (by decide) ?_
    refine wp_imul (pc' := 74) dX5_drop_73 rfl ?_
    refine wp_iload_n_3 (pc' := 75) dX5_drop_74 rfl ?_
    refine wp_iadd (pc' := 76) dX5_drop_75 rfl ?_
    rw [nI_5w]
    refine wp_aload_n_0 (pc' := 77) dX5_drop_76 rfl ?_
    refine wp_get_5_3 (pc' := 80) (hs.lt hn) hs.K (hs.r3) me_X5_drop_0 ic_X5_drop_5 dX5_drop_77 rfl ?_
    refine wp_iload_n_2 (pc' := 81) dX5_drop_80 rfl ?_
    refine wp_iconst (pc' := 82) (1) dX5_drop_81 rfl (by decide) ?_
    refine wp_iadd (pc' := 83) dX5_drop_82 rfl ?_
    rw [nI_1]
    refine wp_iconst (pc' := 84) (5) dX5_drop_83 rfl (by decide) ?_
    refine wp_imul (pc' := 85) dX5_drop_84 rfl ?_
    refine wp_iload_n_3 (pc' := 86) dX5_drop_85 rfl ?_
    refine wp_iadd (pc' := 87) dX5_drop_86 rfl ?_
    rw [nI_5w]
    refine wp_iald (pc' := 88) (N := 25) (hs.lt4 hn) hs.K4 hs.ln4 (by first | exact vp_in_nI (by omega) (by omega) | assumption | (unfold vp_in; decide)) dX5_drop_87 rfl ?_
    refine wp_iast (pc' := 89) (N := 25) (hs.lt4 hn) hs.K4 hs.ln4 (by first | exact vp_in_nI (by omega) (by omega) | assumption | (unfold vp_in; decide)) dX5_drop_88 rfl ?_
    refine wp_iinc_3 (pc' := 92) (v := nI (j + 1)) dX5_drop_89 (by first | rfl | exact nI_1 _) (by decide) rfl rfl ?_
    refine wp_goto (tgt := 62) dX5_drop_92 rfl ?_
    rw [nI_clamp (by omega), nI_clamp (by omega)]
    obtain ⟨f0, f1, f2⟩ := e0
    refine ih (j + 1) (by omega) _ ⟨fun a h2 h3 h4 => by rw [hup_cell h4]; exact f0 a h2 h3 h4, fun v => by rw [hup_cell (by omega)]; exact f1 v, fun v => by rw [hup_cell (by omega)]; exact f2 v⟩ (fun v i hi => ?_)
    by_cases e : 5 * v + i = 5 * t + j
    · have ev : v = t := by omega
      have ei : i = j := by omega
      subst ev; subst ei
      rw [hup_at, if_pos (Or.inr ⟨rfl, by omega⟩), e1 (v + 1) i hi, if_neg (by omega)]
    · rw [hup_off e, e1 v i hi]
      by_cases q : (w ≤ v ∧ v < t) ∨ (v = t ∧ i < j)
      · rw [if_pos q, if_pos (by omega)]
      · rw [if_neg q, if_neg (by omega)]
theorem lp_X5_drop {k w W : Nat} {post : PO} (hn : 89 ≤ n) (hs : St k) (hW5 : W ≤ 5) (hw : w < W) (H : Hp) (hW : H k 4 = nI W)
    (K : ∀ h', DKS k w (W - 1) H h' → DTO k w (W - 1) 0 H h' → ∀ a b, WP l D cy B cX5_drop 4 RX5 wsX5_drop rmX5_drop none (QE0 D cy B n 0 0 (post)) EX0 n (rf0 π) h' lg 0 0 101 [some (.ref (B + k)), some (.int (nI w)), a, b] []) :
    ∀ d t : Nat, t + 1 + d = W → w ≤ t → ∀ h', DKS k w t H h' → DTO k w t 0 H h' → ∀ b, WP l D cy B cX5_drop 4 RX5 wsX5_drop rmX5_drop none (QE0 D cy B n 0 0 (post)) EX0 n (rf0 π) h' lg 0 0 15 [some (.ref (B + k)), some (.int (nI w)), some (.int (nI t)), b] [] := by
  intro d
  induction d with
  | zero =>
    intro t ht hwt h' e0 e1 b
    have : t = W - 1 := by omega
    subst this
    refine wp_iload_n_2 (pc' := 16) dX5_drop_15 rfl ?_
    refine wp_iconst (pc' := 17) (1) dX5_drop_16 rfl (by decide) ?_
    refine wp_iadd (pc' := 18) dX5_drop_17 rfl ?_
    rw [nI_1]
    refine wp_aload_n_0 (pc' := 19) dX5_drop_18 rfl ?_
    refine wp_get_5_4 (pc' := 22) (hs.lt hn) hs.K me_X5_drop_1 ic_X5_drop_5 dX5_drop_19 rfl ?_
    rw [e0.1 k (by omega) (by omega) (by omega), hW]
    refine wp_icmp_ge (pc' := 25) (tgt := 101) dX5_drop_22 rfl rfl (fun c22 => ?_) (fun c22 => by exfalso; (simp (disch := omega) only [Int32.lt_iff_toInt_lt, Int32.le_iff_toInt_le, ← Int32.toInt_inj, nI_toInt, il_0, il_1, il_2, il_3, il_4, il_5, il_6, il_8, il_9, il_10, il_16, il_26, il_32, il_40, il_n4, il_n1, il_n2, il_11, il_48, il_57, il_59, il_44, il_126, il_200, il_9999, il_66666, il_10000, il_1000000, il_15, il_12, il_256, il_4096, il_53, il_52] at c22; omega))
    exact K h' e0 e1 _ _
  | succ d ih =>
    intro t ht hwt h' e0 e1 b
    have K2 : ∀ h2, DKS k w (t + 1) H h2 → DTO k w t 5 H h2 → ∀ a, WP l D cy B cX5_drop 4 RX5 wsX5_drop rmX5_drop none (QE0 D cy B n 0 0 (post)) EX0 n (rf0 π) h2 lg 0 0 95 [some (.ref (B + k)), some (.int (nI w)), some (.int (nI t)), a] [] := by
      intro h2 g0 g1 a
      refine wp_iinc_2 (pc' := 98) (v := nI (t + 1)) dX5_drop_95 (by first | rfl | exact nI_1 _) (by decide) rfl rfl ?_
      refine wp_goto (tgt := 15) dX5_drop_98 rfl ?_
      refine ih (t + 1) (by omega) (by omega) h2 g0 (fun v i hi => ?_) _
      rw [g1 v i hi]
      by_cases q : (w ≤ v ∧ v < t) ∨ (v = t ∧ i < 5)
      · rw [if_pos q, if_pos (by omega)]
      · rw [if_neg q, if_neg (by omega)]
    refine wp_iload_n_2 (pc' := 16) dX5_drop_15 rfl ?_
    refine wp_iconst (pc' := 17) (1) dX5_drop_16 rfl (by decide) ?_
    refine wp_iadd (pc' := 18) dX5_drop_17 rfl ?_
    rw [nI_1]
    refine wp_aload_n_0 (pc' := 19) dX5_drop_18 rfl ?_
    refine wp_get_5_4 (pc' := 22) (hs.lt hn) hs.K me_X5_drop_1 ic_X5_drop_5 dX5_drop_19 rfl ?_
    rw [e0.1 k (by omega) (by omega) (by omega), hW]
    refine wp_icmp_ge (pc' := 25) (tgt := 101) dX5_drop_22 rfl rfl (fun c22 => by exfalso; (simp (disch := omega) only [Int32.lt_iff_toInt_lt, Int32.le_iff_toInt_le, ← Int32.toInt_inj, nI_toInt, il_0, il_1, il_2, il_3, il_4, il_5, il_6, il_8, il_9, il_10, il_16, il_26, il_32, il_40, il_n4, il_n1, il_n2, il_11, il_48, il_57, il_59, il_44, il_126, il_200, il_9999, il_66666, il_10000, il_1000000, il_15, il_12, il_256, il_4096, il_53, il_52] at c22; omega)) (fun c22 => ?_)
    refine wp_iload_n_2 (pc' := 26) dX5_drop_25 rfl ?_
    refine wp_iconst (pc' := 27) (1) dX5_drop_26 rfl (by decide) ?_
    refine wp_iadd (pc' := 28) dX5_drop_27 rfl ?_
    rw [nI_1]
    refine wp_iconst (pc' := 29) (5) dX5_drop_28 rfl (by decide) ?_
    refine wp_icmp_ge (pc' := 32) (tgt := 101) dX5_drop_29 rfl rfl (fun c29 => by exfalso; (simp (disch := omega) only [Int32.lt_iff_toInt_lt, Int32.le_iff_toInt_le, ← Int32.toInt_inj, nI_toInt, il_0, il_1, il_2, il_3, il_4, il_5, il_6, il_8, il_9, il_10, il_16, il_26, il_32, il_40, il_n4, il_n1, il_n2, il_11, il_48, il_57, il_59, il_44, il_126, il_200, il_9999, il_66666, il_10000, il_1000000, il_15, il_12, il_256, il_4096, il_53, il_52] at c29; omega)) (fun c29 => ?_)
    refine wp_aload_n_0 (pc' := 33) dX5_drop_32 rfl ?_
    refine wp_get_5_1 (pc' := 36) (hs.lt hn) hs.K (hs.r1) me_X5_drop_2 ic_X5_drop_5 dX5_drop_33 rfl ?_
    refine wp_iload_n_2 (pc' := 37) dX5_drop_36 rfl ?_
    refine wp_aload_n_0 (pc' := 38) dX5_drop_37 rfl ?_
    refine wp_get_5_1 (pc' := 41) (hs.lt hn) hs.K (hs.r1) me_X5_drop_2 ic_X5_drop_5 dX5_drop_38 rfl ?_
    refine wp_iload_n_2 (pc' := 42) dX5_drop_41 rfl ?_
    refine wp_iconst (pc' := 43) (1) dX5_drop_42 rfl (by decide) ?_
    refine wp_iadd (pc' := 44) dX5_drop_43 rfl ?_
    rw [nI_1]
    refine wp_iald (pc' := 45) (N := 5) (hs.lt2 hn) hs.K2 hs.ln2 (by first | exact vp_in_nI (by omega) (by omega) | assumption | (unfold vp_in; decide)) dX5_drop_44 rfl ?_
    refine wp_iast (pc' := 46) (N := 5) (hs.lt2 hn) hs.K2 hs.ln2 (by first | exact vp_in_nI (by omega) (by omega) | assumption | (unfold vp_in; decide)) dX5_drop_45 rfl ?_
    refine wp_aload_n_0 (pc' := 47) dX5_drop_46 rfl ?_
    refine wp_get_5_2 (pc' := 50) (hs.lt hn) hs.K (hs.r2) me_X5_drop_3 ic_X5_drop_5 dX5_drop_47 rfl ?_
    refine wp_iload_n_2 (pc' := 51) dX5_drop_50 rfl ?_
    refine wp_aload_n_0 (pc' := 52) dX5_drop_51 rfl ?_
    refine wp_get_5_2 (pc' := 55) (hs.lt hn) hs.K (hs.r2) me_X5_drop_3 ic_X5_drop_5 dX5_drop_52 rfl ?_
    refine wp_iload_n_2 (pc' := 56) dX5_drop_55 rfl ?_
    refine wp_iconst (pc' := 57) (1) dX5_drop_56 rfl (by decide) ?_
    refine wp_iadd (pc' := 58) dX5_drop_57 rfl ?_
    rw [nI_1]
    refine wp_iald (pc' := 59) (N := 5) (hs.lt3 hn) hs.K3 hs.ln3 (by first | exact vp_in_nI (by omega) (by omega) | assumption | (unfold vp_in; decide)) dX5_drop_58 rfl ?_
    refine wp_iast (pc' := 60) (N := 5) (hs.lt3 hn) hs.K3 hs.ln3 (by first | exact vp_in_nI (by omega) (by omega) | assumption | (unfold vp_in; decide)) dX5_drop_59 rfl ?_
    refine wp_iconst (pc' := 61) (0) dX5_drop_60 rfl (by decide) ?_
    refine wp_istore_n_3 (pc' := 62) dX5_drop_61 (by decide) rfl rfl ?_
    rw [nI_clamp (by omega), nI_clamp (by omega)]
    obtain ⟨f0, f1, f2⟩ := e0
    rw [hup_cell (by omega : k + 3 ≠ k + 2), f1 (t + 1), f2 (t + 1), if_neg (by omega), if_neg (by omega)]
    refine lp_X5_drop_in hn hs hwt (by omega) H K2 5 0 (by omega) _ ⟨fun a h2 h3 h4 => by rw [hup_cell h3, hup_cell h2]; exact f0 a h2 h3 h4, fun v => ?_, fun v => ?_⟩ (fun v i hi => ?_)
    · rw [hup_cell (by omega)]
      by_cases e : v = t
      · subst e; rw [hup_at, if_pos (by omega)]
      · rw [hup_off e, f1 v]
        by_cases q : w ≤ v ∧ v < t
        · rw [if_pos q, if_pos (by omega)]
        · rw [if_neg q, if_neg (by omega)]
    · by_cases e : v = t
      · subst e; rw [hup_at, if_pos (by omega)]
      · rw [hup_off e, hup_cell (by omega), f2 v]
        by_cases q : w ≤ v ∧ v < t
        · rw [if_pos q, if_pos (by omega)]
        · rw [if_neg q, if_neg (by omega)]
    · rw [hup_cell (by omega), hup_cell (by omega)]
      exact e1 v i hi
theorem c_X5_drop {k w : Nat} {ρ : Nat → Nat} (hn : 89 ≤ n) (hs : St k) (ok : RowOK ρ) (hX : XR h k ρ) (hw : w < ρ 16) : Ctr l D cy B yX5_drop wsX5_drop rmX5_drop 0 0 n (rf0 π) h lg [.ref (B + k), .int (nI w)] (qV (fun h' => (∀ a, a < k ∨ k + 4 < a → h' a = h a) ∧ XR h' k (dropR ρ w)) (rf0 π) lg) := by
  have hW5 := ok.2.1
  refine Ctr.of (cc := cX5_drop) (nL := 4) (own := RX5) (rt := none) (ls := [some (.ref (B + k)), some (.int (nI w)), none, none]) (by decide) rfl rfl (Nat.le_of_ble_eq_true rfl) rfl ?_
  refine wp_iload_n_1 (pc' := 1) dX5_drop_0 rfl ?_
  refine wp_if_lt (pc' := 4) (tgt := 12) dX5_drop_1 rfl rfl (fun c1 => by exfalso; exact absurd c1 (nI_pos (by omega))) (fun c1 => ?_)
  refine wp_iload_n_1 (pc' := 5) dX5_drop_4 rfl ?_
  refine wp_aload_n_0 (pc' := 6) dX5_drop_5 rfl ?_
  refine wp_get_5_4 (pc' := 9) (hs.lt hn) hs.K me_X5_drop_1 ic_X5_drop_5 dX5_drop_6 rfl ?_
  rw [hX.2.1]
  refine wp_icmp_lt (pc' := 12) (tgt := 13) dX5_drop_9 rfl rfl (fun c9 => ?_) (fun c9 => by exfalso; (simp (disch := omega) only [Int32.lt_iff_toInt_lt, Int32.le_iff_toInt_le, ← Int32.toInt_inj, nI_toInt, il_0, il_1, il_2, il_3, il_4, il_5, il_6, il_8, il_9, il_10, il_16, il_26, il_32, il_40, il_n4, il_n1, il_n2, il_11, il_48, il_57, il_59, il_44, il_126, il_200, il_9999, il_66666, il_10000, il_1000000, il_15, il_12, il_256, il_4096, il_53, il_52] at c9; omega))
  refine wp_iload_n_1 (pc' := 14) dX5_drop_13 rfl ?_
  refine wp_istore_n_2 (pc' := 15) dX5_drop_14 (by decide) rfl rfl ?_
  refine lp_X5_drop hn hs hW5 hw h hX.2.1 (fun h' e0 e1 a b => ?_) (ρ 16 - 1 - w) w (by omega) (by omega) h ⟨fun _ _ _ _ => rfl, fun v => (if_neg (by omega)).symm, fun v => (if_neg (by omega)).symm⟩ (fun v i hi => (if_neg (by omega)).symm) _
  refine wp_aload_n_0 (pc' := 102) dX5_drop_101 rfl ?_
  refine wp_dup (pc' := 103) dX5_drop_102 rfl rfl ?_
  refine wp_get_5_4 (pc' := 106) (hs.lt hn) hs.K me_X5_drop_1 ic_X5_drop_5 dX5_drop_103 rfl ?_
  rw [e0.1 k (by omega) (by omega) (by omega), hX.2.1]
  refine wp_iconst (pc' := 107) (1) dX5_drop_106 rfl (by decide) ?_
  refine wp_isub (pc' := 108) dX5_drop_107 rfl ?_
  rw [nI_pred' (by omega)]
  refine wp_put_5_4 (pc' := 111) (hs.lt hn) hs.K me_X5_drop_1 ic_X5_drop_5 dX5_drop_108 rfl ?_
  refine wp_return dX5_drop_111 rfl rfl (Nat.le_refl _) (Nat.le_refl _) ?_
  obtain ⟨f0, f1, f2⟩ := e0
  obtain ⟨x1, x2, x3⟩ := hX
  refine qV_of ⟨fun a ha => by rw [hup_cell (by omega)]; exact f0 a (by omega) (by omega) (by omega), fun i hi => ?_, by rw [hup_at]; rfl, fun v hv => ?_⟩
  · rw [hup_cell (by omega), f0 (k + 1) (by omega) (by omega) (by omega), dropR_lo hi]; exact x1 i hi
  · rw [dropR_16] at hv
    have g0 := dropR_f (ρ := ρ) (w := w) (v := v) (f := 0) (by omega) (by omega)
    have g1 := dropR_f (ρ := ρ) (w := w) (v := v) (f := 1) (by omega) (by omega)
    rw [show 17 + 7 * v + 1 = 18 + 7 * v by omega, show 17 + 7 * (v + 1) + 1 = 18 + 7 * (v + 1) by omega] at g1
    rw [Nat.add_zero, Nat.add_zero] at g0
    have gj : ∀ j, j < 5 → dropR ρ w (19 + 7 * v + j) = if w ≤ v then ρ (19 + 7 * (v + 1) + j) else ρ (19 + 7 * v + j) := by
      intro j hj
      have := dropR_f (ρ := ρ) (w := w) (v := v) (f := 2 + j) (by omega) (by omega)
      rwa [show 17 + 7 * v + (2 + j) = 19 + 7 * v + j by omega, show 17 + 7 * (v + 1) + (2 + j) = 19 + 7 * (v + 1) + j by omega] at this
    rw [g0, g1, hup_cell (by omega), hup_cell (by omega), hup_cell (by omega), f1 v, f2 v]
    by_cases q : w ≤ v
    · rw [if_pos q, if_pos q, if_pos ⟨q, by omega⟩, if_pos ⟨q, by omega⟩]
      obtain ⟨p1, p2, p3⟩ := x3 (v + 1) (by omega)
      refine ⟨p1, p2, fun j hj => ?_⟩
      have j5 : j < 5 := Nat.lt_of_lt_of_le hj ((ok.2.2 (v + 1) (by omega)).2.2.1)
      rw [e1 v j j5, if_pos (by omega), gj j j5, if_pos q]; exact p3 j hj
    · rw [if_neg q, if_neg q, if_neg (by omega), if_neg (by omega)]
      obtain ⟨p1, p2, p3⟩ := x3 v (by omega)
      refine ⟨p1, p2, fun j hj => ?_⟩
      have j5 : j < 5 := Nat.lt_of_lt_of_le hj ((ok.2.2 v (by omega)).2.2.1)
      rw [e1 v j j5, if_neg (by omega), gj j j5, if_neg q]; exact p3 j hj
-- piles
theorem hup_same (h : Hp) (k i : Nat) : hup h k i (h k i) = h := by
  funext a
  by_cases e : a = k
  · subst e; funext j; by_cases q : j = i
    · subst q; rw [hup_at]
    · rw [hup_off q]
  · rw [hup_cell e]
theorem rup_rf0 {π : Nat → Nat} {i j : Nat} (hi : i < 8) : rup (rf0 π) 29 i (some j) = rf0 (fun q => if q = i then j else π q) := by
  funext a b
  by_cases e : a = 29
  · subst e
    by_cases q : b = i
    · subst q; rw [rup_at]; simp [rf0, hi]
    · rw [rup_off q]; simp [rf0, q]
  · rw [rup_cell e]; simp [rf0, e]
theorem rf0_at {π : Nat → Nat} {i : Nat} (hi : i < 8) : rf0 π 29 i = some (π i) := by simp [rf0, hi]
def turnI (π : Nat → Nat) (i : Nat) : Nat → Nat := fun q => if q + 1 < i then π (q + 1) else π q
def turn (π : Nat → Nat) : Nat → Nat := fun q => if q = 7 then π 0 else if q < 7 then π (q + 1) else π q
theorem turnI_St {π : Nat → Nat} (hπ : ∀ i, i < 8 → St (π i)) {i q : Nat} (hi : i ≤ 8) (hq : q < 8) : St (turnI π i q) := by
  unfold turnI; split
  · exact hπ _ (by omega)
  · exact hπ _ hq
theorem turn_St {π : Nat → Nat} (hπ : ∀ i, i < 8 → St (π i)) {q : Nat} (hq : q < 8) : St (turn π q) := by
  unfold turn; split
  · exact hπ _ (by omega)
  · split
    · exact hπ _ (by omega)
    · exact hπ _ hq
theorem turnI_1 (π : Nat → Nat) : turnI π 1 = π := by funext q; simp [turnI]
theorem turnI_step {π : Nat → Nat} {i : Nat} (hi : 1 ≤ i) : (fun q => if q = i - 1 then turnI π i i else turnI π i q) = turnI π (i + 1) := by
  funext q
  unfold turnI
  by_cases e : q = i - 1
  · rw [if_pos e, if_neg (by omega), if_pos (by omega)]; congr 1; omega
  · rw [if_neg e]
    by_cases z : q + 1 < i
    · rw [if_pos z, if_pos (by omega)]
    · rw [if_neg z, if_neg (by omega)]
theorem turnI_end {π : Nat → Nat} : (fun q => if q = 7 then π 0 else turnI π 8 q) = turn π := by
  funext q
  unfold turnI turn
  by_cases e : q = 7
  · rw [if_pos e, if_pos e]
  · rw [if_neg e, if_neg e]
    by_cases z : q < 7
    · rw [if_pos (by omega), if_pos z]
    · rw [if_neg (by omega), if_neg z]
theorem lp_X2_turn {post : PO} (hn : 89 ≤ n) (hπ : ∀ i, i < 8 → St (π i))
    (K : post none (rf0 (turn π)) h lg) :
    ∀ d i : Nat, i + d = 8 → 1 ≤ i → WP l D cy B cX2_turnOldestUp 3 RX2 wsX2_turnOldestUp rmX2_turnOldestUp none (QE0 D cy B n 0 0 (post)) EX0 n (rf0 (turnI π i)) h lg 0 0 9 [some (.ref (B + 28)), some (.ref (B + π 0)), some (.int (nI i))] [] := by
  intro d
  have h0 := hπ 0 (by omega)
  induction d with
  | zero =>
    intro i hi h1
    have : i = 8 := by omega
    subst this
    refine wp_iload_n_2 (pc' := 10) dX2_turnOldestUp_9 rfl ?_
    refine wp_aload_n_0 (pc' := 11) dX2_turnOldestUp_10 rfl ?_
    refine wp_get_2_0 (pc' := 14) (by omega) rfl rfl me_X2_turnOldestUp_0 ic_X2_turnOldestUp_2 dX2_turnOldestUp_11 rfl ?_
    refine wp_alenq (pc' := 15) (N := 8) (v := 8) (by omega) rfl rfl (by decide) dX2_turnOldestUp_14 rfl ?_
    refine wp_icmp_ge (pc' := 18) (tgt := 38) dX2_turnOldestUp_15 rfl rfl (fun c15 => ?_) (fun c15 => by exfalso; exact c15 (by decide))
    refine wp_aload_n_0 (pc' := 39) dX2_turnOldestUp_38 rfl ?_
    refine wp_get_2_0 (pc' := 42) (by omega) rfl rfl me_X2_turnOldestUp_0 ic_X2_turnOldestUp_2 dX2_turnOldestUp_39 rfl ?_
    refine wp_aload_n_0 (pc' := 43) dX2_turnOldestUp_42 rfl ?_
    refine wp_get_2_0 (pc' := 46) (by omega) rfl rfl me_X2_turnOldestUp_0 ic_X2_turnOldestUp_2 dX2_turnOldestUp_43 rfl ?_
    refine wp_alenq (pc' := 47) (N := 8) (v := 8) (by omega) rfl rfl (by decide) dX2_turnOldestUp_46 rfl ?_
    refine wp_iconst (pc' := 48) (1) dX2_turnOldestUp_47 rfl (by decide) ?_
    refine wp_isub (pc' := 49) dX2_turnOldestUp_48 rfl ?_
    refine wp_aload_n_1 (pc' := 50) dX2_turnOldestUp_49 rfl ?_
    refine wp_aast (pc' := 51) (N := 8) (by omega) rfl (h0.lt (by omega)) h0.K rfl (by first | exact vp_in_nI (by omega) (by omega) | assumption | (unfold vp_in; decide)) dX2_turnOldestUp_50 rfl ?_
    rw [show (8 - 1 : Int32).toNatClampNeg = 7 from by decide, rup_rf0 (by omega), turnI_end]
    refine wp_return dX2_turnOldestUp_51 rfl rfl (Nat.le_refl _) (Nat.le_refl _) ?_
    exact K
  | succ d ih =>
    intro i hi h1
    have hq := turnI_St hπ (i := i) (q := i) (by omega) (by omega)
    refine wp_iload_n_2 (pc' := 10) dX2_turnOldestUp_9 rfl ?_
    refine wp_aload_n_0 (pc' := 11) dX2_turnOldestUp_10 rfl ?_
    refine wp_get_2_0 (pc' := 14) (by omega) rfl rfl me_X2_turnOldestUp_0 ic_X2_turnOldestUp_2 dX2_turnOldestUp_11 rfl ?_
    refine wp_alenq (pc' := 15) (N := 8) (v := 8) (by omega) rfl rfl (by decide) dX2_turnOldestUp_14 rfl ?_
    refine wp_icmp_ge (pc' := 18) (tgt := 38) dX2_turnOldestUp_15 rfl rfl (fun c15 => by exfalso; (simp (disch := omega) only [Int32.lt_iff_toInt_lt, Int32.le_iff_toInt_le, ← Int32.toInt_inj, nI_toInt, il_0, il_1, il_2, il_3, il_4, il_5, il_6, il_8, il_9, il_10, il_16, il_26, il_32, il_40, il_n4, il_n1, il_n2, il_11, il_48, il_57, il_59, il_44, il_126, il_200, il_9999, il_66666, il_10000, il_1000000, il_15, il_12, il_256, il_4096, il_53, il_52] at c15; omega)) (fun c15 => ?_)
    refine wp_aload_n_0 (pc' := 19) dX2_turnOldestUp_18 rfl ?_
    refine wp_get_2_0 (pc' := 22) (by omega) rfl rfl me_X2_turnOldestUp_0 ic_X2_turnOldestUp_2 dX2_turnOldestUp_19 rfl ?_
    refine wp_iload_n_2 (pc' := 23) dX2_turnOldestUp_22 rfl ?_
    refine wp_iconst (pc' := 24) (1) dX2_turnOldestUp_23 rfl (by decide) ?_
    refine wp_isub (pc' := 25) dX2_turnOldestUp_24 rfl ?_
    rw [← nI_lit1, nI_sub h1]
    refine wp_aload_n_0 (pc' := 26) dX2_turnOldestUp_25 rfl ?_
    refine wp_get_2_0 (pc' := 29) (by omega) rfl rfl me_X2_turnOldestUp_0 ic_X2_turnOldestUp_2 dX2_turnOldestUp_26 rfl ?_
    refine wp_iload_n_2 (pc' := 30) dX2_turnOldestUp_29 rfl ?_
    refine wp_aald (pc' := 31) (N := 8) (by omega) rfl rfl (by first | exact vp_in_nI (by omega) (by omega) | assumption | (unfold vp_in; decide)) (by rw [nI_clamp (by omega)]; exact rf0_at (by omega)) dX2_turnOldestUp_30 rfl ?_
    refine wp_aast (pc' := 32) (N := 8) (by omega) rfl (hq.lt (by omega)) hq.K rfl (by first | exact vp_in_nI (by omega) (by omega) | assumption | (unfold vp_in; decide)) dX2_turnOldestUp_31 rfl ?_
    rw [nI_clamp (by omega), rup_rf0 (by omega), turnI_step h1]
    refine wp_iinc_2 (pc' := 35) (v := nI (i + 1)) dX2_turnOldestUp_32 (by first | rfl | exact nI_1 _) (by decide) rfl rfl ?_
    refine wp_goto (tgt := 9) dX2_turnOldestUp_35 rfl ?_
    exact ih (i + 1) (by omega) (by omega)
theorem c_X2_turn (hn : 89 ≤ n) (hπ : ∀ i, i < 8 → St (π i)) : Ctr l D cy B yX2_turnOldestUp wsX2_turnOldestUp rmX2_turnOldestUp 0 0 n (rf0 π) h lg [.ref (B + 28)] (fun v r1 h1 lg1 => v = none ∧ r1 = rf0 (turn π) ∧ h1 = h ∧ lg1 = lg) := by
  have h0 := hπ 0 (by omega)
  refine Ctr.of (cc := cX2_turnOldestUp) (nL := 3) (own := RX2) (rt := none) (ls := [some (.ref (B + 28)), none, none]) (by decide) rfl rfl (Nat.le_of_ble_eq_true rfl) rfl ?_
  refine wp_aload_n_0 (pc' := 1) dX2_turnOldestUp_0 rfl ?_
  refine wp_get_2_0 (pc' := 4) (by omega) rfl rfl me_X2_turnOldestUp_0 ic_X2_turnOldestUp_2 dX2_turnOldestUp_1 rfl ?_
  refine wp_iconst (pc' := 5) (0) dX2_turnOldestUp_4 rfl (by decide) ?_
  refine wp_aald (pc' := 6) (N := 8) (by omega) rfl rfl (by first | exact vp_in_nI (by omega) (by omega) | assumption | (unfold vp_in; decide)) rfl dX2_turnOldestUp_5 rfl ?_
  refine wp_astore_n_1 (pc' := 7) dX2_turnOldestUp_6 (by decide) rfl rfl ?_
  refine wp_iconst (pc' := 8) (1) dX2_turnOldestUp_7 rfl (by decide) ?_
  refine wp_istore_n_2 (pc' := 9) dX2_turnOldestUp_8 (by decide) rfl rfl ?_
  have := lp_X2_turn (l := l) (D := D) (cy := cy) (B := B) (n := n) (h := h) (lg := lg) (π := π) (post := fun v r1 h1 lg1 => v = none ∧ r1 = rf0 (turn π) ∧ h1 = h ∧ lg1 = lg) hn hπ ⟨rfl, rfl, rfl, rfl⟩ 7 1 (by omega) (by omega)
  rw [turnI_1] at this
  exact this
end VPL

