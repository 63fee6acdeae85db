abbrev rmX8_twoFigures : Room := { frames := 1, cells := 0, slots := 0, locals := 25 }
theorem hy_X8_twoFigures : yX8_twoFigures.cls = RX8 ∧ yX8_twoFigures.cls ≠ "java/lang/invoke/MethodHandle" ∧ yX8_twoFigures.cls ≠ "java/lang/invoke/VarHandle" ∧ (parseMethodDescriptor yX8_twoFigures.desc).map (fun d => d.parameters.length) = some 0 := by decide +kernel
theorem hz_X8_twoFigures : yX8_twoFigures.cls ≠ "java/lang/invoke/MethodHandle" ∧ yX8_twoFigures.cls ≠ "java/lang/invoke/VarHandle" ∧ (parseMethodDescriptor yX8_twoFigures.desc).map (fun d => d.parameters.length) = some 0 := by decide +kernel
abbrev rmX8_walkItem : Room := { frames := 1, cells := 0, slots := 0, locals := 26 }
theorem hy_X8_walkItem : yX8_walkItem.cls = RX8 ∧ yX8_walkItem.cls ≠ "java/lang/invoke/MethodHandle" ∧ yX8_walkItem.cls ≠ "java/lang/invoke/VarHandle" ∧ (parseMethodDescriptor yX8_walkItem.desc).map (fun d => d.parameters.length) = some 0 := by decide +kernel
theorem hz_X8_walkItem : yX8_walkItem.cls ≠ "java/lang/invoke/MethodHandle" ∧ yX8_walkItem.cls ≠ "java/lang/invoke/VarHandle" ∧ (parseMethodDescriptor yX8_walkItem.desc).map (fun d => d.parameters.length) = some 0 := by decide +kernel
theorem me_X8_twoFigures_0 : Cond.fieldLink RX8 78 "DrawnByLostModel" "spot" "I" ∈ wsX8_twoFigures := by decide +kernel
theorem me_X8_twoFigures_1 : Cond.constantLong RX8 85 (48) ∈ wsX8_twoFigures := by decide +kernel
theorem me_X8_twoFigures_2 : Cond.constantLong RX8 87 (57) ∈ wsX8_twoFigures := by decide +kernel
theorem me_X8_twoFigures_3 : Cond.constantLong RX8 89 (2) ∈ wsX8_twoFigures := by decide +kernel
theorem me_X8_twoFigures_4 : Cond.fieldLink RX8 31 "DrawnByLostModel" "told" "[I" ∈ wsX8_twoFigures := by decide +kernel
theorem me_X8_walkItem_0 : Cond.fieldLink RX8 78 "DrawnByLostModel" "spot" "I" ∈ wsX8_walkItem := by decide +kernel
theorem me_X8_walkItem_1 : Cond.constantLong RX8 85 (48) ∈ wsX8_walkItem := by decide +kernel
theorem me_X8_walkItem_2 : Cond.constantLong RX8 91 (53) ∈ wsX8_walkItem := by decide +kernel
theorem me_X8_walkItem_3 : Cond.constantLong RX8 93 (3) ∈ wsX8_walkItem := by decide +kernel
theorem me_X8_walkItem_4 : Cond.constantLong RX8 89 (2) ∈ wsX8_walkItem := by decide +kernel
theorem me_X8_walkItem_5 : Cond.constantLong RX8 95 (5) ∈ wsX8_walkItem := by decide +kernel
theorem me_X8_walkItem_6 : Cond.fieldLink RX8 22 "DrawnByLostModel" "read" "[I" ∈ wsX8_walkItem := by decide +kernel
theorem ic_X8_twoFigures_8 : ∀ w ∈ wsX80, w ∈ wsX8_twoFigures := by decide +kernel
theorem ic_X8_walkItem_8 : ∀ w ∈ wsX80, w ∈ wsX8_walkItem := by decide +kernel
-- the reference: two figures, a walk out of the text
section VME
variable {l : Launch} {D : va_G} {cy : CY} {B n : Nat} {h : Hp} {lg : Lg} {π : Nat → Nat} {σ : Sg}
theorem rg_nI {c lo hi : Nat} (hc : c < 2 ^ 31) : rg (nI c) lo hi = if lo ≤ c ∧ c ≤ hi then some c else none := by
  unfold rg
  rw [nI_toInt hc]
  by_cases z : lo ≤ c ∧ c ≤ hi
  · rw [if_pos z, if_pos (by omega)]; simp
  · rw [if_neg z, if_neg (by omega)]
theorem dig_rg {len p : Nat} {tx : Nat → Nat} (hb : ltr len tx p ≤ 126) : (rg (nI (ltr len tx p)) 48 57).isSome = (dig len tx p).isSome := by
  rw [rg_nI (by omega)]
  unfold dig
  split <;> rfl
theorem TM.of {h' : Hp} {len : Nat} {tx : Nat → Nat} (T : TM h len tx) (e0 : h' 89 0 = h 89 0) (e1 : h' 90 = h 90) : TM h' len tx := by
  obtain ⟨a, b, c⟩ := T
  exact ⟨e0.trans a, b, by rw [e1]; exact c⟩
theorem tw_go {len p f v a : Nat} {tx : Nat → Nat} {k : Int32} {post : PO} (hn : 105 ≤ n) (T : TM h len tx) (hp : h 89 10 = nI p) (hp2 : p < 500) (hd : dig len tx p = some a) (hf : f < 3) (hv : v < 1000)
    (K : WP l D cy B cX8_twoFigures 4 RX8 wsX8_twoFigures rmX8_twoFigures (some .boolean) (QE0 D cy B n 0 0 (post)) EX0 n (rf0 π) (hup h 89 10 (nI (p + 1))) lg 0 0 11 [some (.ref (B + 89)), some (.int k), some (.int (nI (f + 1))), some (.int (nI (10 * v + a)))] []) : WP l D cy B cX8_twoFigures 4 RX8 wsX8_twoFigures rmX8_twoFigures (some .boolean) (QE0 D cy B n 0 0 (post)) EX0 n (rf0 π) h lg 0 0 11 [some (.ref (B + 89)), some (.int k), some (.int (nI f)), some (.int (nI v))] [] := by
  have lb := ltr_b (k := p) T
  have ea : 48 ≤ ltr len tx p ∧ a = ltr len tx p - 48 := by
    unfold dig at hd
    split at hd
    · rename_i z; cases hd; exact ⟨z.1, rfl⟩
    · cases hd
  refine wp_aload_n_0 (pc' := 12) dX8_twoFigures_11 rfl ?_
  refine wp_aload_n_0 (pc' := 13) dX8_twoFigures_12 rfl ?_
  refine wp_get_8_10 (pc' := 16) (by omega) rfl me_X8_twoFigures_0 ic_X8_twoFigures_8 dX8_twoFigures_13 rfl ?_
  rw [hp]
  refine wp_callVu (pc' := 19) (c_X8_letterAt hn T (by omega)) gX8_twoFigures_X8_letterAt rfl rfl hy_X8_letterAt ⟨Nat.le_of_ble_eq_true rfl, Nat.le_of_ble_eq_true rfl⟩ ⟨rfl, rfl⟩ (Nat.le_of_ble_eq_true rfl) ⟨Nat.le_of_ble_eq_true rfl, Nat.le_of_ble_eq_true rfl⟩ (by omega) (ce8 rfl) rfl rfl dX8_twoFigures_16 rfl ?_
  refine wp_i2l (pc' := 20) dX8_twoFigures_19 rfl ?_
  refine wp_ldc2 (pc' := 23) (v := (48)) me_X8_twoFigures_1 dX8_twoFigures_20 rfl ?_
  refine wp_ldc2 (pc' := 26) (v := (57)) me_X8_twoFigures_2 dX8_twoFigures_23 rfl ?_
  refine wp_callSu (pc' := 29) (c_in_rg (nI (ltr len tx p)) (lo := 48) (hi := 57) (by omega) (by omega)) gX8_twoFigures_X8_in rfl rfl hz_X8_in ⟨Nat.le_of_ble_eq_true rfl, Nat.le_of_ble_eq_true rfl⟩ ⟨rfl, rfl⟩ (Nat.le_of_ble_eq_true rfl) ⟨Nat.le_of_ble_eq_true rfl, Nat.le_of_ble_eq_true rfl⟩ rfl dX8_twoFigures_26 rfl ?_
  rw [dig_rg lb, hd]
  refine wp_if_eq (pc' := 32) (tgt := 70) dX8_twoFigures_29 rfl rfl (fun c29 => by exfalso; exact absurd c29 bS) (fun c29 => ?_)
  refine wp_iload_n_2 (pc' := 33) dX8_twoFigures_32 rfl ?_
  refine wp_iconst (pc' := 34) (3) dX8_twoFigures_33 rfl (by decide) ?_
  refine wp_icmp_ge (pc' := 37) (tgt := 70) dX8_twoFigures_34 rfl rfl (fun c34 => by exfalso; exact nI_ge (a := f) (b := 3) (by omega) (by omega) c34) (fun c34 => ?_)
  refine wp_bipush (pc' := 39) (10) dX8_twoFigures_37 rfl (by decide) ?_
  refine wp_iload_n_3 (pc' := 40) dX8_twoFigures_39 rfl ?_
  refine wp_imul (pc' := 41) dX8_twoFigures_40 rfl ?_
  rw [show (10 : Int32) = nI 10 from rfl, nI_mul]
  refine wp_aload_n_0 (pc' := 42) dX8_twoFigures_41 rfl ?_
  refine wp_aload_n_0 (pc' := 43) dX8_twoFigures_42 rfl ?_
  refine wp_get_8_10 (pc' := 46) (by omega) rfl me_X8_twoFigures_0 ic_X8_twoFigures_8 dX8_twoFigures_43 rfl ?_
  rw [hp]
  refine wp_callVu (pc' := 49) (c_X8_letterAt hn T (by omega)) gX8_twoFigures_X8_letterAt rfl rfl hy_X8_letterAt ⟨Nat.le_of_ble_eq_true rfl, Nat.le_of_ble_eq_true rfl⟩ ⟨rfl, rfl⟩ (Nat.le_of_ble_eq_true rfl) ⟨Nat.le_of_ble_eq_true rfl, Nat.le_of_ble_eq_true rfl⟩ (by omega) (ce8 rfl) rfl rfl dX8_twoFigures_46 rfl ?_
  refine wp_iadd (pc' := 50) dX8_twoFigures_49 rfl ?_
  rw [nI_add]
  refine wp_bipush (pc' := 52) (48) dX8_twoFigures_50 rfl (by decide) ?_
  refine wp_isub (pc' := 53) dX8_twoFigures_52 rfl ?_
  rw [show (48 : Int32) = nI 48 from rfl, nI_sub (by omega), show 10 * v + ltr len tx p - 48 = 10 * v + a by omega]
  refine wp_istore_n_3 (pc' := 54) dX8_twoFigures_53 (by decide) rfl rfl ?_
  refine wp_iinc_2 (pc' := 57) (v := nI (f + 1)) dX8_twoFigures_54 (by first | rfl | exact nI_1 _) (by decide) rfl rfl ?_
  refine wp_aload_n_0 (pc' := 58) dX8_twoFigures_57 rfl ?_
  refine wp_dup (pc' := 59) dX8_twoFigures_58 rfl rfl ?_
  refine wp_get_8_10 (pc' := 62) (by omega) rfl me_X8_twoFigures_0 ic_X8_twoFigures_8 dX8_twoFigures_59 rfl ?_
  rw [hp]
  refine wp_iconst (pc' := 63) (1) dX8_twoFigures_62 rfl (by decide) ?_
  refine wp_iadd (pc' := 64) dX8_twoFigures_63 rfl ?_
  rw [nI_1]
  refine wp_put_8_10 (pc' := 67) (by omega) rfl me_X8_twoFigures_0 ic_X8_twoFigures_8 dX8_twoFigures_64 rfl ?_
  refine wp_goto (tgt := 11) dX8_twoFigures_67 rfl ?_
  exact K
theorem tw_stop {len p f v : Nat} {tx : Nat → Nat} {k : Int32} {post : PO} (hn : 105 ≤ n) (T : TM h len tx) (hp : h 89 10 = nI p) (hp2 : p < 500) (hd : dig len tx p = none ∨ f = 3)
    (K : WP l D cy B cX8_twoFigures 4 RX8 wsX8_twoFigures rmX8_twoFigures (some .boolean) (QE0 D cy B n 0 0 (post)) EX0 n (rf0 π) h lg 0 0 70 [some (.ref (B + 89)), some (.int k), some (.int (nI f)), some (.int (nI v))] []) : WP l D cy B cX8_twoFigures 4 RX8 wsX8_twoFigures rmX8_twoFigures (some .boolean) (QE0 D cy B n 0 0 (post)) EX0 n (rf0 π) h lg 0 0 11 [some (.ref (B + 89)), some (.int k), some (.int (nI f)), some (.int (nI v))] [] := by
  have lb := ltr_b (k := p) T
  refine wp_aload_n_0 (pc' := 12) dX8_twoFigures_11 rfl ?_
  refine wp_aload_n_0 (pc' := 13) dX8_twoFigures_12 rfl ?_
  refine wp_get_8_10 (pc' := 16) (by omega) rfl me_X8_twoFigures_0 ic_X8_twoFigures_8 dX8_twoFigures_13 rfl ?_
  rw [hp]
  refine wp_callVu (pc' := 19) (c_X8_letterAt hn T (by omega)) gX8_twoFigures_X8_letterAt rfl rfl hy_X8_letterAt ⟨Nat.le_of_ble_eq_true rfl, Nat.le_of_ble_eq_true rfl⟩ ⟨rfl, rfl⟩ (Nat.le_of_ble_eq_true rfl) ⟨Nat.le_of_ble_eq_true rfl, Nat.le_of_ble_eq_true rfl⟩ (by omega) (ce8 rfl) rfl rfl dX8_twoFigures_16 rfl ?_
  refine wp_i2l (pc' := 20) dX8_twoFigures_19 rfl ?_
  refine wp_ldc2 (pc' := 23) (v := (48)) me_X8_twoFigures_1 dX8_twoFigures_20 rfl ?_
  refine wp_ldc2 (pc' := 26) (v := (57)) me_X8_twoFigures_2 dX8_twoFigures_23 rfl ?_
  refine wp_callSu (pc' := 29) (c_in_rg (nI (ltr len tx p)) (lo := 48) (hi := 57) (by omega) (by omega)) gX8_twoFigures_X8_in rfl rfl hz_X8_in ⟨Nat.le_of_ble_eq_true rfl, Nat.le_of_ble_eq_true rfl⟩ ⟨rfl, rfl⟩ (Nat.le_of_ble_eq_true rfl) ⟨Nat.le_of_ble_eq_true rfl, Nat.le_of_ble_eq_true rfl⟩ rfl dX8_twoFigures_26 rfl ?_
  rw [dig_rg lb]
  refine wp_if_eq (pc' := 32) (tgt := 70) dX8_twoFigures_29 rfl rfl (fun c29 => ?_) (fun c29 => ?_)
  · skip -- 29 taken
    exact K
  · skip -- 29 not taken
    refine wp_iload_n_2 (pc' := 33) dX8_twoFigures_32 rfl ?_
    refine wp_iconst (pc' := 34) (3) dX8_twoFigures_33 rfl (by decide) ?_
    refine wp_icmp_ge (pc' := 37) (tgt := 70) dX8_twoFigures_34 rfl rfl (fun c34 => ?_) (fun c34 => by exfalso; rcases hd with z | z; (rw [z] at c29; exact c29 rfl); (rw [z] at c34; exact c34 (by decide)))
    exact K
def twQ (len : Nat) (tx : Nat → Nat) (p f v q : Nat) : Prop := (num len tx p = none ∧ f = 0) ∨ ((f = 1 ∨ f = 2) ∧ num len tx p = some (v, q)) ∨ (f = 3 ∧ ∃ v' q', num len tx p = some (v', q') ∧ 48 ≤ ltr len tx q' ∧ ltr len tx q' ≤ 57)
theorem tw_all {len p : Nat} {tx : Nat → Nat} {k : Int32} {post : PO} (hn : 105 ≤ n) (T : TM h len tx) (hp : h 89 10 = nI p) (hp2 : p < 400)
    (K : ∀ h2 f v q, (∀ a, a ≠ 89 → h2 a = h a) → (∀ i, i ≠ 10 → h2 89 i = h 89 i) → h2 89 10 = nI q → q ≤ p + 3 → f ≤ 3 → v < 1000 → twQ len tx p f v q → WP l D cy B cX8_twoFigures 4 RX8 wsX8_twoFigures rmX8_twoFigures (some .boolean) (QE0 D cy B n 0 0 (post)) EX0 n (rf0 π) h2 lg 0 0 70 [some (.ref (B + 89)), some (.int k), some (.int (nI f)), some (.int (nI v))] []) : WP l D cy B cX8_twoFigures 4 RX8 wsX8_twoFigures rmX8_twoFigures (some .boolean) (QE0 D cy B n 0 0 (post)) EX0 n (rf0 π) h lg 0 0 11 [some (.ref (B + 89)), some (.int k), some (.int (nI 0)), some (.int (nI 0))] [] := by
  cases d0 : dig len tx p with
  | none =>
    exact tw_stop hn T hp (by omega) (Or.inl d0) (K h 0 0 p (fun _ _ => rfl) (fun _ _ => rfl) hp (by omega) (by omega) (by omega) (Or.inl ⟨by unfold num; rw [d0], rfl⟩))
  | some a =>
    have a9 := dig_le d0
    refine tw_go hn T hp (by omega) d0 (by omega) (by omega) ?_
    have T1 : TM (hup h 89 10 (nI (p + 1))) len tx := T.of (hup_off (by decide)) (hup_cell (by decide))
    rw [show 10 * 0 + a = a by omega, Nat.zero_add]
    cases d1 : dig len tx (p + 1) with
    | none =>
      exact tw_stop hn T1 (hup_at _ _ _ _) (by omega) (Or.inl d1) (K _ 1 a (p + 1) (fun b hb => hup_cell hb) (fun i hi => hup_off hi) (hup_at _ _ _ _) (by omega) (by omega) (by omega) (Or.inr (Or.inl ⟨Or.inl rfl, by unfold num; rw [d0]; simp only; rw [d1]⟩)))
    | some b =>
      have b9 := dig_le d1
      refine tw_go hn T1 (hup_at _ _ _ _) (by omega) d1 (by omega) (by omega) ?_
      rw [hup_hup]
      have T2 : TM (hup h 89 10 (nI (p + 1 + 1))) len tx := T.of (hup_off (by decide)) (hup_cell (by decide))
      have en : num len tx p = some (10 * a + b, p + 1 + 1) := by unfold num; rw [d0]; simp only; rw [d1]
      cases d2 : dig len tx (p + 1 + 1) with
      | none =>
        exact tw_stop hn T2 (hup_at _ _ _ _) (by omega) (Or.inl d2) (K _ 2 (10 * a + b) (p + 1 + 1) (fun b hb => hup_cell hb) (fun i hi => hup_off hi) (hup_at _ _ _ _) (by omega) (by omega) (by omega) (Or.inr (Or.inl ⟨Or.inr rfl, en⟩)))
      | some c =>
        have c9 := dig_le d2
        refine tw_go hn T2 (hup_at _ _ _ _) (by omega) d2 (by omega) (by omega) ?_
        rw [hup_hup]
        have T3 : TM (hup h 89 10 (nI (p + 1 + 1 + 1))) len tx := T.of (hup_off (by decide)) (hup_cell (by decide))
        have dd : 48 ≤ ltr len tx (p + 1 + 1) ∧ ltr len tx (p + 1 + 1) ≤ 57 := by
          unfold dig at d2
          split at d2
          · assumption
          · cases d2
        exact tw_stop hn T3 (hup_at _ _ _ _) (by omega) (Or.inr rfl) (K _ 3 (10 * (10 * a + b) + c) (p + 1 + 1 + 1) (fun b hb => hup_cell hb) (fun i hi => hup_off hi) (hup_at _ _ _ _) (by omega) (by omega) (by omega) (Or.inr (Or.inr ⟨rfl, _, _, en, dd.1, dd.2⟩)))
theorem tw_sep {len p f v q k sep : Nat} {tx : Nat → Nat} {post : PO} (hn : 105 ≤ n) (T : TM h len tx) (hq : h 89 10 = nI q) (hq2 : q < 500) (hf3 : f ≤ 3) (hk : (k = 0 ∧ sep = 44) ∨ (k = 1 ∧ sep = 59)) (Q : twQ len tx p f v q)
    (K1 : num len tx p = some (v, q) → ltr len tx q = sep → WP l D cy B cX8_twoFigures 4 RX8 wsX8_twoFigures rmX8_twoFigures (some .boolean) (QE0 D cy B n 0 0 (post)) EX0 n (rf0 π) (hup (hup h 97 k (nI v)) 89 10 (nI (q + 1))) lg 0 0 2 [some (.ref (B + 89)), some (.int (nI (k + 1))), some (.int (nI f)), some (.int (nI v))] [])
    (K0 : (num len tx p = none ∨ ∃ v' q', num len tx p = some (v', q') ∧ ltr len tx q' ≠ sep) → post (some (.int 0)) (rf0 π) h lg) : WP l D cy B cX8_twoFigures 4 RX8 wsX8_twoFigures rmX8_twoFigures (some .boolean) (QE0 D cy B n 0 0 (post)) EX0 n (rf0 π) h lg 0 0 70 [some (.ref (B + 89)), some (.int (nI k)), some (.int (nI f)), some (.int (nI v))] [] := by
  have lb := ltr_b (k := q) T
  have k2 : k < 2 := by omega
  refine wp_iload_n_2 (pc' := 71) dX8_twoFigures_70 rfl ?_
  refine wp_i2l (pc' := 72) dX8_twoFigures_71 rfl ?_
  refine wp_lconst (pc' := 73) (1) dX8_twoFigures_72 rfl (by decide) ?_
  refine wp_ldc2 (pc' := 76) (v := (2)) me_X8_twoFigures_3 dX8_twoFigures_73 rfl ?_
  refine wp_callSu (pc' := 79) (c_in_rg (nI f) (lo := 1) (hi := 2) (by omega) (by omega)) gX8_twoFigures_X8_in rfl rfl hz_X8_in ⟨Nat.le_of_ble_eq_true rfl, Nat.le_of_ble_eq_true rfl⟩ ⟨rfl, rfl⟩ (Nat.le_of_ble_eq_true rfl) ⟨Nat.le_of_ble_eq_true rfl, Nat.le_of_ble_eq_true rfl⟩ rfl dX8_twoFigures_76 rfl ?_
  rw [rg_nI (by omega)]
  refine wp_if_eq (pc' := 82) (tgt := 104) dX8_twoFigures_79 rfl rfl (fun c79 => ?_) (fun c79 => ?_)
  · skip -- 79 taken
    refine wp_iconst (pc' := 105) (0) dX8_twoFigures_104 rfl (by decide) ?_
    refine wp_zreturn (by decide) dX8_twoFigures_105 rfl rfl (Nat.le_refl _) (Nat.le_refl _) ?_
    refine K0 ?_
    rcases Q with ⟨z, _⟩ | ⟨z, _⟩ | ⟨_, v', q', z1, z2, z3⟩
    · exact Or.inl z
    · rw [if_pos (by omega)] at c79; exact absurd c79 bS
    · exact Or.inr ⟨v', q', z1, by omega⟩
  · skip -- 79 not taken
    have f12 : 1 ≤ f ∧ f ≤ 2 := by
      apply Classical.byContradiction
      intro z
      rw [if_neg z] at c79
      exact c79 rfl
    have en : num len tx p = some (v, q) := by
      rcases Q with ⟨_, z⟩ | ⟨_, z⟩ | ⟨z, _⟩
      · omega
      · exact z
      · omega
    refine wp_aload_n_0 (pc' := 83) dX8_twoFigures_82 rfl ?_
    refine wp_aload_n_0 (pc' := 84) dX8_twoFigures_83 rfl ?_
    refine wp_get_8_10 (pc' := 87) (by omega) rfl me_X8_twoFigures_0 ic_X8_twoFigures_8 dX8_twoFigures_84 rfl ?_
    rw [hq]
    refine wp_callVu (pc' := 90) (c_X8_letterAt hn T (by omega)) gX8_twoFigures_X8_letterAt rfl rfl hy_X8_letterAt ⟨Nat.le_of_ble_eq_true rfl, Nat.le_of_ble_eq_true rfl⟩ ⟨rfl, rfl⟩ (Nat.le_of_ble_eq_true rfl) ⟨Nat.le_of_ble_eq_true rfl, Nat.le_of_ble_eq_true rfl⟩ (by omega) (ce8 rfl) rfl rfl dX8_twoFigures_87 rfl ?_
    refine wp_iload_n_1 (pc' := 91) dX8_twoFigures_90 rfl ?_
    refine wp_if_ne (pc' := 94) (tgt := 99) dX8_twoFigures_91 rfl rfl (fun c91 => ?_) (fun c91 => ?_)
    · skip -- 91 taken
      have ks : k = 1 := by
        rcases hk with z | z
        · exact absurd (by rw [z.1]; rfl) c91
        · exact z.1
      have es : sep = 59 := by omega
      refine wp_bipush (pc' := 101) (59) dX8_twoFigures_99 rfl (by decide) ?_
      refine wp_icmp_eq (pc' := 104) (tgt := 106) dX8_twoFigures_101 rfl rfl (fun c101 => ?_) (fun c101 => ?_)
      · skip -- 101 taken
        have e101 : ltr len tx q = sep := by
          rw [es]
          exact (nI_eq (by omega) (by omega)).mp c101
        refine wp_aload_n_0 (pc' := 107) dX8_twoFigures_106 rfl ?_
        refine wp_get_8_12 (pc' := 110) (by omega) rfl rfl me_X8_twoFigures_4 ic_X8_twoFigures_8 dX8_twoFigures_107 rfl ?_
        refine wp_iload_n_1 (pc' := 111) dX8_twoFigures_110 rfl ?_
        refine wp_iload_n_3 (pc' := 112) dX8_twoFigures_111 rfl ?_
        refine wp_iast (pc' := 113) (N := 2) (by omega) rfl rfl (by first | exact vp_in_nI (by omega) (by omega) | assumption | (unfold vp_in; decide)) dX8_twoFigures_112 rfl ?_
        refine wp_aload_n_0 (pc' := 114) dX8_twoFigures_113 rfl ?_
        refine wp_dup (pc' := 115) dX8_twoFigures_114 rfl rfl ?_
        refine wp_get_8_10 (pc' := 118) (by omega) rfl me_X8_twoFigures_0 ic_X8_twoFigures_8 dX8_twoFigures_115 rfl ?_
        rw [hup_cell (by decide), hq]
        refine wp_iconst (pc' := 119) (1) dX8_twoFigures_118 rfl (by decide) ?_
        refine wp_iadd (pc' := 120) dX8_twoFigures_119 rfl ?_
        rw [nI_1]
        refine wp_put_8_10 (pc' := 123) (by omega) rfl me_X8_twoFigures_0 ic_X8_twoFigures_8 dX8_twoFigures_120 rfl ?_
        refine wp_iinc_1 (pc' := 126) (v := nI (k + 1)) dX8_twoFigures_123 (by first | rfl | exact nI_1 _) (by decide) rfl rfl ?_
        refine wp_goto (tgt := 2) dX8_twoFigures_126 rfl ?_
        rw [nI_clamp (by omega)]
        exact K1 en e101
      · skip -- 101 not taken
        refine wp_iconst (pc' := 105) (0) dX8_twoFigures_104 rfl (by decide) ?_
        refine wp_zreturn (by decide) dX8_twoFigures_105 rfl rfl (Nat.le_refl _) (Nat.le_refl _) ?_
        refine K0 (Or.inr ⟨v, q, en, fun z => c101 (by rw [z, es]; rfl)⟩)
    · skip -- 91 not taken
      have ks : k = 0 := (nI_eq (by omega) (by omega)).mp (show nI k = nI 0 from c91)
      have es : sep = 44 := by omega
      refine wp_bipush (pc' := 96) (44) dX8_twoFigures_94 rfl (by decide) ?_
      refine wp_goto (tgt := 101) dX8_twoFigures_96 rfl ?_
      refine wp_icmp_eq (pc' := 104) (tgt := 106) dX8_twoFigures_101 rfl rfl (fun c101 => ?_) (fun c101 => ?_)
      · skip -- 101 taken
        have e101 : ltr len tx q = sep := by
          rw [es]
          exact (nI_eq (by omega) (by omega)).mp c101
        refine wp_aload_n_0 (pc' := 107) dX8_twoFigures_106 rfl ?_
        refine wp_get_8_12 (pc' := 110) (by omega) rfl rfl me_X8_twoFigures_4 ic_X8_twoFigures_8 dX8_twoFigures_107 rfl ?_
        refine wp_iload_n_1 (pc' := 111) dX8_twoFigures_110 rfl ?_
        refine wp_iload_n_3 (pc' := 112) dX8_twoFigures_111 rfl ?_
        refine wp_iast (pc' := 113) (N := 2) (by omega) rfl rfl (by first | exact vp_in_nI (by omega) (by omega) | assumption | (unfold vp_in; decide)) dX8_twoFigures_112 rfl ?_
        refine wp_aload_n_0 (pc' := 114) dX8_twoFigures_113 rfl ?_
        refine wp_dup (pc' := 115) dX8_twoFigures_114 rfl rfl ?_
        refine wp_get_8_10 (pc' := 118) (by omega) rfl me_X8_twoFigures_0 ic_X8_twoFigures_8 dX8_twoFigures_115 rfl ?_
        rw [hup_cell (by decide), hq]
        refine wp_iconst (pc' := 119) (1) dX8_twoFigures_118 rfl (by decide) ?_
        refine wp_iadd (pc' := 120) dX8_twoFigures_119 rfl ?_
        rw [nI_1]
        refine wp_put_8_10 (pc' := 123) (by omega) rfl me_X8_twoFigures_0 ic_X8_twoFigures_8 dX8_twoFigures_120 rfl ?_
        refine wp_iinc_1 (pc' := 126) (v := nI (k + 1)) dX8_twoFigures_123 (by first | rfl | exact nI_1 _) (by decide) rfl rfl ?_
        refine wp_goto (tgt := 2) dX8_twoFigures_126 rfl ?_
        rw [nI_clamp (by omega)]
        exact K1 en e101
      · skip -- 101 not taken
        refine wp_iconst (pc' := 105) (0) dX8_twoFigures_104 rfl (by decide) ?_
        refine wp_zreturn (by decide) dX8_twoFigures_105 rfl rfl (Nat.le_refl _) (Nat.le_refl _) ?_
        refine K0 (Or.inr ⟨v, q, en, fun z => c101 (by rw [z, es]; rfl)⟩)
theorem pair_no1 {len p : Nat} {tx : Nat → Nat} (hno : num len tx p = none ∨ ∃ v' q', num len tx p = some (v', q') ∧ ltr len tx q' ≠ 44) : pair len tx p = none := by
  unfold pair
  rcases hno with z | ⟨v', q', z1, z2⟩
  · rw [z]
  · rw [z1]; simp only; rw [if_neg z2]
theorem pair_no2 {len p v q : Nat} {tx : Nat → Nat} (en : num len tx p = some (v, q)) (es : ltr len tx q = 44) (hno : num len tx (q + 1) = none ∨ ∃ v' q', num len tx (q + 1) = some (v', q') ∧ ltr len tx q' ≠ 59) : pair len tx p = none := by
  unfold pair
  rw [en]
  simp only
  rw [if_pos es]
  rcases hno with z | ⟨v', q', z1, z2⟩
  · rw [z]
  · rw [z1]; simp only; rw [if_neg z2]
theorem c_X8_twoFigures {len p : Nat} {tx : Nat → Nat} (hn : 105 ≤ n) (T : TM h len tx) (hp : h 89 10 = nI p) (hp2 : p < 300) : Ctr l D cy B yX8_twoFigures wsX8_twoFigures rmX8_twoFigures 0 0 n (rf0 π) h lg [.ref (B + 89)] (qI (fun x h' => x = b2i (pair len tx p).isSome ∧ (∀ a, a ≠ 89 → a ≠ 97 → h' a = h a) ∧ (∀ i, i ≠ 10 → h' 89 i = h 89 i) ∧ ∀ a b q, pair len tx p = some (a, b, q) → h' 89 10 = nI q ∧ h' 97 0 = nI a ∧ h' 97 1 = nI b) (rf0 π) lg) := by
  refine Ctr.of (cc := cX8_twoFigures) (nL := 4) (own := RX8) (rt := (some .boolean)) (ls := [some (.ref (B + 89)), none, none, none]) (by decide) rfl rfl (Nat.le_of_ble_eq_true rfl) rfl ?_
  refine wp_iconst (pc' := 1) (0) dX8_twoFigures_0 rfl (by decide) ?_
  refine wp_istore_n_1 (pc' := 2) dX8_twoFigures_1 (by decide) rfl rfl ?_
  refine wp_iload_n_1 (pc' := 3) dX8_twoFigures_2 rfl ?_
  refine wp_iconst (pc' := 4) (2) dX8_twoFigures_3 rfl (by decide) ?_
  refine wp_icmp_ge (pc' := 7) (tgt := 129) dX8_twoFigures_4 rfl rfl (fun c4 => by exfalso; exact absurd c4 (by decide)) (fun c4 => ?_)
  refine wp_iconst (pc' := 8) (0) dX8_twoFigures_7 rfl (by decide) ?_
  refine wp_istore_n_2 (pc' := 9) dX8_twoFigures_8 (by decide) rfl rfl ?_
  refine wp_iconst (pc' := 10) (0) dX8_twoFigures_9 rfl (by decide) ?_
  refine wp_istore_n_3 (pc' := 11) dX8_twoFigures_10 (by decide) rfl rfl ?_
  refine tw_all (len := len) (tx := tx) (p := p) hn T hp (by omega) (fun h2 f v q e0 e1 e2 hq hf hv Q => ?_)
  have T2 := T.of (h' := h2) (e1 0 (by decide)) (e0 90 (by decide))
  refine tw_sep (k := 0) (sep := 44) hn T2 e2 (by omega) hf (Or.inl ⟨rfl, rfl⟩) Q (fun en es => ?_) (fun hno => qI_of ⟨?_, fun a h1 h2 => e0 a h1, e1, fun a b q' hpq => ?_⟩)
  · skip
    refine wp_iload_n_1 (pc' := 3) dX8_twoFigures_2 rfl ?_
    refine wp_iconst (pc' := 4) (2) dX8_twoFigures_3 rfl (by decide) ?_
    refine wp_icmp_ge (pc' := 7) (tgt := 129) dX8_twoFigures_4 rfl rfl (fun c4 => by exfalso; exact absurd c4 (by decide)) (fun c4 => ?_)
    refine wp_iconst (pc' := 8) (0) dX8_twoFigures_7 rfl (by decide) ?_
    refine wp_istore_n_2 (pc' := 9) dX8_twoFigures_8 (by decide) rfl rfl ?_
    refine wp_iconst (pc' := 10) (0) dX8_twoFigures_9 rfl (by decide) ?_
    refine wp_istore_n_3 (pc' := 11) dX8_twoFigures_10 (by decide) rfl rfl ?_
    refine tw_all (len := len) (tx := tx) (p := q + 1) hn (T2.of (by rw [hup_off (by decide), hup_cell (by decide)]) (by rw [hup_cell (by decide), hup_cell (by decide)])) (hup_at _ _ _ _) (by omega) (fun h3 f2 v2 q2 g0 g1 g2 hq2 hf2 hv2 Q2 => ?_)
    have T3 := T2.of (h' := h3) (by rw [g1 0 (by decide), hup_off (by decide), hup_cell (by decide)]) (by rw [g0 90 (by decide), hup_cell (by decide), hup_cell (by decide)])
    refine tw_sep (k := 1) (sep := 59) hn T3 g2 (by omega) hf2 (Or.inr ⟨rfl, rfl⟩) Q2 (fun en2 es2 => ?_) (fun hno => qI_of ⟨?_, fun a h1 h2 => ?_, fun i hi => ?_, fun a b q' hpq => ?_⟩)
    · have ep : pair len tx p = some (v, v2, q2 + 1) := by
        unfold pair
        rw [en]
        simp only
        rw [if_pos es, en2]
        simp only
        rw [if_pos es2]
      refine wp_iload_n_1 (pc' := 3) dX8_twoFigures_2 rfl ?_
      refine wp_iconst (pc' := 4) (2) dX8_twoFigures_3 rfl (by decide) ?_
      refine wp_icmp_ge (pc' := 7) (tgt := 129) dX8_twoFigures_4 rfl rfl (fun c4 => ?_) (fun c4 => by exfalso; exact absurd (by decide) c4)
      refine wp_iconst (pc' := 130) (1) dX8_twoFigures_129 rfl (by decide) ?_
      refine wp_zreturn (by decide) dX8_twoFigures_130 rfl rfl (Nat.le_refl _) (Nat.le_refl _) ?_
      refine qI_of ⟨by rw [ep]; rfl, fun a h1 h2 => by rw [hup_cell h1, hup_cell h2, g0 a h1, hup_cell h1, hup_cell h2]; exact e0 a h1, fun i hi => by rw [hup_off hi, hup_cell (by decide), g1 i hi, hup_off hi, hup_cell (by decide)]; exact e1 i hi, fun a b q' hpq => ?_⟩
      rw [ep] at hpq
      cases hpq
      refine ⟨hup_at _ _ _ _, ?_, ?_⟩
      · rw [hup_cell (by decide), hup_off (by decide), g0 97 (by decide), hup_cell (by decide), hup_at]
      · rw [hup_cell (by decide), hup_at]
    · rw [pair_no2 en es hno]; rfl
    · rw [g0 a h1, hup_cell h1, hup_cell h2]; exact e0 a h1
    · rw [g1 i hi, hup_off hi, hup_cell (by decide)]; exact e1 i hi
    · rw [pair_no2 en es hno] at hpq; cases hpq
  · rw [pair_no1 hno]; rfl
  · rw [pair_no1 hno] at hpq; cases hpq
/-- the figures that the next letters tell, each one more -/
def fgN (len : Nat) (tx : Nat → Nat) (q : Nat) : Nat → Nat
  | 0 => 0
  | k + 1 => 10 * fgN len tx q k + (ltr len tx (q + k) - 47)
theorem mk5_iff {len p : Nat} {tx : Nat → Nat} : mk5 len tx p = true ↔ 48 ≤ ltr len tx p ∧ ltr len tx p ≤ 53 := by simp [mk5]
theorem fgN_lt {len q : Nat} {tx : Nat → Nat} : ∀ k, (∀ j, j < k → mk5 len tx (q + j) = true) → fgN len tx q k < 10 ^ k := by
  intro k
  induction k with
  | zero => intro _; exact Nat.one_pos
  | succ k ih =>
    intro hm
    have a := ih (fun j hj => hm j (by omega))
    have b := mk5_iff.mp (hm k (by omega))
    simp only [fgN]
    rw [Nat.pow_succ]
    omega
theorem fgN_dig {len q : Nat} {tx : Nat → Nat} : ∀ k, (∀ j, j < k → mk5 len tx (q + j) = true) → ∀ j, j < k → fgN len tx q k / 10 ^ (k - 1 - j) % 10 = ltr len tx (q + j) - 47 := by
  intro k
  induction k with
  | zero => intro _ j hj; omega
  | succ k ih =>
    intro hm j hj
    have b := mk5_iff.mp (hm k (by omega))
    simp only [fgN]
    by_cases e : j = k
    · subst e
      rw [show j + 1 - 1 - j = 0 by omega, Nat.pow_zero, Nat.div_one]
      omega
    · have a := ih (fun j hj => hm j (by omega)) j (by omega)
      rw [show k + 1 - 1 - j = (k - 1 - j) + 1 by omega, Nat.pow_succ, Nat.mul_comm (10 ^ (k - 1 - j)) 10, ← Nat.div_div_eq_div_mul, show (10 * fgN len tx q k + (ltr len tx (q + k) - 47)) / 10 = fgN len tx q k by omega]
      exact a
theorem fgN_Fg {len q k : Nat} {tx : Nat → Nat} (h1 : 1 ≤ k) (h5 : k ≤ 5) (hm : ∀ j, j < k → mk5 len tx (q + j) = true) : Fg (fgN len tx q k) k := by
  refine ⟨h1, h5, fgN_lt k hm, fun j hj => ?_⟩
  have a := fgN_dig k hm (k - 1 - j) (by omega)
  rw [show k - 1 - (k - 1 - j) = j by omega] at a
  have b := mk5_iff.mp (hm (k - 1 - j) (by omega))
  rw [a]; omega
theorem mk5_rg {len p : Nat} {tx : Nat → Nat} (hb : ltr len tx p ≤ 126) : (rg (nI (ltr len tx p)) 48 53).isSome = mk5 len tx p := by
  rw [rg_nI (by omega)]
  cases e : mk5 len tx p
  · rw [if_neg (fun z => by rw [mk5_iff.mpr z] at e; cases e)]; rfl
  · rw [if_pos (mk5_iff.mp e)]; rfl
theorem lp_X8_walkItem {len q0 : Nat} {tx : Nat → Nat} {a1 : Int32} {post : PO} (hn : 105 ≤ n) (H0 : Hp) (T0 : TM H0 len tx) (hq0 : q0 < 400)
    (K : ∀ h' k, (∀ a, a ≠ 89 → h' a = H0 a) → (∀ i, i ≠ 10 → h' 89 i = H0 89 i) → h' 89 10 = nI (q0 + k) → k ≤ 6 → nlead len tx 6 q0 = k → (∀ j, j < k → mk5 len tx (q0 + j) = true) → WP l D cy B cX8_walkItem 4 RX8 wsX8_walkItem rmX8_walkItem (some .boolean) (QE0 D cy B n 0 0 (post)) EX0 n (rf0 π) h' lg 0 0 86 [some (.ref (B + 89)), some (.int a1), some (.int (nI (fgN len tx q0 k))), some (.int (nI k))] []) :
    ∀ d k : Nat, k + d = 6 → ∀ h', (∀ a, a ≠ 89 → h' a = H0 a) → (∀ i, i ≠ 10 → h' 89 i = H0 89 i) → h' 89 10 = nI (q0 + k) → (∀ j, j < k → mk5 len tx (q0 + j) = true) → WP l D cy B cX8_walkItem 4 RX8 wsX8_walkItem rmX8_walkItem (some .boolean) (QE0 D cy B n 0 0 (post)) EX0 n (rf0 π) h' lg 0 0 26 [some (.ref (B + 89)), some (.int a1), some (.int (nI (fgN len tx q0 k))), some (.int (nI k))] [] := by
  intro d
  induction d with
  | zero =>
    intro k hk h' e0 e1 e2 hm
    have : k = 6 := by omega
    subst this
    have T := T0.of (h' := h') (e1 0 (by decide)) (e0 90 (by decide))
    have lb := ltr_b (k := q0 + 6) T
    refine wp_aload_n_0 (pc' := 27) dX8_walkItem_26 rfl ?_
    refine wp_aload_n_0 (pc' := 28) dX8_walkItem_27 rfl ?_
    refine wp_get_8_10 (pc' := 31) (by omega) rfl me_X8_walkItem_0 ic_X8_walkItem_8 dX8_walkItem_28 rfl ?_
    rw [e2]
    refine wp_callVu (pc' := 34) (c_X8_letterAt hn T (by omega)) gX8_walkItem_X8_letterAt rfl rfl hy_X8_letterAt ⟨Nat.le_of_ble_eq_true rfl, Nat.le_of_ble_eq_true rfl⟩ ⟨rfl, rfl⟩ (Nat.le_of_ble_eq_true rfl) ⟨Nat.le_of_ble_eq_true rfl, Nat.le_of_ble_eq_true rfl⟩ (by omega) (ce8 rfl) rfl rfl dX8_walkItem_31 rfl ?_
    refine wp_i2l (pc' := 35) dX8_walkItem_34 rfl ?_
    refine wp_ldc2 (pc' := 38) (v := (48)) me_X8_walkItem_1 dX8_walkItem_35 rfl ?_
    refine wp_ldc2 (pc' := 41) (v := (53)) me_X8_walkItem_2 dX8_walkItem_38 rfl ?_
    refine wp_callSu (pc' := 44) (c_in_rg (nI (ltr len tx (q0 + 6))) (lo := 48) (hi := 53) (by omega) (by omega)) gX8_walkItem_X8_in rfl rfl hz_X8_in ⟨Nat.le_of_ble_eq_true rfl, Nat.le_of_ble_eq_true rfl⟩ ⟨rfl, rfl⟩ (Nat.le_of_ble_eq_true rfl) ⟨Nat.le_of_ble_eq_true rfl, Nat.le_of_ble_eq_true rfl⟩ rfl dX8_walkItem_41 rfl ?_
    refine wp_if_eq (pc' := 47) (tgt := 86) dX8_walkItem_44 rfl rfl (fun c44 => ?_) (fun c44 => ?_)
    · skip -- 44 taken
      exact K h' 6 e0 e1 e2 (by omega) (nlead_eq 6 q0 6 (by omega) hm (Or.inl rfl)) hm
    · skip -- 44 not taken
      refine wp_iload_n_3 (pc' := 48) dX8_walkItem_47 rfl ?_
      refine wp_bipush (pc' := 50) (6) dX8_walkItem_48 rfl (by decide) ?_
      refine wp_icmp_ge (pc' := 53) (tgt := 86) dX8_walkItem_50 rfl rfl (fun c50 => ?_) (fun c50 => by exfalso; exact c50 (by decide))
      exact K h' 6 e0 e1 e2 (by omega) (nlead_eq 6 q0 6 (by omega) hm (Or.inl rfl)) hm
  | succ d ih =>
    intro k hk h' e0 e1 e2 hm
    have T := T0.of (h' := h') (e1 0 (by decide)) (e0 90 (by decide))
    have lb := ltr_b (k := q0 + k) T
    have fl := fgN_lt (len := len) (tx := tx) (q := q0) k hm
    have f5 : fgN len tx q0 k < 100000 := Nat.lt_of_lt_of_le fl (show 10 ^ k ≤ 10 ^ 5 from Nat.pow_le_pow_right (by decide) (by omega))
    refine wp_aload_n_0 (pc' := 27) dX8_walkItem_26 rfl ?_
    refine wp_aload_n_0 (pc' := 28) dX8_walkItem_27 rfl ?_
    refine wp_get_8_10 (pc' := 31) (by omega) rfl me_X8_walkItem_0 ic_X8_walkItem_8 dX8_walkItem_28 rfl ?_
    rw [e2]
    refine wp_callVu (pc' := 34) (c_X8_letterAt hn T (by omega)) gX8_walkItem_X8_letterAt rfl rfl hy_X8_letterAt ⟨Nat.le_of_ble_eq_true rfl, Nat.le_of_ble_eq_true rfl⟩ ⟨rfl, rfl⟩ (Nat.le_of_ble_eq_true rfl) ⟨Nat.le_of_ble_eq_true rfl, Nat.le_of_ble_eq_true rfl⟩ (by omega) (ce8 rfl) rfl rfl dX8_walkItem_31 rfl ?_
    refine wp_i2l (pc' := 35) dX8_walkItem_34 rfl ?_
    refine wp_ldc2 (pc' := 38) (v := (48)) me_X8_walkItem_1 dX8_walkItem_35 rfl ?_
    refine wp_ldc2 (pc' := 41) (v := (53)) me_X8_walkItem_2 dX8_walkItem_38 rfl ?_
    refine wp_callSu (pc' := 44) (c_in_rg (nI (ltr len tx (q0 + k))) (lo := 48) (hi := 53) (by omega) (by omega)) gX8_walkItem_X8_in rfl rfl hz_X8_in ⟨Nat.le_of_ble_eq_true rfl, Nat.le_of_ble_eq_true rfl⟩ ⟨rfl, rfl⟩ (Nat.le_of_ble_eq_true rfl) ⟨Nat.le_of_ble_eq_true rfl, Nat.le_of_ble_eq_true rfl⟩ rfl dX8_walkItem_41 rfl ?_
    rw [mk5_rg lb]
    refine wp_if_eq (pc' := 47) (tgt := 86) dX8_walkItem_44 rfl rfl (fun c44 => ?_) (fun c44 => ?_)
    · skip -- 44 taken
      have mf : mk5 len tx (q0 + k) = false := b2i_eq0.mp c44
      exact K h' k e0 e1 e2 (by omega) (nlead_eq 6 q0 k (by omega) hm (Or.inr mf)) hm
    · skip -- 44 not taken
      have mt : mk5 len tx (q0 + k) = true := b2i_ne0.mp c44
      have m5 := mk5_iff.mp mt
      refine wp_iload_n_3 (pc' := 48) dX8_walkItem_47 rfl ?_
      refine wp_bipush (pc' := 50) (6) dX8_walkItem_48 rfl (by decide) ?_
      refine wp_icmp_ge (pc' := 53) (tgt := 86) dX8_walkItem_50 rfl rfl (fun c50 => by exfalso; exact nI_ge (a := k) (b := 6) (by omega) (by omega) c50) (fun c50 => ?_)
      refine wp_bipush (pc' := 55) (10) dX8_walkItem_53 rfl (by decide) ?_
      refine wp_iload_n_2 (pc' := 56) dX8_walkItem_55 rfl ?_
      refine wp_imul (pc' := 57) dX8_walkItem_56 rfl ?_
      rw [show (10 : Int32) = nI 10 from rfl, nI_mul]
      refine wp_aload_n_0 (pc' := 58) dX8_walkItem_57 rfl ?_
      refine wp_aload_n_0 (pc' := 59) dX8_walkItem_58 rfl ?_
      refine wp_get_8_10 (pc' := 62) (by omega) rfl me_X8_walkItem_0 ic_X8_walkItem_8 dX8_walkItem_59 rfl ?_
      rw [e2]
      refine wp_callVu (pc' := 65) (c_X8_letterAt hn T (by omega)) gX8_walkItem_X8_letterAt rfl rfl hy_X8_letterAt ⟨Nat.le_of_ble_eq_true rfl, Nat.le_of_ble_eq_true rfl⟩ ⟨rfl, rfl⟩ (Nat.le_of_ble_eq_true rfl) ⟨Nat.le_of_ble_eq_true rfl, Nat.le_of_ble_eq_true rfl⟩ (by omega) (ce8 rfl) rfl rfl dX8_walkItem_62 rfl ?_
      refine wp_iadd (pc' := 66) dX8_walkItem_65 rfl ?_
      rw [nI_add]
      refine wp_bipush (pc' := 68) (47) dX8_walkItem_66 rfl (by decide) ?_
      refine wp_isub (pc' := 69) dX8_walkItem_68 rfl ?_
      rw [show (47 : Int32) = nI 47 from rfl, nI_sub (by omega), show 10 * fgN len tx q0 k + ltr len tx (q0 + k) - 47 = 10 * fgN len tx q0 k + (ltr len tx (q0 + k) - 47) by omega]
      refine wp_istore_n_2 (pc' := 70) dX8_walkItem_69 (by decide) rfl rfl ?_
      refine wp_iinc_3 (pc' := 73) (v := nI (k + 1)) dX8_walkItem_70 (by first | rfl | exact nI_1 _) (by decide) rfl rfl ?_
      refine wp_aload_n_0 (pc' := 74) dX8_walkItem_73 rfl ?_
      refine wp_dup (pc' := 75) dX8_walkItem_74 rfl rfl ?_
      refine wp_get_8_10 (pc' := 78) (by omega) rfl me_X8_walkItem_0 ic_X8_walkItem_8 dX8_walkItem_75 rfl ?_
      rw [e2]
      refine wp_iconst (pc' := 79) (1) dX8_walkItem_78 rfl (by decide) ?_
      refine wp_iadd (pc' := 80) dX8_walkItem_79 rfl ?_
      rw [nI_1]
      refine wp_put_8_10 (pc' := 83) (by omega) rfl me_X8_walkItem_0 ic_X8_walkItem_8 dX8_walkItem_80 rfl ?_
      refine wp_goto (tgt := 26) dX8_walkItem_83 rfl ?_
      refine ih (k + 1) (by omega) _ (fun a ha => by rw [hup_cell ha]; exact e0 a ha) (fun i hi => by rw [hup_off hi]; exact e1 i hi) (hup_at _ _ _ _) (fun j hj => ?_)
      by_cases e : j = k
      · subst e; exact mt
      · exact hm j (by omega)
theorem addW_fg {len q k κ : Nat} {tx ρ : Nat → Nat} (hm : ∀ j, j < k → mk5 len tx (q + j) = true) : addW ρ κ k (fun j => fgN len tx q k / 10 ^ (k - 1 - j) % 10 - 1) = addW ρ κ k (fun j => ltr len tx (q + j) - 48) := by
  funext i
  unfold addW
  by_cases a : i = 16
  · rw [if_pos a, if_pos a]
  · rw [if_neg a, if_neg a]
    by_cases b : i = 17 + 7 * ρ 16
    · rw [if_pos b, if_pos b]
    · rw [if_neg b, if_neg b]
      by_cases c : i = 18 + 7 * ρ 16
      · rw [if_pos c, if_pos c]
      · rw [if_neg c, if_neg c]
        by_cases d : 19 + 7 * ρ 16 ≤ i ∧ i < 24 + 7 * ρ 16
        · rw [if_pos d, if_pos d]
          by_cases e : i - (19 + 7 * ρ 16) < k
          · rw [if_pos e, if_pos e]
            simp only
            rw [fgN_dig k hm _ e]
            omega
          · rw [if_neg e, if_neg e]
        · rw [if_neg d, if_neg d]
def wiO (len : Nat) (tx : Nat → Nat) (p : Nat) (ρ : Nat → Nat) : Prop := 48 ≤ ltr len tx p ∧ ltr len tx p ≤ 51 ∧ ρ 16 < 5 ∧ 2 ≤ nlead len tx 6 (p + 1) ∧ nlead len tx 6 (p + 1) ≤ 5 ∧ ltr len tx (p + 1 + nlead len tx 6 (p + 1)) = 59
theorem c_X8_walkItem {len p : Nat} {tx ρ : Nat → Nat} (hn : 105 ≤ n) (T : TM h len tx) (hp : h 89 10 = nI p) (hp2 : p < 300) (nr : NR h 94 ρ) (h5 : ρ 16 ≤ 5) : Ctr l D cy B yX8_walkItem wsX8_walkItem rmX8_walkItem 0 0 n (rf0 π) h lg [.ref (B + 89)] (qI (fun x h' => (∀ a, a ≠ 89 → a ≠ 94 → h' a = h a) ∧ (∀ i, i ≠ 10 → h' 89 i = h 89 i) ∧ ((x = 0 ∧ ¬ wiO len tx p ρ) ∨ (x = 1 ∧ wiO len tx p ρ ∧ h' 89 10 = nI (p + 2 + nlead len tx 6 (p + 1)) ∧ NR h' 94 (addW ρ (ltr len tx p - 48) (nlead len tx 6 (p + 1)) (fun j => ltr len tx (p + 1 + j) - 48))))) (rf0 π) lg) := by
  have lb := ltr_b (k := p) T
  have T1 : TM (hup h 89 10 (nI (p + 1))) len tx := T.of (hup_off (by decide)) (hup_cell (by decide))
  refine Ctr.of (cc := cX8_walkItem) (nL := 4) (own := RX8) (rt := (some .boolean)) (ls := [some (.ref (B + 89)), none, none, none]) (by decide) rfl rfl (Nat.le_of_ble_eq_true rfl) rfl ?_
  refine wp_aload_n_0 (pc' := 1) dX8_walkItem_0 rfl ?_
  refine wp_aload_n_0 (pc' := 2) dX8_walkItem_1 rfl ?_
  refine wp_get_8_10 (pc' := 5) (by omega) rfl me_X8_walkItem_0 ic_X8_walkItem_8 dX8_walkItem_2 rfl ?_
  rw [hp]
  refine wp_callVu (pc' := 8) (c_X8_letterAt hn T (by omega)) gX8_walkItem_X8_letterAt rfl rfl hy_X8_letterAt ⟨Nat.le_of_ble_eq_true rfl, Nat.le_of_ble_eq_true rfl⟩ ⟨rfl, rfl⟩ (Nat.le_of_ble_eq_true rfl) ⟨Nat.le_of_ble_eq_true rfl, Nat.le_of_ble_eq_true rfl⟩ (by omega) (ce8 rfl) rfl rfl dX8_walkItem_5 rfl ?_
  refine wp_bipush (pc' := 10) (48) dX8_walkItem_8 rfl (by decide) ?_
  refine wp_isub (pc' := 11) dX8_walkItem_10 rfl ?_
  refine wp_istore_n_1 (pc' := 12) dX8_walkItem_11 (by decide) rfl rfl ?_
  refine wp_aload_n_0 (pc' := 13) dX8_walkItem_12 rfl ?_
  refine wp_dup (pc' := 14) dX8_walkItem_13 rfl rfl ?_
  refine wp_get_8_10 (pc' := 17) (by omega) rfl me_X8_walkItem_0 ic_X8_walkItem_8 dX8_walkItem_14 rfl ?_
  rw [hp]
  refine wp_iconst (pc' := 18) (1) dX8_walkItem_17 rfl (by decide) ?_
  refine wp_iadd (pc' := 19) dX8_walkItem_18 rfl ?_
  rw [nI_1]
  refine wp_put_8_10 (pc' := 22) (by omega) rfl me_X8_walkItem_0 ic_X8_walkItem_8 dX8_walkItem_19 rfl ?_
  refine wp_iconst (pc' := 23) (0) dX8_walkItem_22 rfl (by decide) ?_
  refine wp_istore_n_2 (pc' := 24) dX8_walkItem_23 (by decide) rfl rfl ?_
  refine wp_iconst (pc' := 25) (0) dX8_walkItem_24 rfl (by decide) ?_
  refine wp_istore_n_3 (pc' := 26) dX8_walkItem_25 (by decide) rfl rfl ?_
  refine lp_X8_walkItem (q0 := p + 1) (len := len) (tx := tx) hn (hup h 89 10 (nI (p + 1))) T1 (by omega) (fun h' k e0 e1 e2 hk6 hk hm => ?_) 6 0 (by omega) _ (fun _ _ => rfl) (fun _ _ => rfl) (hup_at _ _ _ _) (fun j hj => by omega)
  have T2 := T1.of (h' := h') (e1 0 (by decide)) (e0 90 (by decide))
  have lb2 := ltr_b (k := p + 1 + k) T2
  have nr2 : NR h' 94 ρ := fun i hi => by rw [e0 94 (by decide), hup_cell (by decide)]; exact nr i hi
  have f0 : ∀ a, a ≠ 89 → a ≠ 94 → h' a = h a := fun a h1 _ => by rw [e0 a h1, hup_cell h1]
  have f1 : ∀ i, i ≠ 10 → h' 89 i = h 89 i := fun i hi => by rw [e1 i hi, hup_off hi]
  have erg : (rg (nI (ltr len tx p) - 48) 0 3).isSome = decide (48 ≤ ltr len tx p ∧ ltr len tx p ≤ 51) := by
    unfold rg
    rw [show (48 : Int32) = nI 48 from rfl, pk_sub_toInt (by omega) (by omega)]
    by_cases z : 48 ≤ ltr len tx p ∧ ltr len tx p ≤ 51
    · rw [if_pos (by omega), decide_eq_true z]; rfl
    · rw [if_neg (by omega), decide_eq_false z]; rfl
  have no : ¬ wiO len tx p ρ → (fun (x : Int32) (h' : Hp) => (∀ a, a ≠ 89 → a ≠ 94 → h' a = h a) ∧ (∀ i, i ≠ 10 → h' 89 i = h 89 i) ∧ ((x = 0 ∧ ¬ wiO len tx p ρ) ∨ (x = 1 ∧ wiO len tx p ρ ∧ h' 89 10 = nI (p + 2 + nlead len tx 6 (p + 1)) ∧ NR h' 94 (addW ρ (ltr len tx p - 48) (nlead len tx 6 (p + 1)) (fun j => ltr len tx (p + 1 + j) - 48))))) 0 h' := fun z => ⟨f0, f1, Or.inl ⟨rfl, z⟩⟩
  refine wp_iload_n_1 (pc' := 87) dX8_walkItem_86 rfl ?_
  refine wp_i2l (pc' := 88) dX8_walkItem_87 rfl ?_
  refine wp_lconst (pc' := 89) (0) dX8_walkItem_88 rfl (by decide) ?_
  refine wp_ldc2 (pc' := 92) (v := (3)) me_X8_walkItem_3 dX8_walkItem_89 rfl ?_
  refine wp_callSu (pc' := 95) (c_in_rg (nI (ltr len tx p) - 48) (lo := 0) (hi := 3) (by omega) (by omega)) gX8_walkItem_X8_in rfl rfl hz_X8_in ⟨Nat.le_of_ble_eq_true rfl, Nat.le_of_ble_eq_true rfl⟩ ⟨rfl, rfl⟩ (Nat.le_of_ble_eq_true rfl) ⟨Nat.le_of_ble_eq_true rfl, Nat.le_of_ble_eq_true rfl⟩ rfl dX8_walkItem_92 rfl ?_
  rw [erg]
  refine wp_if_eq (pc' := 98) (tgt := 136) dX8_walkItem_95 rfl rfl (fun c95 => ?_) (fun c95 => ?_)
  · skip -- 95 taken
    refine wp_iconst (pc' := 137) (0) dX8_walkItem_136 rfl (by decide) ?_
    refine wp_zreturn (by decide) dX8_walkItem_137 rfl rfl (Nat.le_refl _) (Nat.le_refl _) ?_
    exact qI_of (no (fun z => absurd (b2i_eq0.mp c95) (by rw [decide_eq_true ⟨z.1, z.2.1⟩]; decide)))
  · skip -- 95 not taken
    have w1 : 48 ≤ ltr len tx p ∧ ltr len tx p ≤ 51 := of_decide_eq_true (b2i_ne0.mp c95)
    refine wp_iload_n_3 (pc' := 99) dX8_walkItem_98 rfl ?_
    refine wp_i2l (pc' := 100) dX8_walkItem_99 rfl ?_
    refine wp_ldc2 (pc' := 103) (v := (2)) me_X8_walkItem_4 dX8_walkItem_100 rfl ?_
    refine wp_ldc2 (pc' := 106) (v := (5)) me_X8_walkItem_5 dX8_walkItem_103 rfl ?_
    refine wp_callSu (pc' := 109) (c_in_rg (nI k) (lo := 2) (hi := 5) (by omega) (by omega)) gX8_walkItem_X8_in rfl rfl hz_X8_in ⟨Nat.le_of_ble_eq_true rfl, Nat.le_of_ble_eq_true rfl⟩ ⟨rfl, rfl⟩ (Nat.le_of_ble_eq_true rfl) ⟨Nat.le_of_ble_eq_true rfl, Nat.le_of_ble_eq_true rfl⟩ rfl dX8_walkItem_106 rfl ?_
    rw [rg_nI (by omega)]
    refine wp_if_eq (pc' := 112) (tgt := 136) dX8_walkItem_109 rfl rfl (fun c109 => ?_) (fun c109 => ?_)
    · skip -- 109 taken
      refine wp_iconst (pc' := 137) (0) dX8_walkItem_136 rfl (by decide) ?_
      refine wp_zreturn (by decide) dX8_walkItem_137 rfl rfl (Nat.le_refl _) (Nat.le_refl _) ?_
      exact qI_of (no (fun z => by
          have z1 := z.2.2.2.1
          have z2 := z.2.2.2.2.1
          rw [hk] at z1 z2
          rw [if_pos ⟨z1, z2⟩] at c109
          exact bS c109))
    · skip -- 109 not taken
      have w2 : 2 ≤ k ∧ k ≤ 5 := by
        apply Classical.byContradiction
        intro z
        rw [if_neg z] at c109
        exact c109 rfl
      refine wp_aload_n_0 (pc' := 113) dX8_walkItem_112 rfl ?_
      refine wp_aload_n_0 (pc' := 114) dX8_walkItem_113 rfl ?_
      refine wp_get_8_10 (pc' := 117) (by omega) rfl me_X8_walkItem_0 ic_X8_walkItem_8 dX8_walkItem_114 rfl ?_
      rw [e2]
      refine wp_callVu (pc' := 120) (c_X8_letterAt (k := p + 1 + k) hn T2 (by omega)) gX8_walkItem_X8_letterAt rfl rfl hy_X8_letterAt ⟨Nat.le_of_ble_eq_true rfl, Nat.le_of_ble_eq_true rfl⟩ ⟨rfl, rfl⟩ (Nat.le_of_ble_eq_true rfl) ⟨Nat.le_of_ble_eq_true rfl, Nat.le_of_ble_eq_true rfl⟩ (by omega) (ce8 rfl) rfl rfl dX8_walkItem_117 rfl ?_
      refine wp_bipush (pc' := 122) (59) dX8_walkItem_120 rfl (by decide) ?_
      refine wp_icmp_ne (pc' := 125) (tgt := 136) dX8_walkItem_122 rfl rfl (fun c122 => ?_) (fun c122 => ?_)
      · skip -- 122 taken
        refine wp_iconst (pc' := 137) (0) dX8_walkItem_136 rfl (by decide) ?_
        refine wp_zreturn (by decide) dX8_walkItem_137 rfl rfl (Nat.le_refl _) (Nat.le_refl _) ?_
        exact qI_of (no (fun z => by
            have z1 := z.2.2.2.2.2
            rw [hk] at z1
            exact c122 (by rw [z1]; rfl)))
      · skip -- 122 not taken
        have w3 : ltr len tx (p + 1 + k) = 59 := (nI_eq (by omega) (by omega)).mp (show nI (ltr len tx (p + 1 + k)) = nI 59 from c122)
        refine wp_aload_n_0 (pc' := 126) dX8_walkItem_125 rfl ?_
        refine wp_get_8_5 (pc' := 129) (by omega) rfl rfl me_X8_walkItem_6 ic_X8_walkItem_8 dX8_walkItem_126 rfl ?_
        refine wp_bipush (pc' := 131) (16) dX8_walkItem_129 rfl (by decide) ?_
        refine wp_iald (pc' := 132) (N := 52) (by omega) rfl rfl (by first | exact vp_in_nI (by omega) (by omega) | assumption | (unfold vp_in; decide)) dX8_walkItem_131 rfl ?_
        rw [show (16 : Int32).toNatClampNeg = 16 from rfl, nr2 16 (by omega)]
        refine wp_iconst (pc' := 133) (5) dX8_walkItem_132 rfl (by decide) ?_
        refine wp_icmp_ne (pc' := 136) (tgt := 138) dX8_walkItem_133 rfl rfl (fun c133 => ?_) (fun c133 => ?_)
        · skip -- 133 taken
          have w4 : ρ 16 < 5 := by
            apply Classical.byContradiction
            intro z
            exact c133 (by rw [show ρ 16 = 5 by omega]; rfl)
          refine wp_aload_n_0 (pc' := 139) dX8_walkItem_138 rfl ?_
          refine wp_dup (pc' := 140) dX8_walkItem_139 rfl rfl ?_
          refine wp_get_8_10 (pc' := 143) (by omega) rfl me_X8_walkItem_0 ic_X8_walkItem_8 dX8_walkItem_140 rfl ?_
          rw [e2]
          refine wp_iconst (pc' := 144) (1) dX8_walkItem_143 rfl (by decide) ?_
          refine wp_iadd (pc' := 145) dX8_walkItem_144 rfl ?_
          rw [nI_1]
          refine wp_put_8_10 (pc' := 148) (by omega) rfl me_X8_walkItem_0 ic_X8_walkItem_8 dX8_walkItem_145 rfl ?_
          refine wp_aload_n_0 (pc' := 149) dX8_walkItem_148 rfl ?_
          refine wp_get_8_5 (pc' := 152) (by omega) rfl rfl me_X8_walkItem_6 ic_X8_walkItem_8 dX8_walkItem_149 rfl ?_
          refine wp_iload_n_1 (pc' := 153) dX8_walkItem_152 rfl ?_
          refine wp_iload_n_2 (pc' := 154) dX8_walkItem_153 rfl ?_
          rw [show (48 : Int32) = nI 48 from rfl, nI_sub (by omega)]
          refine wp_callSv (pc' := 157) (c_X8_addWalk (c := 94) (κ := ltr len tx p - 48) hn (Or.inr rfl) (fgN_Fg (by omega) w2.2 hm) w4 (fun i hi => by rw [hup_cell (by decide)]; exact nr2 i hi)) gX8_walkItem_X8_addWalk rfl rfl hz_X8_addWalk ⟨Nat.le_of_ble_eq_true rfl, Nat.le_of_ble_eq_true rfl⟩ ⟨rfl, rfl⟩ (Nat.le_of_ble_eq_true rfl) ⟨Nat.le_of_ble_eq_true rfl, Nat.le_of_ble_eq_true rfl⟩ rfl dX8_walkItem_154 rfl (fun h154 q154 => ?_)
          obtain ⟨g0, g1⟩ := q154
          rw [addW_fg hm] at g1
          refine wp_iconst (pc' := 158) (1) dX8_walkItem_157 rfl (by decide) ?_
          refine wp_zreturn (by decide) dX8_walkItem_158 rfl rfl (Nat.le_refl _) (Nat.le_refl _) ?_
          refine qI_of ⟨fun a h1 h2 => by rw [g0 a h2, hup_cell h1]; exact f0 a h1 h2, fun i hi => by rw [g0 89 (by decide), hup_off hi]; exact f1 i hi, Or.inr ⟨rfl, ?_, ?_, ?_⟩⟩
          · unfold wiO; rw [hk]; exact ⟨w1.1, w1.2, w4, w2.1, w2.2, w3⟩
          · rw [g0 89 (by decide), hup_at, hk, show p + 1 + k + 1 = p + 2 + k by omega]
          · rw [hk]; exact g1
        · skip -- 133 not taken
          refine wp_iconst (pc' := 137) (0) dX8_walkItem_136 rfl (by decide) ?_
          refine wp_zreturn (by decide) dX8_walkItem_137 rfl rfl (Nat.le_refl _) (Nat.le_refl _) ?_
          exact qI_of (no (fun z => by
              have z1 := z.2.2.1
              have z2 : ρ 16 = 5 := (nI_eq (by omega) (by omega)).mp (show nI (ρ 16) = nI 5 from c133)
              omega))
end VME

