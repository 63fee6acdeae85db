abbrev rmX3_figure : Room := { frames := 0, cells := 0, slots := 0, locals := 0 }
theorem hy_X3_figure : yX3_figure.cls = RX3 ∧ yX3_figure.cls ≠ "java/lang/invoke/MethodHandle" ∧ yX3_figure.cls ≠ "java/lang/invoke/VarHandle" ∧ (parseMethodDescriptor yX3_figure.desc).map (fun d => d.parameters.length) = some 1 := by decide +kernel
theorem hz_X3_figure : yX3_figure.cls ≠ "java/lang/invoke/MethodHandle" ∧ yX3_figure.cls ≠ "java/lang/invoke/VarHandle" ∧ (parseMethodDescriptor yX3_figure.desc).map (fun d => d.parameters.length) = some 1 := by decide +kernel
abbrev rmX3_next : Room := { frames := 1, cells := 0, slots := 0, locals := 20 }
theorem hy_X3_next : yX3_next.cls = RX3 ∧ yX3_next.cls ≠ "java/lang/invoke/MethodHandle" ∧ yX3_next.cls ≠ "java/lang/invoke/VarHandle" ∧ (parseMethodDescriptor yX3_next.desc).map (fun d => d.parameters.length) = some 0 := by decide +kernel
theorem hz_X3_next : yX3_next.cls ≠ "java/lang/invoke/MethodHandle" ∧ yX3_next.cls ≠ "java/lang/invoke/VarHandle" ∧ (parseMethodDescriptor yX3_next.desc).map (fun d => d.parameters.length) = some 0 := by decide +kernel
abbrev rmX3_number : Room := { frames := 1, cells := 0, slots := 0, locals := 20 }
theorem hy_X3_number : yX3_number.cls = RX3 ∧ yX3_number.cls ≠ "java/lang/invoke/MethodHandle" ∧ yX3_number.cls ≠ "java/lang/invoke/VarHandle" ∧ (parseMethodDescriptor yX3_number.desc).map (fun d => d.parameters.length) = some 0 := by decide +kernel
theorem hz_X3_number : yX3_number.cls ≠ "java/lang/invoke/MethodHandle" ∧ yX3_number.cls ≠ "java/lang/invoke/VarHandle" ∧ (parseMethodDescriptor yX3_number.desc).map (fun d => d.parameters.length) = some 0 := by decide +kernel
abbrev rmX3_peek : Room := { frames := 0, cells := 0, slots := 0, locals := 0 }
theorem hy_X3_peek : yX3_peek.cls = RX3 ∧ yX3_peek.cls ≠ "java/lang/invoke/MethodHandle" ∧ yX3_peek.cls ≠ "java/lang/invoke/VarHandle" ∧ (parseMethodDescriptor yX3_peek.desc).map (fun d => d.parameters.length) = some 0 := by decide +kernel
theorem hz_X3_peek : yX3_peek.cls ≠ "java/lang/invoke/MethodHandle" ∧ yX3_peek.cls ≠ "java/lang/invoke/VarHandle" ∧ (parseMethodDescriptor yX3_peek.desc).map (fun d => d.parameters.length) = some 0 := by decide +kernel
abbrev rmX3_readPair : Room := { frames := 2, cells := 0, slots := 0, locals := 42 }
theorem hy_X3_readPair : yX3_readPair.cls = RX3 ∧ yX3_readPair.cls ≠ "java/lang/invoke/MethodHandle" ∧ yX3_readPair.cls ≠ "java/lang/invoke/VarHandle" ∧ (parseMethodDescriptor yX3_readPair.desc).map (fun d => d.parameters.length) = some 0 := by decide +kernel
theorem hz_X3_readPair : yX3_readPair.cls ≠ "java/lang/invoke/MethodHandle" ∧ yX3_readPair.cls ≠ "java/lang/invoke/VarHandle" ∧ (parseMethodDescriptor yX3_readPair.desc).map (fun d => d.parameters.length) = some 0 := by decide +kernel
theorem me_X3_peek_0 : Cond.fieldLink RX3 33 "DrawnByLost$Reader" "at" "I" ∈ wsX3_peek := by decide +kernel
theorem me_X3_peek_1 : Cond.fieldLink RX3 29 "DrawnByLost$Reader" "length" "I" ∈ wsX3_peek := by decide +kernel
theorem me_X3_peek_2 : Cond.fieldLink RX3 9 "DrawnByLost$Reader" "letters" "[C" ∈ wsX3_peek := by decide +kernel
theorem me_X3_next_0 : Cond.fieldLink RX3 33 "DrawnByLost$Reader" "at" "I" ∈ wsX3_next := by decide +kernel
theorem me_X3_number_0 : Cond.fieldLink RX3 33 "DrawnByLost$Reader" "at" "I" ∈ wsX3_number := by decide +kernel
theorem me_X3_readPair_0 : Cond.fieldLink RX3 74 "DrawnByLost$Reader" "left" "I" ∈ wsX3_readPair := by decide +kernel
theorem me_X3_readPair_1 : Cond.fieldLink RX3 77 "DrawnByLost$Reader" "right" "I" ∈ wsX3_readPair := by decide +kernel
theorem ic_X3_peek_3 : ∀ w ∈ wsX30, w ∈ wsX3_peek := by decide +kernel
theorem ic_X3_next_3 : ∀ w ∈ wsX30, w ∈ wsX3_next := by decide +kernel
theorem ic_X3_number_3 : ∀ w ∈ wsX30, w ∈ wsX3_number := by decide +kernel
theorem ic_X3_readPair_3 : ∀ w ∈ wsX30, w ∈ wsX3_readPair := by decide +kernel
-- Reader
section VRE
variable {l : Launch} {D : va_G} {cy : CY} {B n : Nat} {h : Hp} {lg : Lg} {π : Nat → Nat}
def TX (h : Hp) (len : Nat) (tx : Nat → Nat) : Prop := h 1 1 = nI len ∧ len ≤ 200 ∧ ∀ i, i < len → h 2 i = nI (tx i) ∧ 32 ≤ tx i ∧ tx i ≤ 126
theorem TX.of_eq {h h' : Hp} {len : Nat} {tx : Nat → Nat} (T : TX h len tx) (e1 : h' 1 1 = h 1 1) (e2 : h' 2 = h 2) : TX h' len tx := by
  unfold TX at *
  rw [e1, e2]
  exact T
def pkI (len : Nat) (tx : Nat → Nat) (p : Nat) : Int32 := if p < len then nI (tx p) else -1
def figI (len : Nat) (tx : Nat → Nat) (p : Nat) : Int32 := match dig len tx p with
  | some a => nI a
  | none => -1
theorem hup_hup (h : Hp) (k i : Nat) (v w : Int32) : hup (hup h k i v) k i w = hup h k i w := by
  funext a j
  by_cases e : a = k
  · subst e
    simp only [hup_self]
    unfold upd
    by_cases e2 : j = i <;> simp [e2]
  · simp [hup, e]
theorem c_X3_peek {len p : Nat} {tx : Nat → Nat} (hn : 89 ≤ n) (T : TX h len tx) (hp : h 1 2 = nI p) (hp2 : p < 1000) : Ctr l D cy B yX3_peek wsX3_peek rmX3_peek 0 0 n (rf0 π) h lg [.ref (B + 1)] (uI (pkI len tx p) (rf0 π) h lg) := by
  obtain ⟨t1, t2, t3⟩ := T
  refine Ctr.of (cc := cX3_peek) (nL := 1) (own := RX3) (rt := (some .int)) (ls := [some (.ref (B + 1))]) (by decide) rfl rfl (Nat.le_of_ble_eq_true rfl) rfl ?_
  refine wp_aload_n_0 (pc' := 1) dX3_peek_0 rfl ?_
  refine wp_get_3_2 (pc' := 4) (by omega) rfl me_X3_peek_0 ic_X3_peek_3 dX3_peek_1 rfl ?_
  refine wp_if_lt (pc' := 7) (tgt := 40) dX3_peek_4 rfl rfl (fun c4 => by exfalso; rw [hp] at c4; exact absurd c4 (nI_pos (by omega))) (fun c4 => ?_)
  refine wp_aload_n_0 (pc' := 8) dX3_peek_7 rfl ?_
  refine wp_get_3_2 (pc' := 11) (by omega) rfl me_X3_peek_0 ic_X3_peek_3 dX3_peek_8 rfl ?_
  refine wp_aload_n_0 (pc' := 12) dX3_peek_11 rfl ?_
  refine wp_get_3_1 (pc' := 15) (by omega) rfl me_X3_peek_1 ic_X3_peek_3 dX3_peek_12 rfl ?_
  refine wp_icmp_ge (pc' := 18) (tgt := 40) dX3_peek_15 rfl rfl (fun c15 => ?_) (fun c15 => ?_)
  · skip -- 15 taken
    rw [hp, t1] at c15
    have hge : ¬ p < len := fun q => nI_ge q (by omega) c15
    refine wp_iconst (pc' := 41) (-1) dX3_peek_40 rfl (by decide) ?_
    refine wp_ireturn dX3_peek_41 rfl rfl (Nat.le_refl _) (Nat.le_refl _) ?_
    exact uI_of (by unfold pkI; rw [if_neg hge])
  · skip -- 15 not taken
    rw [hp, t1] at c15
    have hlt : p < len := by
      apply Classical.byContradiction
      intro q
      exact c15 (nI_le (by omega) (by omega))
    refine wp_aload_n_0 (pc' := 19) dX3_peek_18 rfl ?_
    refine wp_get_3_2 (pc' := 22) (by omega) rfl me_X3_peek_0 ic_X3_peek_3 dX3_peek_19 rfl ?_
    refine wp_sipush (pc' := 25) (200) dX3_peek_22 rfl (by decide) ?_
    refine wp_icmp_ge (pc' := 28) (tgt := 40) dX3_peek_25 rfl rfl (fun c25 => by exfalso; rw [hp] at c25; (simp (disch := omega) only [Int32.lt_iff_toInt_lt, Int32.le_iff_toInt_le, ← Int32.toInt_inj, nI_toInt, il_0, il_1, il_2, il_3, il_4, il_5, il_6, il_8, il_9, il_10, il_16, il_26, il_32, il_40, il_n4, il_n1, il_n2, il_11, il_48, il_57, il_59, il_44, il_126, il_200, il_9999, il_66666, il_10000, il_1000000, il_15, il_12, il_256, il_4096, il_53, il_52] at c25; omega)) (fun c25 => ?_)
    refine wp_aload_n_0 (pc' := 29) dX3_peek_28 rfl ?_
    refine wp_get_3_0 (pc' := 32) (by omega) rfl rfl me_X3_peek_2 ic_X3_peek_3 dX3_peek_29 rfl ?_
    refine wp_aload_n_0 (pc' := 33) dX3_peek_32 rfl ?_
    refine wp_get_3_2 (pc' := 36) (by omega) rfl me_X3_peek_0 ic_X3_peek_3 dX3_peek_33 rfl ?_
    refine wp_cald (pc' := 37) (N := 200) (by omega) rfl rfl (by rw [hp]; exact vp_in_nI (by omega) (by omega)) dX3_peek_36 rfl ?_
    refine wp_goto (tgt := 41) dX3_peek_37 rfl ?_
    refine wp_ireturn dX3_peek_41 rfl rfl (Nat.le_refl _) (Nat.le_refl _) ?_
    exact uI_of (by unfold pkI; rw [if_pos hlt, hp, nI_clamp (by omega)]; exact (t3 p hlt).1)
theorem c_X3_next {len p : Nat} {tx : Nat → Nat} (hn : 89 ≤ n) (T : TX h len tx) (hp : h 1 2 = nI p) (hp2 : p < 1000) : Ctr l D cy B yX3_next wsX3_next rmX3_next 0 0 n (rf0 π) h lg [.ref (B + 1)] (qI (fun x h' => x = pkI len tx p ∧ h' = hup h 1 2 (nI (p + 1))) (rf0 π) lg) := by
  refine Ctr.of (cc := cX3_next) (nL := 2) (own := RX3) (rt := (some .int)) (ls := [some (.ref (B + 1)), none]) (by decide) rfl rfl (Nat.le_of_ble_eq_true rfl) rfl ?_
  refine wp_aload_n_0 (pc' := 1) dX3_next_0 rfl ?_
  refine wp_callVu (pc' := 4) (c_X3_peek hn T hp (by omega)) gX3_next_X3_peek rfl rfl hy_X3_peek ⟨Nat.le_of_ble_eq_true rfl, Nat.le_of_ble_eq_true rfl⟩ ⟨rfl, rfl⟩ (Nat.le_of_ble_eq_true rfl) ⟨Nat.le_of_ble_eq_true rfl, Nat.le_of_ble_eq_true rfl⟩ (by omega) (ce3 rfl) rfl rfl dX3_next_1 rfl ?_
  refine wp_istore_n_1 (pc' := 5) dX3_next_4 (by decide) rfl rfl ?_
  refine wp_aload_n_0 (pc' := 6) dX3_next_5 rfl ?_
  refine wp_dup (pc' := 7) dX3_next_6 rfl rfl ?_
  refine wp_get_3_2 (pc' := 10) (by omega) rfl me_X3_next_0 ic_X3_next_3 dX3_next_7 rfl ?_
  refine wp_iconst (pc' := 11) (1) dX3_next_10 rfl (by decide) ?_
  refine wp_iadd (pc' := 12) dX3_next_11 rfl ?_
  refine wp_put_3_2 (pc' := 15) (by omega) rfl me_X3_next_0 ic_X3_next_3 dX3_next_12 rfl ?_
  refine wp_iload_n_1 (pc' := 16) dX3_next_15 rfl ?_
  refine wp_ireturn dX3_next_16 rfl rfl (Nat.le_refl _) (Nat.le_refl _) ?_
  exact qI_of ⟨rfl, by rw [hp, nI_1]⟩
theorem c_X3_figure (c : Int32) : Ctr l D cy B yX3_figure wsX3_figure rmX3_figure 0 0 n (rf0 π) h lg [.int c] (uI (if 48 ≤ c ∧ c ≤ 57 then c - 48 else -1) (rf0 π) h lg) := by
  refine Ctr.of (cc := cX3_figure) (nL := 1) (own := RX3) (rt := (some .int)) (ls := [some (.int c)]) (by decide) rfl rfl (Nat.le_of_ble_eq_true rfl) rfl ?_
  refine wp_iload_n_0 (pc' := 1) dX3_figure_0 rfl ?_
  refine wp_bipush (pc' := 3) (48) dX3_figure_1 rfl (by decide) ?_
  refine wp_icmp_lt (pc' := 6) (tgt := 19) dX3_figure_3 rfl rfl (fun c3 => ?_) (fun c3 => ?_)
  · skip -- 3 taken
    refine wp_iconst (pc' := 20) (-1) dX3_figure_19 rfl (by decide) ?_
    refine wp_ireturn dX3_figure_20 rfl rfl (Nat.le_refl _) (Nat.le_refl _) ?_
    exact uI_of (by
        first
        | (rw [if_pos (by (simp (disch := omega) only [Int32.lt_iff_toInt_lt, Int32.le_iff_toInt_le, ← Int32.toInt_inj, nI_toInt, il_0, il_1, il_2, il_3, il_4, il_5, il_6, il_8, il_9, il_10, il_16, il_26, il_32, il_40, il_n4, il_n1, il_n2, il_11, il_48, il_57, il_59, il_44, il_126, il_200, il_9999, il_66666, il_10000, il_1000000, il_15, il_12, il_256, il_4096, il_53, il_52] at *; omega))]; done)
        | (rw [if_neg (by (simp (disch := omega) only [Int32.lt_iff_toInt_lt, Int32.le_iff_toInt_le, ← Int32.toInt_inj, nI_toInt, il_0, il_1, il_2, il_3, il_4, il_5, il_6, il_8, il_9, il_10, il_16, il_26, il_32, il_40, il_n4, il_n1, il_n2, il_11, il_48, il_57, il_59, il_44, il_126, il_200, il_9999, il_66666, il_10000, il_1000000, il_15, il_12, il_256, il_4096, il_53, il_52] at *; omega))]))
  · skip -- 3 not taken
    refine wp_iload_n_0 (pc' := 7) dX3_figure_6 rfl ?_
    refine wp_bipush (pc' := 9) (57) dX3_figure_7 rfl (by decide) ?_
    refine wp_icmp_gt (pc' := 12) (tgt := 19) dX3_figure_9 rfl rfl (fun c9 => ?_) (fun c9 => ?_)
    · skip -- 9 taken
      refine wp_iconst (pc' := 20) (-1) dX3_figure_19 rfl (by decide) ?_
      refine wp_ireturn dX3_figure_20 rfl rfl (Nat.le_refl _) (Nat.le_refl _) ?_
      exact uI_of (by
          first
          | (rw [if_pos (by (simp (disch := omega) only [Int32.lt_iff_toInt_lt, Int32.le_iff_toInt_le, ← Int32.toInt_inj, nI_toInt, il_0, il_1, il_2, il_3, il_4, il_5, il_6, il_8, il_9, il_10, il_16, il_26, il_32, il_40, il_n4, il_n1, il_n2, il_11, il_48, il_57, il_59, il_44, il_126, il_200, il_9999, il_66666, il_10000, il_1000000, il_15, il_12, il_256, il_4096, il_53, il_52] at *; omega))]; done)
          | (rw [if_neg (by (simp (disch := omega) only [Int32.lt_iff_toInt_lt, Int32.le_iff_toInt_le, ← Int32.toInt_inj, nI_toInt, il_0, il_1, il_2, il_3, il_4, il_5, il_6, il_8, il_9, il_10, il_16, il_26, il_32, il_40, il_n4, il_n1, il_n2, il_11, il_48, il_57, il_59, il_44, il_126, il_200, il_9999, il_66666, il_10000, il_1000000, il_15, il_12, il_256, il_4096, il_53, il_52] at *; omega))]))
    · skip -- 9 not taken
      refine wp_iload_n_0 (pc' := 13) dX3_figure_12 rfl ?_
      refine wp_bipush (pc' := 15) (48) dX3_figure_13 rfl (by decide) ?_
      refine wp_isub (pc' := 16) dX3_figure_15 rfl ?_
      refine wp_goto (tgt := 20) dX3_figure_16 rfl ?_
      refine wp_ireturn dX3_figure_20 rfl rfl (Nat.le_refl _) (Nat.le_refl _) ?_
      exact uI_of (by
          first
          | (rw [if_pos (by (simp (disch := omega) only [Int32.lt_iff_toInt_lt, Int32.le_iff_toInt_le, ← Int32.toInt_inj, nI_toInt, il_0, il_1, il_2, il_3, il_4, il_5, il_6, il_8, il_9, il_10, il_16, il_26, il_32, il_40, il_n4, il_n1, il_n2, il_11, il_48, il_57, il_59, il_44, il_126, il_200, il_9999, il_66666, il_10000, il_1000000, il_15, il_12, il_256, il_4096, il_53, il_52] at *; omega))]; done)
          | (rw [if_neg (by (simp (disch := omega) only [Int32.lt_iff_toInt_lt, Int32.le_iff_toInt_le, ← Int32.toInt_inj, nI_toInt, il_0, il_1, il_2, il_3, il_4, il_5, il_6, il_8, il_9, il_10, il_16, il_26, il_32, il_40, il_n4, il_n1, il_n2, il_11, il_48, il_57, il_59, il_44, il_126, il_200, il_9999, il_66666, il_10000, il_1000000, il_15, il_12, il_256, il_4096, il_53, il_52] at *; omega))]))
theorem fig_pk {len p : Nat} {tx : Nat → Nat} (hb : ∀ i, i < len → 32 ≤ tx i ∧ tx i ≤ 126) : (if 48 ≤ pkI len tx p ∧ pkI len tx p ≤ 57 then pkI len tx p - 48 else -1) = figI len tx p := by
  unfold pkI figI dig ltr
  by_cases hp : p < len
  · simp only [hp, if_true]
    have := hb p hp
    by_cases q : 48 ≤ tx p ∧ tx p ≤ 57
    · have q1 : (48 : Int32) ≤ nI (tx p) ∧ nI (tx p) ≤ 57 := ⟨nI_le (a := 48) q.1 (by omega), nI_le (b := 57) q.2 (by omega)⟩
      rw [if_pos q1, if_pos q]
      show nI (tx p) - nI 48 = nI (tx p - 48)
      exact nI_sub q.1
    · have q1 : ¬ ((48 : Int32) ≤ nI (tx p) ∧ nI (tx p) ≤ 57) := fun z => q ⟨by have := z.1; (simp (disch := omega) only [Int32.lt_iff_toInt_lt, Int32.le_iff_toInt_le, ← Int32.toInt_inj, nI_toInt, il_0, il_1, il_2, il_3, il_4, il_5, il_6, il_8, il_9, il_10, il_16, il_26, il_32, il_40, il_n4, il_n1, il_n2, il_11, il_48, il_57, il_59, il_44, il_126, il_200, il_9999, il_66666, il_10000, il_1000000, il_15, il_12, il_256, il_4096, il_53, il_52] at this; omega), by have := z.2; (simp (disch := omega) only [Int32.lt_iff_toInt_lt, Int32.le_iff_toInt_le, ← Int32.toInt_inj, nI_toInt, il_0, il_1, il_2, il_3, il_4, il_5, il_6, il_8, il_9, il_10, il_16, il_26, il_32, il_40, il_n4, il_n1, il_n2, il_11, il_48, il_57, il_59, il_44, il_126, il_200, il_9999, il_66666, il_10000, il_1000000, il_15, il_12, il_256, il_4096, il_53, il_52] at this; omega)⟩
      rw [if_neg q1, if_neg q]
  · simp only [hp, if_false]
    rw [if_neg (by decide), if_neg (by omega)]
theorem c_fig {len p : Nat} {tx : Nat → Nat} (T : TX h len tx) : Ctr l D cy B yX3_figure wsX3_figure rmX3_figure 0 0 n (rf0 π) h lg [.int (pkI len tx p)] (uI (figI len tx p) (rf0 π) h lg) := by
  have z := c_X3_figure (l := l) (D := D) (cy := cy) (B := B) (n := n) (h := h) (lg := lg) (π := π) (pkI len tx p)
  rw [fig_pk (fun i hi => (T.2.2 i hi).2)] at z
  exact z
theorem figI_neg {len p : Nat} {tx : Nat → Nat} : figI len tx p < 0 ↔ dig len tx p = none := by
  unfold figI
  cases e : dig len tx p with
  | none => simp only [iff_true]; decide
  | some a =>
    have := dig_le e
    constructor
    · intro q; exact absurd q (nI_pos (by omega))
    · intro q; cases q
theorem figI_some {len p a : Nat} {tx : Nat → Nat} (h : dig len tx p = some a) : figI len tx p = nI a := by
  unfold figI
  rw [h]
def numI (len : Nat) (tx : Nat → Nat) (p : Nat) : Int32 := match num len tx p with
  | some a => nI a.1
  | none => -1
theorem c_X3_number {len p : Nat} {tx : Nat → Nat} (hn : 89 ≤ n) (T : TX h len tx) (hp : h 1 2 = nI p) (hp2 : p < 900) : Ctr l D cy B yX3_number wsX3_number rmX3_number 0 0 n (rf0 π) h lg [.ref (B + 1)] (qI (fun x h' => x = numI len tx p ∧ ∃ q, h' = hup h 1 2 (nI q) ∧ q ≤ p + 2 ∧ ∀ a r, num len tx p = some (a, r) → q = r) (rf0 π) lg) := by
  have T1 : TX (hup h 1 2 (nI (p + 1))) len tx := T.of_eq (hup_off (by decide)) (hup_cell (by decide))
  refine Ctr.of (cc := cX3_number) (nL := 3) (own := RX3) (rt := (some .int)) (ls := [some (.ref (B + 1)), none, none]) (by decide) rfl rfl (Nat.le_of_ble_eq_true rfl) rfl ?_
  refine wp_aload_n_0 (pc' := 1) dX3_number_0 rfl ?_
  refine wp_callVu (pc' := 4) (c_X3_peek hn T hp (by omega)) gX3_number_X3_peek rfl rfl hy_X3_peek ⟨Nat.le_of_ble_eq_true rfl, Nat.le_of_ble_eq_true rfl⟩ ⟨rfl, rfl⟩ (Nat.le_of_ble_eq_true rfl) ⟨Nat.le_of_ble_eq_true rfl, Nat.le_of_ble_eq_true rfl⟩ (by omega) (ce3 rfl) rfl rfl dX3_number_1 rfl ?_
  refine wp_callSu (pc' := 7) (c_fig T) gX3_number_X3_figure rfl rfl hz_X3_figure ⟨Nat.le_of_ble_eq_true rfl, Nat.le_of_ble_eq_true rfl⟩ ⟨rfl, rfl⟩ (Nat.le_of_ble_eq_true rfl) ⟨Nat.le_of_ble_eq_true rfl, Nat.le_of_ble_eq_true rfl⟩ rfl dX3_number_4 rfl ?_
  refine wp_istore_n_1 (pc' := 8) dX3_number_7 (by decide) rfl rfl ?_
  refine wp_aload_n_0 (pc' := 9) dX3_number_8 rfl ?_
  refine wp_dup (pc' := 10) dX3_number_9 rfl rfl ?_
  refine wp_get_3_2 (pc' := 13) (by omega) rfl me_X3_number_0 ic_X3_number_3 dX3_number_10 rfl ?_
  refine wp_iconst (pc' := 14) (1) dX3_number_13 rfl (by decide) ?_
  refine wp_iadd (pc' := 15) dX3_number_14 rfl ?_
  rw [hp, nI_1]
  refine wp_put_3_2 (pc' := 18) (by omega) rfl me_X3_number_0 ic_X3_number_3 dX3_number_15 rfl ?_
  refine wp_aload_n_0 (pc' := 19) dX3_number_18 rfl ?_
  refine wp_callVu (pc' := 22) (c_X3_peek (p := p + 1) hn T1 (hup_at _ _ _ _) (by omega)) gX3_number_X3_peek rfl rfl hy_X3_peek ⟨Nat.le_of_ble_eq_true rfl, Nat.le_of_ble_eq_true rfl⟩ ⟨rfl, rfl⟩ (Nat.le_of_ble_eq_true rfl) ⟨Nat.le_of_ble_eq_true rfl, Nat.le_of_ble_eq_true rfl⟩ (by omega) (ce3 rfl) rfl rfl dX3_number_19 rfl ?_
  refine wp_callSu (pc' := 25) (c_fig T1) gX3_number_X3_figure rfl rfl hz_X3_figure ⟨Nat.le_of_ble_eq_true rfl, Nat.le_of_ble_eq_true rfl⟩ ⟨rfl, rfl⟩ (Nat.le_of_ble_eq_true rfl) ⟨Nat.le_of_ble_eq_true rfl, Nat.le_of_ble_eq_true rfl⟩ rfl dX3_number_22 rfl ?_
  refine wp_istore_n_2 (pc' := 26) dX3_number_25 (by decide) rfl rfl ?_
  refine wp_iload_n_1 (pc' := 27) dX3_number_26 rfl ?_
  refine wp_if_lt (pc' := 30) (tgt := 34) dX3_number_27 rfl rfl (fun c27 => ?_) (fun c27 => ?_)
  · skip -- 27 taken
    have d0 := figI_neg.mp c27
    have e0 : num len tx p = none := by unfold num; rw [d0]
    refine wp_iload_n_1 (pc' := 35) dX3_number_34 rfl ?_
    refine wp_ireturn dX3_number_35 rfl rfl (Nat.le_refl _) (Nat.le_refl _) ?_
    exact qI_of ⟨by unfold numI figI; rw [e0, d0], p + 1, rfl, by omega, fun a r e => by rw [e0] at e; cases e⟩
  · skip -- 27 not taken
    have d0 : ¬ dig len tx p = none := fun q => c27 (figI_neg.mpr q)
    obtain ⟨a, ha⟩ : ∃ a, dig len tx p = some a := by
      cases e : dig len tx p with
      | none => exact absurd e d0
      | some a => exact ⟨a, rfl⟩
    refine wp_iload_n_2 (pc' := 31) dX3_number_30 rfl ?_
    refine wp_if_ge (pc' := 34) (tgt := 36) dX3_number_31 rfl rfl (fun c31 => ?_) (fun c31 => ?_)
    · skip -- 31 taken
      obtain ⟨b, hb⟩ : ∃ b, dig len tx (p + 1) = some b := by
        cases e : dig len tx (p + 1) with
        | none =>
          have := figI_neg.mpr e
          exact absurd c31 (Int32.not_le.mpr this)
        | some b => exact ⟨b, rfl⟩
      have e0 : num len tx p = some (10 * a + b, p + 2) := by unfold num; rw [ha]; simp only; rw [hb]
      refine wp_aload_n_0 (pc' := 37) dX3_number_36 rfl ?_
      refine wp_dup (pc' := 38) dX3_number_37 rfl rfl ?_
      refine wp_get_3_2 (pc' := 41) (by omega) rfl me_X3_number_0 ic_X3_number_3 dX3_number_38 rfl ?_
      refine wp_iconst (pc' := 42) (1) dX3_number_41 rfl (by decide) ?_
      refine wp_iadd (pc' := 43) dX3_number_42 rfl ?_
      refine wp_put_3_2 (pc' := 46) (by omega) rfl me_X3_number_0 ic_X3_number_3 dX3_number_43 rfl ?_
      refine wp_bipush (pc' := 48) (10) dX3_number_46 rfl (by decide) ?_
      refine wp_iload_n_1 (pc' := 49) dX3_number_48 rfl ?_
      refine wp_imul (pc' := 50) dX3_number_49 rfl ?_
      refine wp_iload_n_2 (pc' := 51) dX3_number_50 rfl ?_
      refine wp_iadd (pc' := 52) dX3_number_51 rfl ?_
      refine wp_ireturn dX3_number_52 rfl rfl (Nat.le_refl _) (Nat.le_refl _) ?_
      exact qI_of ⟨by
          unfold numI
          rw [e0, figI_some ha, figI_some hb, show (10 : Int32) = nI 10 from rfl, nI_mul, nI_add], p + 2, by rw [hup_at, hup_hup, nI_1], by omega, fun a r e => by rw [e0] at e; cases e; rfl⟩
    · skip -- 31 not taken
      have d1 : dig len tx (p + 1) = none := by
        cases e : dig len tx (p + 1) with
        | none => rfl
        | some b =>
          rw [figI_some e] at c31
          exact absurd (nI_pos' (by have := dig_le e; omega)) c31
      have e0 : num len tx p = some (a, p + 1) := by unfold num; rw [ha]; simp only; rw [d1]
      refine wp_iload_n_1 (pc' := 35) dX3_number_34 rfl ?_
      refine wp_ireturn dX3_number_35 rfl rfl (Nat.le_refl _) (Nat.le_refl _) ?_
      exact qI_of ⟨by unfold numI; rw [e0, figI_some ha], p + 1, rfl, by omega, fun a r e => by rw [e0] at e; cases e; rfl⟩
theorem numI_neg {len p : Nat} {tx : Nat → Nat} : numI len tx p < 0 ↔ num len tx p = none := by
  unfold numI
  cases e : num len tx p with
  | none => simp only [iff_true]; decide
  | some a =>
    have := num_le (a := a.1) (q := a.2) e
    constructor
    · intro q; exact absurd q (nI_pos (by omega))
    · intro q; cases q
theorem pkI_eq {len p c : Nat} {tx : Nat → Nat} (hb : ∀ i, i < len → 32 ≤ tx i ∧ tx i ≤ 126) (hc : 0 < c) (hc2 : c < 1000) : pkI len tx p = nI c ↔ ltr len tx p = c := by
  unfold pkI ltr
  by_cases hp : p < len
  · simp only [hp, if_true]
    have := hb p hp
    exact nI_eq (by omega) (by omega)
  · simp only [hp, if_false]
    constructor
    · intro q; (simp (disch := omega) only [Int32.lt_iff_toInt_lt, Int32.le_iff_toInt_le, ← Int32.toInt_inj, nI_toInt, il_0, il_1, il_2, il_3, il_4, il_5, il_6, il_8, il_9, il_10, il_16, il_26, il_32, il_40, il_n4, il_n1, il_n2, il_11, il_48, il_57, il_59, il_44, il_126, il_200, il_9999, il_66666, il_10000, il_1000000, il_15, il_12, il_256, il_4096, il_53, il_52] at q; omega)
    · intro q; omega
theorem c_X3_readPair {len p : Nat} {tx : Nat → Nat} (hn : 89 ≤ n) (T : TX h len tx) (hp : h 1 2 = nI p) (hp2 : p < 800) : Ctr l D cy B yX3_readPair wsX3_readPair rmX3_readPair 0 0 n (rf0 π) h lg [.ref (B + 1)] (qI (fun x h' => x = b2i (pair len tx p).isSome ∧ (∀ a, a ≠ 1 → h' a = h a) ∧ h' 1 1 = h 1 1 ∧ h' 1 5 = h 1 5 ∧ ∀ a b q, pair len tx p = some (a, b, q) → h' 1 2 = nI q ∧ h' 1 3 = nI a ∧ h' 1 4 = nI b) (rf0 π) lg) := by
  have hb := fun i hi => (T.2.2 i hi).2
  refine Ctr.of (cc := cX3_readPair) (nL := 1) (own := RX3) (rt := (some .boolean)) (ls := [some (.ref (B + 1))]) (by decide) rfl rfl (Nat.le_of_ble_eq_true rfl) rfl ?_
  refine wp_aload_n_0 (pc' := 1) dX3_readPair_0 rfl ?_
  refine wp_aload_n_0 (pc' := 2) dX3_readPair_1 rfl ?_
  refine wp_callVq (pc' := 5) (c_X3_number hn T hp (by omega)) gX3_readPair_X3_number rfl rfl hy_X3_number ⟨Nat.le_of_ble_eq_true rfl, Nat.le_of_ble_eq_true rfl⟩ ⟨rfl, rfl⟩ (Nat.le_of_ble_eq_true rfl) ⟨Nat.le_of_ble_eq_true rfl, Nat.le_of_ble_eq_true rfl⟩ (by omega) (ce3 rfl) rfl rfl dX3_readPair_2 rfl (fun x2 h2 q2 => ?_)
  obtain ⟨g0, q2, g1, g2, g3⟩ := q2
  subst g0
  subst g1
  refine wp_put_3_3 (pc' := 8) (by omega) rfl me_X3_readPair_0 ic_X3_readPair_3 dX3_readPair_5 rfl ?_
  refine wp_aload_n_0 (pc' := 9) dX3_readPair_8 rfl ?_
  refine wp_get_3_3 (pc' := 12) (by omega) rfl me_X3_readPair_0 ic_X3_readPair_3 dX3_readPair_9 rfl ?_
  refine wp_if_lt (pc' := 15) (tgt := 24) dX3_readPair_12 rfl rfl (fun c12 => ?_) (fun c12 => ?_)
  · skip -- 12 taken
    rw [hup_at] at c12
    have e0 := numI_neg.mp c12
    have e1 : pair len tx p = none := by unfold pair; rw [e0]
    refine wp_iconst (pc' := 25) (0) dX3_readPair_24 rfl (by decide) ?_
    refine wp_zreturn (by decide) dX3_readPair_25 rfl rfl (Nat.le_refl _) (Nat.le_refl _) ?_
    exact qI_of ⟨by rw [e1]; rfl, fun a ha => by rw [hup_cell ha, hup_cell ha], by rw [hup_off (by decide), hup_off (by decide)], by rw [hup_off (by decide), hup_off (by decide)], fun a b q e => by rw [e1] at e; cases e⟩
  · skip -- 12 not taken
    rw [hup_at] at c12
    obtain ⟨a, r, ha⟩ : ∃ a r, num len tx p = some (a, r) := by
      cases e : num len tx p with
      | none => exact absurd (numI_neg.mpr e) c12
      | some a => exact ⟨a.1, a.2, rfl⟩
    have hr := g3 a r ha
    subst hr
    have ha2 := num_le ha
    have T2 : TX (hup (hup h 1 2 (nI q2)) 1 3 (numI len tx p)) len tx := T.of_eq (by rw [hup_off (by decide), hup_off (by decide)]) (by rw [hup_cell (by decide), hup_cell (by decide)])
    refine wp_aload_n_0 (pc' := 16) dX3_readPair_15 rfl ?_
    refine wp_callVq (pc' := 19) (c_X3_next (p := q2) hn T2 (by rw [hup_off (by decide), hup_at]) (by omega)) gX3_readPair_X3_next rfl rfl hy_X3_next ⟨Nat.le_of_ble_eq_true rfl, Nat.le_of_ble_eq_true rfl⟩ ⟨rfl, rfl⟩ (Nat.le_of_ble_eq_true rfl) ⟨Nat.le_of_ble_eq_true rfl, Nat.le_of_ble_eq_true rfl⟩ (by omega) (ce3 rfl) rfl rfl dX3_readPair_16 rfl (fun x16 h16 q16 => ?_)
    obtain ⟨g4, g5⟩ := q16
    subst g4
    subst g5
    refine wp_bipush (pc' := 21) (44) dX3_readPair_19 rfl (by decide) ?_
    refine wp_icmp_eq (pc' := 24) (tgt := 26) dX3_readPair_21 rfl rfl (fun c21 => ?_) (fun c21 => ?_)
    · skip -- 21 taken
      have c44 := (pkI_eq hb (c := 44) (by omega) (by omega)).mp c21
      have T3 : TX (hup (hup (hup h 1 2 (nI q2)) 1 3 (numI len tx p)) 1 2 (nI (q2 + 1))) len tx := T2.of_eq (by rw [hup_off (by decide)]) (by rw [hup_cell (by decide)])
      refine wp_aload_n_0 (pc' := 27) dX3_readPair_26 rfl ?_
      refine wp_aload_n_0 (pc' := 28) dX3_readPair_27 rfl ?_
      refine wp_callVq (pc' := 31) (c_X3_number (p := q2 + 1) hn T3 (hup_at _ _ _ _) (by omega)) gX3_readPair_X3_number rfl rfl hy_X3_number ⟨Nat.le_of_ble_eq_true rfl, Nat.le_of_ble_eq_true rfl⟩ ⟨rfl, rfl⟩ (Nat.le_of_ble_eq_true rfl) ⟨Nat.le_of_ble_eq_true rfl, Nat.le_of_ble_eq_true rfl⟩ (by omega) (ce3 rfl) rfl rfl dX3_readPair_28 rfl (fun x28 h28 q28 => ?_)
      obtain ⟨g6, q3, g7, g8, g9⟩ := q28
      subst g6
      subst g7
      refine wp_put_3_4 (pc' := 34) (by omega) rfl me_X3_readPair_1 ic_X3_readPair_3 dX3_readPair_31 rfl ?_
      refine wp_aload_n_0 (pc' := 35) dX3_readPair_34 rfl ?_
      refine wp_get_3_4 (pc' := 38) (by omega) rfl me_X3_readPair_1 ic_X3_readPair_3 dX3_readPair_35 rfl ?_
      refine wp_if_lt (pc' := 41) (tgt := 54) dX3_readPair_38 rfl rfl (fun c38 => ?_) (fun c38 => ?_)
      · skip -- 38 taken
        rw [hup_at] at c38
        have e0 := numI_neg.mp c38
        have e1 : pair len tx p = none := by
          unfold pair
          rw [ha]
          simp only
          rw [if_pos c44, e0]
        refine wp_iconst (pc' := 55) (0) dX3_readPair_54 rfl (by decide) ?_
        refine wp_zreturn (by decide) dX3_readPair_55 rfl rfl (Nat.le_refl _) (Nat.le_refl _) ?_
        exact qI_of ⟨by rw [e1]; rfl, fun a ha => by rw [hup_cell ha, hup_cell ha, hup_cell ha, hup_cell ha, hup_cell ha], by rw [hup_off (by decide), hup_off (by decide), hup_off (by decide), hup_off (by decide), hup_off (by decide)], by rw [hup_off (by decide), hup_off (by decide), hup_off (by decide), hup_off (by decide), hup_off (by decide)], fun a b q e => by rw [e1] at e; cases e⟩
      · skip -- 38 not taken
        rw [hup_at] at c38
        obtain ⟨b, r, hb1⟩ : ∃ a r, num len tx (q2 + 1) = some (a, r) := by
          cases e : num len tx (q2 + 1) with
          | none => exact absurd (numI_neg.mpr e) c38
          | some a => exact ⟨a.1, a.2, rfl⟩
        have hr := g9 b r hb1
        subst hr
        have hb2 := num_le hb1
        have T4 : TX (hup (hup (hup (hup (hup h 1 2 (nI q2)) 1 3 (numI len tx p)) 1 2 (nI (q2 + 1))) 1 2 (nI q3)) 1 4 (numI len tx (q2 + 1))) len tx := T3.of_eq (by rw [hup_off (by decide), hup_off (by decide)]) (by rw [hup_cell (by decide), hup_cell (by decide)])
        refine wp_aload_n_0 (pc' := 42) dX3_readPair_41 rfl ?_
        refine wp_callVq (pc' := 45) (c_X3_next (p := q3) hn T4 (by rw [hup_off (by decide), hup_at]) (by omega)) gX3_readPair_X3_next rfl rfl hy_X3_next ⟨Nat.le_of_ble_eq_true rfl, Nat.le_of_ble_eq_true rfl⟩ ⟨rfl, rfl⟩ (Nat.le_of_ble_eq_true rfl) ⟨Nat.le_of_ble_eq_true rfl, Nat.le_of_ble_eq_true rfl⟩ (by omega) (ce3 rfl) rfl rfl dX3_readPair_42 rfl (fun x42 h42 q42 => ?_)
        obtain ⟨g10, g11⟩ := q42
        subst g10
        subst g11
        refine wp_bipush (pc' := 47) (59) dX3_readPair_45 rfl (by decide) ?_
        refine wp_icmp_ne (pc' := 50) (tgt := 54) dX3_readPair_47 rfl rfl (fun c47 => ?_) (fun c47 => ?_)
        · skip -- 47 taken
          have e1 : pair len tx p = none := by
            unfold pair
            rw [ha]
            simp only
            rw [if_pos c44, hb1]
            simp only
            rw [if_neg (fun z => c47 ((pkI_eq hb (c := 59) (by omega) (by omega)).mpr z))]
          refine wp_iconst (pc' := 55) (0) dX3_readPair_54 rfl (by decide) ?_
          refine wp_zreturn (by decide) dX3_readPair_55 rfl rfl (Nat.le_refl _) (Nat.le_refl _) ?_
          exact qI_of ⟨by rw [e1]; rfl, fun a ha => by rw [hup_cell ha, hup_cell ha, hup_cell ha, hup_cell ha, hup_cell ha, hup_cell ha], by rw [hup_off (by decide), hup_off (by decide), hup_off (by decide), hup_off (by decide), hup_off (by decide), hup_off (by decide)], by rw [hup_off (by decide), hup_off (by decide), hup_off (by decide), hup_off (by decide), hup_off (by decide), hup_off (by decide)], fun a b q e => by rw [e1] at e; cases e⟩
        · skip -- 47 not taken
          have c59 := (pkI_eq hb (c := 59) (by omega) (by omega)).mp c47
          have e1 : pair len tx p = some (a, b, q3 + 1) := by
            unfold pair
            rw [ha]
            simp only
            rw [if_pos c44, hb1]
            simp only
            rw [if_pos c59]
          refine wp_iconst (pc' := 51) (1) dX3_readPair_50 rfl (by decide) ?_
          refine wp_goto (tgt := 55) dX3_readPair_51 rfl ?_
          refine wp_zreturn (by decide) dX3_readPair_55 rfl rfl (Nat.le_refl _) (Nat.le_refl _) ?_
          exact qI_of ⟨by rw [e1]; rfl, fun a ha => by rw [hup_cell ha, hup_cell ha, hup_cell ha, hup_cell ha, hup_cell ha, hup_cell ha], by rw [hup_off (by decide), hup_off (by decide), hup_off (by decide), hup_off (by decide), hup_off (by decide), hup_off (by decide)], by rw [hup_off (by decide), hup_off (by decide), hup_off (by decide), hup_off (by decide), hup_off (by decide), hup_off (by decide)], fun a' b' q e => by
              rw [e1] at e
              cases e
              refine ⟨by rw [hup_at], ?_, ?_⟩
              · rw [hup_off (by decide), hup_off (by decide), hup_off (by decide), hup_off (by decide), hup_at]
                unfold numI; rw [ha]
              · rw [hup_off (by decide), hup_at]
                unfold numI; rw [hb1]⟩
    · skip -- 21 not taken
      have e1 : pair len tx p = none := by
        unfold pair
        rw [ha]
        simp only
        rw [if_neg (fun z => c21 ((pkI_eq hb (c := 44) (by omega) (by omega)).mpr z))]
      refine wp_iconst (pc' := 25) (0) dX3_readPair_24 rfl (by decide) ?_
      refine wp_zreturn (by decide) dX3_readPair_25 rfl rfl (Nat.le_refl _) (Nat.le_refl _) ?_
      exact qI_of ⟨by rw [e1]; rfl, fun a ha => by rw [hup_cell ha, hup_cell ha, hup_cell ha], by rw [hup_off (by decide), hup_off (by decide), hup_off (by decide)], by rw [hup_off (by decide), hup_off (by decide), hup_off (by decide)], fun a b q e => by rw [e1] at e; cases e⟩
end VRE

