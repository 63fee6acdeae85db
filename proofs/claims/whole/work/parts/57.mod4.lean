abbrev rmX8_count : Room := { frames := 1, cells := 0, slots := 0, locals := 20 }
theorem hy_X8_count : yX8_count.cls = RX8 ∧ yX8_count.cls ≠ "java/lang/invoke/MethodHandle" ∧ yX8_count.cls ≠ "java/lang/invoke/VarHandle" ∧ (parseMethodDescriptor yX8_count.desc).map (fun d => d.parameters.length) = some 1 := by decide +kernel
theorem hz_X8_count : yX8_count.cls ≠ "java/lang/invoke/MethodHandle" ∧ yX8_count.cls ≠ "java/lang/invoke/VarHandle" ∧ (parseMethodDescriptor yX8_count.desc).map (fun d => d.parameters.length) = some 1 := by decide +kernel
abbrev rmX8_ends : Room := { frames := 4, cells := 0, slots := 0, locals := 94 }
theorem hy_X8_ends : yX8_ends.cls = RX8 ∧ yX8_ends.cls ≠ "java/lang/invoke/MethodHandle" ∧ yX8_ends.cls ≠ "java/lang/invoke/VarHandle" ∧ (parseMethodDescriptor yX8_ends.desc).map (fun d => d.parameters.length) = some 1 := by decide +kernel
theorem hz_X8_ends : yX8_ends.cls ≠ "java/lang/invoke/MethodHandle" ∧ yX8_ends.cls ≠ "java/lang/invoke/VarHandle" ∧ (parseMethodDescriptor yX8_ends.desc).map (fun d => d.parameters.length) = some 1 := by decide +kernel
abbrev rmX8_fear : Room := { frames := 1, cells := 0, slots := 0, locals := 20 }
theorem hy_X8_fear : yX8_fear.cls = RX8 ∧ yX8_fear.cls ≠ "java/lang/invoke/MethodHandle" ∧ yX8_fear.cls ≠ "java/lang/invoke/VarHandle" ∧ (parseMethodDescriptor yX8_fear.desc).map (fun d => d.parameters.length) = some 0 := by decide +kernel
theorem hz_X8_fear : yX8_fear.cls ≠ "java/lang/invoke/MethodHandle" ∧ yX8_fear.cls ≠ "java/lang/invoke/VarHandle" ∧ (parseMethodDescriptor yX8_fear.desc).map (fun d => d.parameters.length) = some 0 := by decide +kernel
abbrev rmX8_lied : Room := { frames := 5, cells := 0, slots := 0, locals := 116 }
theorem hy_X8_lied : yX8_lied.cls = RX8 ∧ yX8_lied.cls ≠ "java/lang/invoke/MethodHandle" ∧ yX8_lied.cls ≠ "java/lang/invoke/VarHandle" ∧ (parseMethodDescriptor yX8_lied.desc).map (fun d => d.parameters.length) = some 0 := by decide +kernel
theorem hz_X8_lied : yX8_lied.cls ≠ "java/lang/invoke/MethodHandle" ∧ yX8_lied.cls ≠ "java/lang/invoke/VarHandle" ∧ (parseMethodDescriptor yX8_lied.desc).map (fun d => d.parameters.length) = some 0 := by decide +kernel
abbrev rmX8_meet : Room := { frames := 5, cells := 0, slots := 0, locals := 115 }
theorem hy_X8_meet : yX8_meet.cls = RX8 ∧ yX8_meet.cls ≠ "java/lang/invoke/MethodHandle" ∧ yX8_meet.cls ≠ "java/lang/invoke/VarHandle" ∧ (parseMethodDescriptor yX8_meet.desc).map (fun d => d.parameters.length) = some 2 := by decide +kernel
theorem hz_X8_meet : yX8_meet.cls ≠ "java/lang/invoke/MethodHandle" ∧ yX8_meet.cls ≠ "java/lang/invoke/VarHandle" ∧ (parseMethodDescriptor yX8_meet.desc).map (fun d => d.parameters.length) = some 2 := by decide +kernel
abbrev rmX8_round : Room := { frames := 3, cells := 0, slots := 0, locals := 72 }
theorem hy_X8_round : yX8_round.cls = RX8 ∧ yX8_round.cls ≠ "java/lang/invoke/MethodHandle" ∧ yX8_round.cls ≠ "java/lang/invoke/VarHandle" ∧ (parseMethodDescriptor yX8_round.desc).map (fun d => d.parameters.length) = some 1 := by decide +kernel
theorem hz_X8_round : yX8_round.cls ≠ "java/lang/invoke/MethodHandle" ∧ yX8_round.cls ≠ "java/lang/invoke/VarHandle" ∧ (parseMethodDescriptor yX8_round.desc).map (fun d => d.parameters.length) = some 1 := by decide +kernel
abbrev rmX8_walk : Room := { frames := 2, cells := 0, slots := 0, locals := 46 }
theorem hy_X8_walk : yX8_walk.cls = RX8 ∧ yX8_walk.cls ≠ "java/lang/invoke/MethodHandle" ∧ yX8_walk.cls ≠ "java/lang/invoke/VarHandle" ∧ (parseMethodDescriptor yX8_walk.desc).map (fun d => d.parameters.length) = some 2 := by decide +kernel
theorem hz_X8_walk : yX8_walk.cls ≠ "java/lang/invoke/MethodHandle" ∧ yX8_walk.cls ≠ "java/lang/invoke/VarHandle" ∧ (parseMethodDescriptor yX8_walk.desc).map (fun d => d.parameters.length) = some 2 := by decide +kernel
abbrev rmX8_ways : Room := { frames := 4, cells := 0, slots := 0, locals := 94 }
theorem hy_X8_ways : yX8_ways.cls = RX8 ∧ yX8_ways.cls ≠ "java/lang/invoke/MethodHandle" ∧ yX8_ways.cls ≠ "java/lang/invoke/VarHandle" ∧ (parseMethodDescriptor yX8_ways.desc).map (fun d => d.parameters.length) = some 1 := by decide +kernel
theorem hz_X8_ways : yX8_ways.cls ≠ "java/lang/invoke/MethodHandle" ∧ yX8_ways.cls ≠ "java/lang/invoke/VarHandle" ∧ (parseMethodDescriptor yX8_ways.desc).map (fun d => d.parameters.length) = some 1 := by decide +kernel
abbrev rmX8_wipe : Room := { frames := 0, cells := 0, slots := 0, locals := 0 }
theorem hy_X8_wipe : yX8_wipe.cls = RX8 ∧ yX8_wipe.cls ≠ "java/lang/invoke/MethodHandle" ∧ yX8_wipe.cls ≠ "java/lang/invoke/VarHandle" ∧ (parseMethodDescriptor yX8_wipe.desc).map (fun d => d.parameters.length) = some 0 := by decide +kernel
theorem hz_X8_wipe : yX8_wipe.cls ≠ "java/lang/invoke/MethodHandle" ∧ yX8_wipe.cls ≠ "java/lang/invoke/VarHandle" ∧ (parseMethodDescriptor yX8_wipe.desc).map (fun d => d.parameters.length) = some 0 := by decide +kernel
abbrev rmX8_write : Room := { frames := 1, cells := 0, slots := 0, locals := 25 }
theorem hy_X8_write : yX8_write.cls = RX8 ∧ yX8_write.cls ≠ "java/lang/invoke/MethodHandle" ∧ yX8_write.cls ≠ "java/lang/invoke/VarHandle" ∧ (parseMethodDescriptor yX8_write.desc).map (fun d => d.parameters.length) = some 1 := by decide +kernel
theorem hz_X8_write : yX8_write.cls ≠ "java/lang/invoke/MethodHandle" ∧ yX8_write.cls ≠ "java/lang/invoke/VarHandle" ∧ (parseMethodDescriptor yX8_write.desc).map (fun d => d.parameters.length) = some 1 := by decide +kernel
theorem me_X8_write_0 : Cond.constantLong RX8 66 (32) ∈ wsX8_write := by decide +kernel
theorem me_X8_write_1 : Cond.constantLong RX8 68 (126) ∈ wsX8_write := by decide +kernel
theorem me_X8_write_2 : Cond.fieldLink RX8 74 "DrawnByLostModel" "length" "I" ∈ wsX8_write := by decide +kernel
theorem me_X8_write_3 : Cond.fieldLink RX8 7 "DrawnByLostModel" "text" "[I" ∈ wsX8_write := by decide +kernel
theorem me_X8_wipe_0 : Cond.fieldLink RX8 74 "DrawnByLostModel" "length" "I" ∈ wsX8_wipe := by decide +kernel
theorem me_X8_walk_0 : Cond.fieldLink RX8 19 "DrawnByLostModel" "now" "[I" ∈ wsX8_walk := by decide +kernel
theorem me_X8_count_0 : Cond.fieldLink RX8 13 "DrawnByLostModel" "sizes" "[I" ∈ wsX8_count := by decide +kernel
theorem me_X8_count_1 : Cond.fieldLink RX8 19 "DrawnByLostModel" "now" "[I" ∈ wsX8_count := by decide +kernel
theorem me_X8_count_2 : Cond.fieldLink RX8 122 "DrawnByLostModel" "undoMany" "I" ∈ wsX8_count := by decide +kernel
theorem me_X8_count_3 : Cond.fieldLink RX8 125 "DrawnByLostModel" "keptMany" "I" ∈ wsX8_count := by decide +kernel
theorem me_X8_count_4 : Cond.fieldLink RX8 74 "DrawnByLostModel" "length" "I" ∈ wsX8_count := by decide +kernel
theorem me_X8_round_0 : Cond.fieldLink RX8 40 "DrawnByLostModel" "toward" "[I" ∈ wsX8_round := by decide +kernel
theorem me_X8_round_1 : Cond.fieldLink RX8 161 "DrawnByLostModel" "many" "I" ∈ wsX8_round := by decide +kernel
theorem me_X8_fear_0 : Cond.fieldLink RX8 19 "DrawnByLostModel" "now" "[I" ∈ wsX8_fear := by decide +kernel
theorem ic_X8_write_8 : ∀ w ∈ wsX80, w ∈ wsX8_write := by decide +kernel
theorem ic_X8_wipe_8 : ∀ w ∈ wsX80, w ∈ wsX8_wipe := by decide +kernel
theorem ic_X8_walk_8 : ∀ w ∈ wsX80, w ∈ wsX8_walk := by decide +kernel
theorem ic_X8_count_8 : ∀ w ∈ wsX80, w ∈ wsX8_count := by decide +kernel
theorem ic_X8_round_8 : ∀ w ∈ wsX80, w ∈ wsX8_round := by decide +kernel
theorem ic_X8_fear_8 : ∀ w ∈ wsX80, w ∈ wsX8_fear := by decide +kernel
-- the reference's calls: the text's letters, a walk's numbers, ways, ends, lied, meet, round, fear
section VM4
variable {l : Launch} {D : va_G} {cy : CY} {B n : Nat} {h : Hp} {lg : Lg} {π : Nat → Nat} {σ : Sg}
theorem MI.tx {h h' : Hp} {len : Nat} {tx : Nat → Nat} (X : MI h σ) (T : TM h' len tx) (e : ∀ a, 91 ≤ a → a ≤ 96 → h' a = h a) (e7 : h' 89 7 = h 89 7) (e9 : h' 89 9 = h 89 9) : MI h' ((len, tx), σ.2) := by
  obtain ⟨x1, x2, x3, x4, x5, ⟨b1, b2, b3, b4⟩, ⟨c1, c2, c3, c4⟩⟩ := X
  exact ⟨T, x2.of (by rw [e 91 (by omega) (by omega)]) (by rw [e 91 (by omega) (by omega)]), fun k hk => by rw [e 92 (by omega) (by omega)]; exact x3 k hk, x4, fun k hk => by rw [e 93 (by omega) (by omega)]; exact x5 k hk, ⟨e7.trans b1, b2, b3, by unfold BR; rw [e 95 (by omega) (by omega)]; exact b4⟩, ⟨e9.trans c1, c2, c3, by unfold BR; rw [e 96 (by omega) (by omega)]; exact c4⟩⟩
theorem c_X8_write (hn : 105 ≤ n) (X : MI h σ) (c : Int32) : Ctr l D cy B yX8_write wsX8_write rmX8_write 0 0 n (rf0 π) h lg [.ref (B + 89), .int c] (ZQ π h (aWrite σ c) (sWrite σ c)) := by
  obtain ⟨T, q, hm, ok, nr, xp, xk⟩ := id X
  obtain ⟨T1, T2, T3⟩ := T
  cases e : rg c 32 126 with
  | none =>
    rw [show aWrite σ c = -1 by simp only [aWrite, e], show sWrite σ c = σ by simp only [sWrite, e]]
    refine Ctr.of (cc := cX8_write) (nL := 2) (own := RX8) (rt := (some .int)) (ls := [some (.ref (B + 89)), some (.int c)]) (by decide) rfl rfl (Nat.le_of_ble_eq_true rfl) rfl ?_
    refine wp_iload_n_1 (pc' := 1) dX8_write_0 rfl ?_
    refine wp_i2l (pc' := 2) dX8_write_1 rfl ?_
    refine wp_ldc2 (pc' := 5) (v := (32)) me_X8_write_0 dX8_write_2 rfl ?_
    refine wp_ldc2 (pc' := 8) (v := (126)) me_X8_write_1 dX8_write_5 rfl ?_
    refine wp_callSu (pc' := 11) (c_in_rg c (lo := 32) (hi := 126) (by omega) (by omega)) gX8_write_X8_in rfl rfl hz_X8_in ⟨Nat.le_of_ble_eq_true rfl, Nat.le_of_ble_eq_true rfl⟩ ⟨rfl, rfl⟩ (Nat.le_of_ble_eq_true rfl) ⟨Nat.le_of_ble_eq_true rfl, Nat.le_of_ble_eq_true rfl⟩ rfl dX8_write_8 rfl ?_
    rw [e]
    refine wp_if_ne (pc' := 14) (tgt := 16) dX8_write_11 rfl rfl (fun c11 => by exfalso; exact c11 rfl) (fun c11 => ?_)
    refine wp_iconst (pc' := 15) (-1) dX8_write_14 rfl (by decide) ?_
    refine wp_ireturn dX8_write_15 rfl rfl (Nat.le_refl _) (Nat.le_refl _) ?_
    exact ZQ.id rfl X
  | some a =>
    obtain ⟨rfl, z1, z2⟩ := rg_some e
    by_cases z : σ.len < 200
    · rw [show aWrite σ (nI a) = nI (σ.len + 1) by simp only [aWrite, e, z, if_true], show sWrite σ (nI a) = ((σ.len + 1, upN σ.tx σ.len a), σ.2) by simp only [sWrite, e, z, if_true]]
      refine Ctr.of (cc := cX8_write) (nL := 2) (own := RX8) (rt := (some .int)) (ls := [some (.ref (B + 89)), some (.int (nI a))]) (by decide) rfl rfl (Nat.le_of_ble_eq_true rfl) rfl ?_
      refine wp_iload_n_1 (pc' := 1) dX8_write_0 rfl ?_
      refine wp_i2l (pc' := 2) dX8_write_1 rfl ?_
      refine wp_ldc2 (pc' := 5) (v := (32)) me_X8_write_0 dX8_write_2 rfl ?_
      refine wp_ldc2 (pc' := 8) (v := (126)) me_X8_write_1 dX8_write_5 rfl ?_
      refine wp_callSu (pc' := 11) (c_in_rg (nI a) (lo := 32) (hi := 126) (by omega) (by omega)) gX8_write_X8_in rfl rfl hz_X8_in ⟨Nat.le_of_ble_eq_true rfl, Nat.le_of_ble_eq_true rfl⟩ ⟨rfl, rfl⟩ (Nat.le_of_ble_eq_true rfl) ⟨Nat.le_of_ble_eq_true rfl, Nat.le_of_ble_eq_true rfl⟩ rfl dX8_write_8 rfl ?_
      rw [e]
      refine wp_if_ne (pc' := 14) (tgt := 16) dX8_write_11 rfl rfl (fun c11 => ?_) (fun c11 => by exfalso; exact absurd c11 bS)
      refine wp_aload_n_0 (pc' := 17) dX8_write_16 rfl ?_
      refine wp_get_8_0 (pc' := 20) (by omega) rfl me_X8_write_2 ic_X8_write_8 dX8_write_17 rfl ?_
      rw [T1]
      refine wp_sipush (pc' := 23) (200) dX8_write_20 rfl (by decide) ?_
      refine wp_icmp_ne (pc' := 26) (tgt := 29) dX8_write_23 rfl rfl (fun c23 => ?_) (fun c23 => by exfalso; (simp (disch := omega) only [Int32.lt_iff_toInt_lt, Int32.le_iff_toInt_le, ← Int32.toInt_inj, nI_toInt, il_0, il_1, il_2, il_3, il_4, il_5, il_6, il_8, il_9, il_10, il_16, il_26, il_32, il_40, il_n4, il_n1, il_n2, il_11, il_48, il_57, il_59, il_44, il_126, il_200, il_9999, il_66666, il_10000, il_1000000, il_15, il_12, il_256, il_4096, il_53, il_52] at c23; omega))
      refine wp_aload_n_0 (pc' := 30) dX8_write_29 rfl ?_
      refine wp_get_8_1 (pc' := 33) (by omega) rfl rfl me_X8_write_3 ic_X8_write_8 dX8_write_30 rfl ?_
      refine wp_aload_n_0 (pc' := 34) dX8_write_33 rfl ?_
      refine wp_get_8_0 (pc' := 37) (by omega) rfl me_X8_write_2 ic_X8_write_8 dX8_write_34 rfl ?_
      rw [T1]
      refine wp_iload_n_1 (pc' := 38) dX8_write_37 rfl ?_
      refine wp_iast (pc' := 39) (N := 200) (by omega) rfl rfl (by first | exact vp_in_nI (by omega) (by omega) | assumption | (unfold vp_in; decide)) dX8_write_38 rfl ?_
      refine wp_aload_n_0 (pc' := 40) dX8_write_39 rfl ?_
      refine wp_dup (pc' := 41) dX8_write_40 rfl rfl ?_
      refine wp_get_8_0 (pc' := 44) (by omega) rfl me_X8_write_2 ic_X8_write_8 dX8_write_41 rfl ?_
      rw [hup_cell (by decide), T1]
      refine wp_iconst (pc' := 45) (1) dX8_write_44 rfl (by decide) ?_
      refine wp_iadd (pc' := 46) dX8_write_45 rfl ?_
      rw [nI_1]
      refine wp_put_8_0 (pc' := 49) (by omega) rfl me_X8_write_2 ic_X8_write_8 dX8_write_46 rfl ?_
      refine wp_aload_n_0 (pc' := 50) dX8_write_49 rfl ?_
      refine wp_get_8_0 (pc' := 53) (by omega) rfl me_X8_write_2 ic_X8_write_8 dX8_write_50 rfl ?_
      rw [hup_at]
      refine wp_ireturn dX8_write_53 rfl rfl (Nat.le_refl _) (Nat.le_refl _) ?_
      refine ZQ.of rfl (X.tx ⟨hup_at _ _ _ _, by omega, fun i hi => ?_⟩ (fun a h1 h2 => by rw [hup_cell (by omega), hup_cell (by omega)]) (by rw [hup_off (by decide), hup_cell (by decide)]) (by rw [hup_off (by decide), hup_cell (by decide)])) (fun k hk => by rw [hup_cell (by omega), hup_cell (by omega)])
      rw [hup_cell (by decide), nI_clamp (by omega)]
      by_cases ei : i = σ.len
      · subst ei; rw [hup_at, upN_at]; exact ⟨rfl, z1, z2⟩
      · rw [hup_off ei, upN_off ei]; exact T3 i (by omega)
    · rw [show aWrite σ (nI a) = -3 by simp only [aWrite, e, z, if_false], show sWrite σ (nI a) = σ by simp only [sWrite, e, z, if_false]]
      refine Ctr.of (cc := cX8_write) (nL := 2) (own := RX8) (rt := (some .int)) (ls := [some (.ref (B + 89)), some (.int (nI a))]) (by decide) rfl rfl (Nat.le_of_ble_eq_true rfl) rfl ?_
      refine wp_iload_n_1 (pc' := 1) dX8_write_0 rfl ?_
      refine wp_i2l (pc' := 2) dX8_write_1 rfl ?_
      refine wp_ldc2 (pc' := 5) (v := (32)) me_X8_write_0 dX8_write_2 rfl ?_
      refine wp_ldc2 (pc' := 8) (v := (126)) me_X8_write_1 dX8_write_5 rfl ?_
      refine wp_callSu (pc' := 11) (c_in_rg (nI a) (lo := 32) (hi := 126) (by omega) (by omega)) gX8_write_X8_in rfl rfl hz_X8_in ⟨Nat.le_of_ble_eq_true rfl, Nat.le_of_ble_eq_true rfl⟩ ⟨rfl, rfl⟩ (Nat.le_of_ble_eq_true rfl) ⟨Nat.le_of_ble_eq_true rfl, Nat.le_of_ble_eq_true rfl⟩ rfl dX8_write_8 rfl ?_
      rw [e]
      refine wp_if_ne (pc' := 14) (tgt := 16) dX8_write_11 rfl rfl (fun c11 => ?_) (fun c11 => by exfalso; exact absurd c11 bS)
      refine wp_aload_n_0 (pc' := 17) dX8_write_16 rfl ?_
      refine wp_get_8_0 (pc' := 20) (by omega) rfl me_X8_write_2 ic_X8_write_8 dX8_write_17 rfl ?_
      rw [T1, show σ.len = 200 by omega]
      refine wp_sipush (pc' := 23) (200) dX8_write_20 rfl (by decide) ?_
      refine wp_icmp_ne (pc' := 26) (tgt := 29) dX8_write_23 rfl rfl (fun c23 => by exfalso; exact c23 rfl) (fun c23 => ?_)
      refine wp_bipush (pc' := 28) (-3) dX8_write_26 rfl (by decide) ?_
      refine wp_ireturn dX8_write_28 rfl rfl (Nat.le_refl _) (Nat.le_refl _) ?_
      exact ZQ.id rfl X
theorem c_X8_wipe (hn : 105 ≤ n) (X : MI h σ) : Ctr l D cy B yX8_wipe wsX8_wipe rmX8_wipe 0 0 n (rf0 π) h lg [.ref (B + 89)] (ZQ π h (nI σ.len) (sWipe σ)) := by
  obtain ⟨T, q, hm, ok, nr, xp, xk⟩ := id X
  refine Ctr.of (cc := cX8_wipe) (nL := 2) (own := RX8) (rt := (some .int)) (ls := [some (.ref (B + 89)), none]) (by decide) rfl rfl (Nat.le_of_ble_eq_true rfl) rfl ?_
  refine wp_aload_n_0 (pc' := 1) dX8_wipe_0 rfl ?_
  refine wp_get_8_0 (pc' := 4) (by omega) rfl me_X8_wipe_0 ic_X8_wipe_8 dX8_wipe_1 rfl ?_
  rw [T.1]
  refine wp_istore_n_1 (pc' := 5) dX8_wipe_4 (by decide) rfl rfl ?_
  refine wp_aload_n_0 (pc' := 6) dX8_wipe_5 rfl ?_
  refine wp_iconst (pc' := 7) (0) dX8_wipe_6 rfl (by decide) ?_
  refine wp_put_8_0 (pc' := 10) (by omega) rfl me_X8_wipe_0 ic_X8_wipe_8 dX8_wipe_7 rfl ?_
  refine wp_iload_n_1 (pc' := 11) dX8_wipe_10 rfl ?_
  refine wp_ireturn dX8_wipe_11 rfl rfl (Nat.le_refl _) (Nat.le_refl _) ?_
  exact ZQ.of rfl (X.tx ⟨by rw [hup_at]; rfl, by omega, fun i hi => absurd hi (Nat.not_lt_zero i)⟩ (fun a h1 h2 => by rw [hup_cell (by omega)]) (by rw [hup_off (by decide)]) (by rw [hup_off (by decide)])) (fun k hk => by rw [hup_cell (by omega)])
theorem idx_add {a : Nat} {k : Int32} (h1 : -2 ≤ k.toInt) (h2 : k.toInt < 1000) (h3 : 2 ≤ a) (h4 : a < 1000) : nI a + k = nI ((a : Int) + k.toInt).toNat := by
  apply Int32.toInt_inj.mp
  rw [Int32.toInt_add, nI_toInt (by omega), nI_toInt (by omega), Int.bmod_eq_of_le (by omega) (by omega)]
  omega
theorem c_X8_walk (hn : 105 ≤ n) (X : MI h σ) (w k : Int32) : Ctr l D cy B yX8_walk wsX8_walk rmX8_walk 0 0 n (rf0 π) h lg [.ref (B + 89), .int w, .int k] (ZQ π h (aWalk σ w k) σ) := by
  obtain ⟨T, q, hm, ok, nr, xp, xk⟩ := id X
  cases e : ix w (σ.ρ 16) with
  | none =>
    rw [show aWalk σ w k = -1 by simp only [aWalk, e]]
    refine Ctr.of (cc := cX8_walk) (nL := 3) (own := RX8) (rt := (some .int)) (ls := [some (.ref (B + 89)), some (.int w), some (.int k)]) (by decide) rfl rfl (Nat.le_of_ble_eq_true rfl) rfl ?_
    refine wp_aload_n_0 (pc' := 1) dX8_walk_0 rfl ?_
    refine wp_iload_n_1 (pc' := 2) dX8_walk_1 rfl ?_
    refine wp_callVu (pc' := 5) (c_X8_isWalk hn (nr 16 (by omega)) ok.2.1 _) gX8_walk_X8_isWalk rfl rfl hy_X8_isWalk ⟨Nat.le_of_ble_eq_true rfl, Nat.le_of_ble_eq_true rfl⟩ ⟨rfl, rfl⟩ (Nat.le_of_ble_eq_true rfl) ⟨Nat.le_of_ble_eq_true rfl, Nat.le_of_ble_eq_true rfl⟩ (by omega) (ce8 rfl) rfl rfl dX8_walk_2 rfl ?_
    rw [e]
    refine wp_if_eq (pc' := 8) (tgt := 14) dX8_walk_5 rfl rfl (fun c5 => ?_) (fun c5 => by exfalso; exact c5 rfl)
    refine wp_iconst (pc' := 15) (-1) dX8_walk_14 rfl (by decide) ?_
    refine wp_ireturn dX8_walk_15 rfl rfl (Nat.le_refl _) (Nat.le_refl _) ?_
    exact ZQ.id rfl X
  | some a =>
    obtain ⟨rfl, z1⟩ := ix_some e
    obtain ⟨w5, b1, b2, b3⟩ := ok.w z1
    have es : sw σ.ρ a = σ.ρ (18 + 7 * a) := rfl
    rw [show aWalk σ (nI a) k = if k.toInt < -2 then -1 else if k.toInt < (σ.ρ (18 + 7 * a) : Int) then nI (σ.ρ (((19 + 7 * a : Nat) : Int) + k.toInt).toNat) else -4 by simp only [aWalk, e], ← es]
    refine Ctr.of (cc := cX8_walk) (nL := 3) (own := RX8) (rt := (some .int)) (ls := [some (.ref (B + 89)), some (.int (nI a)), some (.int k)]) (by decide) rfl rfl (Nat.le_of_ble_eq_true rfl) rfl ?_
    refine wp_aload_n_0 (pc' := 1) dX8_walk_0 rfl ?_
    refine wp_iload_n_1 (pc' := 2) dX8_walk_1 rfl ?_
    refine wp_callVu (pc' := 5) (c_X8_isWalk hn (nr 16 (by omega)) ok.2.1 _) gX8_walk_X8_isWalk rfl rfl hy_X8_isWalk ⟨Nat.le_of_ble_eq_true rfl, Nat.le_of_ble_eq_true rfl⟩ ⟨rfl, rfl⟩ (Nat.le_of_ble_eq_true rfl) ⟨Nat.le_of_ble_eq_true rfl, Nat.le_of_ble_eq_true rfl⟩ (by omega) (ce8 rfl) rfl rfl dX8_walk_2 rfl ?_
    rw [e]
    refine wp_if_eq (pc' := 8) (tgt := 14) dX8_walk_5 rfl rfl (fun c5 => by exfalso; exact absurd c5 bS) (fun c5 => ?_)
    refine wp_iload_n_2 (pc' := 9) dX8_walk_8 rfl ?_
    refine wp_bipush (pc' := 11) (-2) dX8_walk_9 rfl (by decide) ?_
    refine wp_icmp_ge (pc' := 14) (tgt := 16) dX8_walk_11 rfl rfl (fun c11 => ?_) (fun c11 => ?_)
    · skip -- 11 taken
      refine wp_iload_n_2 (pc' := 17) dX8_walk_16 rfl ?_
      refine wp_aload_n_0 (pc' := 18) dX8_walk_17 rfl ?_
      refine wp_iload_n_1 (pc' := 19) dX8_walk_18 rfl ?_
      refine wp_callVu (pc' := 22) (c_X8_marksOf hn nr w5) gX8_walk_X8_marksOf rfl rfl hy_X8_marksOf ⟨Nat.le_of_ble_eq_true rfl, Nat.le_of_ble_eq_true rfl⟩ ⟨rfl, rfl⟩ (Nat.le_of_ble_eq_true rfl) ⟨Nat.le_of_ble_eq_true rfl, Nat.le_of_ble_eq_true rfl⟩ (by omega) (ce8 rfl) rfl rfl dX8_walk_19 rfl ?_
      refine wp_icmp_lt (pc' := 25) (tgt := 30) dX8_walk_22 rfl rfl (fun c22 => ?_) (fun c22 => ?_)
      · skip -- 22 taken
        have k1 : -2 ≤ k.toInt := by (simp (disch := omega) only [Int32.lt_iff_toInt_lt, Int32.le_iff_toInt_le, ← Int32.toInt_inj, nI_toInt, il_0, il_1, il_2, il_3, il_4, il_5, il_6, il_8, il_9, il_10, il_16, il_26, il_32, il_40, il_n4, il_n1, il_n2, il_11, il_48, il_57, il_59, il_44, il_126, il_200, il_9999, il_66666, il_10000, il_1000000, il_15, il_12, il_256, il_4096, il_53, il_52] at *; omega)
        have k2 : k.toInt < (sw σ.ρ a : Int) := by (simp (disch := omega) only [Int32.lt_iff_toInt_lt, Int32.le_iff_toInt_le, ← Int32.toInt_inj, nI_toInt, il_0, il_1, il_2, il_3, il_4, il_5, il_6, il_8, il_9, il_10, il_16, il_26, il_32, il_40, il_n4, il_n1, il_n2, il_11, il_48, il_57, il_59, il_44, il_126, il_200, il_9999, il_66666, il_10000, il_1000000, il_15, il_12, il_256, il_4096, il_53, il_52] at *; omega)
        refine wp_aload_n_0 (pc' := 31) dX8_walk_30 rfl ?_
        refine wp_get_8_4 (pc' := 34) (by omega) rfl rfl me_X8_walk_0 ic_X8_walk_8 dX8_walk_31 rfl ?_
        refine wp_bipush (pc' := 36) (17) dX8_walk_34 rfl (by decide) ?_
        refine wp_bipush (pc' := 38) (7) dX8_walk_36 rfl (by decide) ?_
        refine wp_iload_n_1 (pc' := 39) dX8_walk_38 rfl ?_
        refine wp_imul (pc' := 40) dX8_walk_39 rfl ?_
        refine wp_iadd (pc' := 41) dX8_walk_40 rfl ?_
        rw [nI_7w]
        refine wp_iconst (pc' := 42) (2) dX8_walk_41 rfl (by decide) ?_
        refine wp_iadd (pc' := 43) dX8_walk_42 rfl ?_
        rw [show (2 : Int32) = nI 2 from rfl, nI_add, show 17 + 7 * a + 2 = 19 + 7 * a by omega]
        refine wp_iload_n_2 (pc' := 44) dX8_walk_43 rfl ?_
        refine wp_iadd (pc' := 45) dX8_walk_44 rfl ?_
        rw [idx_add k1 (by omega) (by omega) (by omega)]
        refine wp_iald (pc' := 46) (N := 52) (by omega) rfl rfl (vp_in_nI (by omega) (by omega)) dX8_walk_45 rfl ?_
        refine wp_ireturn dX8_walk_46 rfl rfl (Nat.le_refl _) (Nat.le_refl _) ?_
        exact ZQ.id (by rw [if_neg (by omega), if_pos k2, nI_clamp (by omega)]; exact nr _ (by omega)) X
      · skip -- 22 not taken
        refine wp_bipush (pc' := 27) (-4) dX8_walk_25 rfl (by decide) ?_
        refine wp_goto (tgt := 46) dX8_walk_27 rfl ?_
        refine wp_ireturn dX8_walk_46 rfl rfl (Nat.le_refl _) (Nat.le_refl _) ?_
        exact ZQ.id (by rw [if_neg (by (simp (disch := omega) only [Int32.lt_iff_toInt_lt, Int32.le_iff_toInt_le, ← Int32.toInt_inj, nI_toInt, il_0, il_1, il_2, il_3, il_4, il_5, il_6, il_8, il_9, il_10, il_16, il_26, il_32, il_40, il_n4, il_n1, il_n2, il_11, il_48, il_57, il_59, il_44, il_126, il_200, il_9999, il_66666, il_10000, il_1000000, il_15, il_12, il_256, il_4096, il_53, il_52] at *; omega)), if_neg (by (simp (disch := omega) only [Int32.lt_iff_toInt_lt, Int32.le_iff_toInt_le, ← Int32.toInt_inj, nI_toInt, il_0, il_1, il_2, il_3, il_4, il_5, il_6, il_8, il_9, il_10, il_16, il_26, il_32, il_40, il_n4, il_n1, il_n2, il_11, il_48, il_57, il_59, il_44, il_126, il_200, il_9999, il_66666, il_10000, il_1000000, il_15, il_12, il_256, il_4096, il_53, il_52] at *; omega))]) X
    · skip -- 11 not taken
      refine wp_iconst (pc' := 15) (-1) dX8_walk_14 rfl (by decide) ?_
      refine wp_ireturn dX8_walk_15 rfl rfl (Nat.le_refl _) (Nat.le_refl _) ?_
      exact ZQ.id (by rw [if_pos (by (simp (disch := omega) only [Int32.lt_iff_toInt_lt, Int32.le_iff_toInt_le, ← Int32.toInt_inj, nI_toInt, il_0, il_1, il_2, il_3, il_4, il_5, il_6, il_8, il_9, il_10, il_16, il_26, il_32, il_40, il_n4, il_n1, il_n2, il_11, il_48, il_57, il_59, il_44, il_126, il_200, il_9999, il_66666, il_10000, il_1000000, il_15, il_12, il_256, il_4096, il_53, il_52] at *; omega))]) X
theorem c_X8_count (hn : 105 ≤ n) (X : MI h σ) (x : Int32) : Ctr l D cy B yX8_count wsX8_count rmX8_count 0 0 n (rf0 π) h lg [.ref (B + 89), .int x] (ZQ π h (aCount σ x) σ) := by
  obtain ⟨T, q, hm, ok, nr, xp, xk⟩ := id X
  refine Ctr.of (cc := cX8_count) (nL := 2) (own := RX8) (rt := (some .int)) (ls := [some (.ref (B + 89)), some (.int x)]) (by decide) rfl rfl (Nat.le_of_ble_eq_true rfl) rfl ?_
  refine wp_iload_n_1 (pc' := 1) dX8_count_0 rfl ?_
  rcases six x with rfl | rfl | rfl | rfl | rfl | rfl | z
  · skip -- case 0
    refine wp_tblIn (off := 39) (tgt := 40) dX8_count_1 (by decide) (by decide) rfl rfl ?_
    refine wp_aload_n_0 (pc' := 41) dX8_count_40 rfl ?_
    refine wp_callVu (pc' := 44) (c_X8_places hn q) gX8_count_X8_places rfl rfl hy_X8_places ⟨Nat.le_of_ble_eq_true rfl, Nat.le_of_ble_eq_true rfl⟩ ⟨rfl, rfl⟩ (Nat.le_of_ble_eq_true rfl) ⟨Nat.le_of_ble_eq_true rfl, Nat.le_of_ble_eq_true rfl⟩ (by omega) (ce8 rfl) rfl rfl dX8_count_41 rfl ?_
    refine wp_ireturn dX8_count_44 rfl rfl (Nat.le_refl _) (Nat.le_refl _) ?_
    exact ZQ.id (by simp only [aCount, show ix (0 : Int32) 6 = some 0 by decide]) X
  · skip -- case 1
    refine wp_tblIn (off := 44) (tgt := 45) dX8_count_1 (by decide) (by decide) rfl rfl ?_
    refine wp_aload_n_0 (pc' := 46) dX8_count_45 rfl ?_
    refine wp_get_8_2 (pc' := 49) (by omega) rfl rfl me_X8_count_0 ic_X8_count_8 dX8_count_46 rfl ?_
    refine wp_iconst (pc' := 50) (0) dX8_count_49 rfl (by decide) ?_
    refine wp_iald (pc' := 51) (N := 4) (by omega) rfl rfl (by first | exact vp_in_nI (by omega) (by omega) | assumption | (unfold vp_in; decide)) dX8_count_50 rfl ?_
    rw [show (0 : Int32).toNatClampNeg = 0 from rfl, q.2.1]
    refine wp_ireturn dX8_count_51 rfl rfl (Nat.le_refl _) (Nat.le_refl _) ?_
    exact ZQ.id (by simp only [aCount, show ix (1 : Int32) 6 = some 1 by decide]) X
  · skip -- case 2
    refine wp_tblIn (off := 51) (tgt := 52) dX8_count_1 (by decide) (by decide) rfl rfl ?_
    refine wp_aload_n_0 (pc' := 53) dX8_count_52 rfl ?_
    refine wp_get_8_4 (pc' := 56) (by omega) rfl rfl me_X8_count_1 ic_X8_count_8 dX8_count_53 rfl ?_
    refine wp_bipush (pc' := 58) (16) dX8_count_56 rfl (by decide) ?_
    refine wp_iald (pc' := 59) (N := 52) (by omega) rfl rfl (by first | exact vp_in_nI (by omega) (by omega) | assumption | (unfold vp_in; decide)) dX8_count_58 rfl ?_
    rw [show (16 : Int32).toNatClampNeg = 16 from rfl, nr 16 (by omega)]
    refine wp_ireturn dX8_count_59 rfl rfl (Nat.le_refl _) (Nat.le_refl _) ?_
    exact ZQ.id (by simp only [aCount, show ix (2 : Int32) 6 = some 2 by decide]) X
  · skip -- case 3
    refine wp_tblIn (off := 59) (tgt := 60) dX8_count_1 (by decide) (by decide) rfl rfl ?_
    refine wp_aload_n_0 (pc' := 61) dX8_count_60 rfl ?_
    refine wp_get_8_7 (pc' := 64) (by omega) rfl me_X8_count_2 ic_X8_count_8 dX8_count_61 rfl ?_
    rw [xp.1]
    refine wp_ireturn dX8_count_64 rfl rfl (Nat.le_refl _) (Nat.le_refl _) ?_
    exact ZQ.id (by simp only [aCount, show ix (3 : Int32) 6 = some 3 by decide]) X
  · skip -- case 4
    refine wp_tblIn (off := 64) (tgt := 65) dX8_count_1 (by decide) (by decide) rfl rfl ?_
    refine wp_aload_n_0 (pc' := 66) dX8_count_65 rfl ?_
    refine wp_get_8_9 (pc' := 69) (by omega) rfl me_X8_count_3 ic_X8_count_8 dX8_count_66 rfl ?_
    rw [xk.1]
    refine wp_ireturn dX8_count_69 rfl rfl (Nat.le_refl _) (Nat.le_refl _) ?_
    exact ZQ.id (by simp only [aCount, show ix (4 : Int32) 6 = some 4 by decide]) X
  · skip -- case 5
    refine wp_tblIn (off := 69) (tgt := 70) dX8_count_1 (by decide) (by decide) rfl rfl ?_
    refine wp_aload_n_0 (pc' := 71) dX8_count_70 rfl ?_
    refine wp_get_8_0 (pc' := 74) (by omega) rfl me_X8_count_4 ic_X8_count_8 dX8_count_71 rfl ?_
    rw [T.1]
    refine wp_ireturn dX8_count_74 rfl rfl (Nat.le_refl _) (Nat.le_refl _) ?_
    exact ZQ.id (by simp only [aCount, show ix (5 : Int32) 6 = some 5 by decide]) X
  · skip -- default
    refine wp_tblOut (tgt := 75) dX8_count_1 (by assumption) rfl ?_
    refine wp_iconst (pc' := 76) (-1) dX8_count_75 rfl (by decide) ?_
    refine wp_ireturn dX8_count_76 rfl rfl (Nat.le_refl _) (Nat.le_refl _) ?_
    exact ZQ.id (by simp only [aCount, show ix x 6 = none from ix_none.mpr (by omega)]) X
theorem c_X8_ways (hn : 105 ≤ n) (X : MI h σ) (w : Int32) : Ctr l D cy B yX8_ways wsX8_ways rmX8_ways 0 0 n (rf0 π) h lg [.ref (B + 89), .int w] (ZQ π h (aWays σ w) σ) := by
  obtain ⟨T, q, hm, ok, nr, xp, xk⟩ := id X
  cases e : ix w (σ.ρ 16) with
  | none =>
    rw [show aWays σ w = -1 by simp only [aWays, e]]
    refine Ctr.of (cc := cX8_ways) (nL := 2) (own := RX8) (rt := (some .int)) (ls := [some (.ref (B + 89)), some (.int w)]) (by decide) rfl rfl (Nat.le_of_ble_eq_true rfl) rfl ?_
    refine wp_aload_n_0 (pc' := 1) dX8_ways_0 rfl ?_
    refine wp_iload_n_1 (pc' := 2) dX8_ways_1 rfl ?_
    refine wp_callVu (pc' := 5) (c_X8_isWalk hn (nr 16 (by omega)) ok.2.1 _) gX8_ways_X8_isWalk rfl rfl hy_X8_isWalk ⟨Nat.le_of_ble_eq_true rfl, Nat.le_of_ble_eq_true rfl⟩ ⟨rfl, rfl⟩ (Nat.le_of_ble_eq_true rfl) ⟨Nat.le_of_ble_eq_true rfl, Nat.le_of_ble_eq_true rfl⟩ (by omega) (ce8 rfl) rfl rfl dX8_ways_2 rfl ?_
    rw [e]
    refine wp_if_eq (pc' := 8) (tgt := 16) dX8_ways_5 rfl rfl (fun c5 => ?_) (fun c5 => by exfalso; exact c5 rfl)
    refine wp_iconst (pc' := 17) (-1) dX8_ways_16 rfl (by decide) ?_
    refine wp_ireturn dX8_ways_17 rfl rfl (Nat.le_refl _) (Nat.le_refl _) ?_
    exact ZQ.id rfl X
  | some a =>
    obtain ⟨rfl, hw⟩ := ix_some e
    rw [show aWays σ (nI a) = nI (waysN σ.R σ.C σ.ρ σ.ρ a) by simp only [aWays, e]]
    refine Ctr.of (cc := cX8_ways) (nL := 2) (own := RX8) (rt := (some .int)) (ls := [some (.ref (B + 89)), some (.int (nI a))]) (by decide) rfl rfl (Nat.le_of_ble_eq_true rfl) rfl ?_
    refine wp_aload_n_0 (pc' := 1) dX8_ways_0 rfl ?_
    refine wp_iload_n_1 (pc' := 2) dX8_ways_1 rfl ?_
    refine wp_callVu (pc' := 5) (c_X8_isWalk hn (nr 16 (by omega)) ok.2.1 _) gX8_ways_X8_isWalk rfl rfl hy_X8_isWalk ⟨Nat.le_of_ble_eq_true rfl, Nat.le_of_ble_eq_true rfl⟩ ⟨rfl, rfl⟩ (Nat.le_of_ble_eq_true rfl) ⟨Nat.le_of_ble_eq_true rfl, Nat.le_of_ble_eq_true rfl⟩ (by omega) (ce8 rfl) rfl rfl dX8_ways_2 rfl ?_
    rw [e]
    refine wp_if_eq (pc' := 8) (tgt := 16) dX8_ways_5 rfl rfl (fun c5 => by exfalso; exact absurd c5 bS) (fun c5 => ?_)
    refine wp_aload_n_0 (pc' := 9) dX8_ways_8 rfl ?_
    refine wp_iload_n_1 (pc' := 10) dX8_ways_9 rfl ?_
    refine wp_callVq (pc' := 13) (c_X8_waysOf hn q nr ok hw) gX8_ways_X8_waysOf rfl rfl hy_X8_waysOf ⟨Nat.le_of_ble_eq_true rfl, Nat.le_of_ble_eq_true rfl⟩ ⟨rfl, rfl⟩ (Nat.le_of_ble_eq_true rfl) ⟨Nat.le_of_ble_eq_true rfl, Nat.le_of_ble_eq_true rfl⟩ (by omega) (ce8 rfl) rfl rfl dX8_ways_10 rfl (fun x10 h10 q10 => ?_)
    refine wp_goto (tgt := 17) dX8_ways_13 rfl ?_
    refine wp_ireturn dX8_ways_17 rfl rfl (Nat.le_refl _) (Nat.le_refl _) ?_
    exact ZQ.mf q10.1 X q10.2.1
theorem c_X8_ends (hn : 105 ≤ n) (X : MI h σ) (w : Int32) : Ctr l D cy B yX8_ends wsX8_ends rmX8_ends 0 0 n (rf0 π) h lg [.ref (B + 89), .int w] (ZQ π h (aEnds σ w) σ) := by
  obtain ⟨T, q, hm, ok, nr, xp, xk⟩ := id X
  cases e : ix w (σ.ρ 16) with
  | none =>
    rw [show aEnds σ w = -1 by simp only [aEnds, e]]
    refine Ctr.of (cc := cX8_ends) (nL := 2) (own := RX8) (rt := (some .int)) (ls := [some (.ref (B + 89)), some (.int w)]) (by decide) rfl rfl (Nat.le_of_ble_eq_true rfl) rfl ?_
    refine wp_aload_n_0 (pc' := 1) dX8_ends_0 rfl ?_
    refine wp_iload_n_1 (pc' := 2) dX8_ends_1 rfl ?_
    refine wp_callVu (pc' := 5) (c_X8_isWalk hn (nr 16 (by omega)) ok.2.1 _) gX8_ends_X8_isWalk rfl rfl hy_X8_isWalk ⟨Nat.le_of_ble_eq_true rfl, Nat.le_of_ble_eq_true rfl⟩ ⟨rfl, rfl⟩ (Nat.le_of_ble_eq_true rfl) ⟨Nat.le_of_ble_eq_true rfl, Nat.le_of_ble_eq_true rfl⟩ (by omega) (ce8 rfl) rfl rfl dX8_ends_2 rfl ?_
    rw [e]
    refine wp_if_ne (pc' := 8) (tgt := 10) dX8_ends_5 rfl rfl (fun c5 => by exfalso; exact c5 rfl) (fun c5 => ?_)
    refine wp_iconst (pc' := 9) (-1) dX8_ends_8 rfl (by decide) ?_
    refine wp_ireturn dX8_ends_9 rfl rfl (Nat.le_refl _) (Nat.le_refl _) ?_
    exact ZQ.id rfl X
  | some a =>
    obtain ⟨rfl, hw⟩ := ix_some e
    obtain ⟨w5, hk3, hs2, hs5⟩ := ok.w hw
    rw [show aEnds σ (nI a) = S (endB σ.R σ.C σ.ρ a) by simp only [aEnds, e]]
    refine Ctr.of (cc := cX8_ends) (nL := 2) (own := RX8) (rt := (some .int)) (ls := [some (.ref (B + 89)), some (.int (nI a))]) (by decide) rfl rfl (Nat.le_of_ble_eq_true rfl) rfl ?_
    refine wp_aload_n_0 (pc' := 1) dX8_ends_0 rfl ?_
    refine wp_iload_n_1 (pc' := 2) dX8_ends_1 rfl ?_
    refine wp_callVu (pc' := 5) (c_X8_isWalk hn (nr 16 (by omega)) ok.2.1 _) gX8_ends_X8_isWalk rfl rfl hy_X8_isWalk ⟨Nat.le_of_ble_eq_true rfl, Nat.le_of_ble_eq_true rfl⟩ ⟨rfl, rfl⟩ (Nat.le_of_ble_eq_true rfl) ⟨Nat.le_of_ble_eq_true rfl, Nat.le_of_ble_eq_true rfl⟩ (by omega) (ce8 rfl) rfl rfl dX8_ends_2 rfl ?_
    rw [e]
    refine wp_if_ne (pc' := 8) (tgt := 10) dX8_ends_5 rfl rfl (fun c5 => ?_) (fun c5 => by exfalso; exact absurd c5 bS)
    refine wp_aload_n_0 (pc' := 11) dX8_ends_10 rfl ?_
    refine wp_iload_n_1 (pc' := 12) dX8_ends_11 rfl ?_
    refine wp_callVv (pc' := 15) (c_X8_take hn nr ok hw) gX8_ends_X8_take rfl rfl hy_X8_take ⟨Nat.le_of_ble_eq_true rfl, Nat.le_of_ble_eq_true rfl⟩ ⟨rfl, rfl⟩ (Nat.le_of_ble_eq_true rfl) ⟨Nat.le_of_ble_eq_true rfl, Nat.le_of_ble_eq_true rfl⟩ (by omega) (ce8 rfl) rfl rfl dX8_ends_12 rfl (fun h12 q12 => ?_)
    refine wp_aload_n_0 (pc' := 16) dX8_ends_15 rfl ?_
    refine wp_callVq (pc' := 19) (c_X8_endsOf hn (q12.1.sh q) q12.2 (q12.1.nr nr) hk3 (by omega) hs5 ok.1 (fun i hi => tm_le ok hw hi)) gX8_ends_X8_endsOf rfl rfl hy_X8_endsOf ⟨Nat.le_of_ble_eq_true rfl, Nat.le_of_ble_eq_true rfl⟩ ⟨rfl, rfl⟩ (Nat.le_of_ble_eq_true rfl) ⟨Nat.le_of_ble_eq_true rfl, Nat.le_of_ble_eq_true rfl⟩ (by omega) (ce8 rfl) rfl rfl dX8_ends_16 rfl (fun x16 h16 q16 => ?_)
    refine wp_ireturn dX8_ends_19 rfl rfl (Nat.le_refl _) (Nat.le_refl _) ?_
    exact ZQ.mf q16.1 X (MF.tr (MF.hi (fun a ha => q16.2 a (by omega))) q12.1)
theorem c_X8_meet (hn : 105 ≤ n) (X : MI h σ) (x y : Int32) : Ctr l D cy B yX8_meet wsX8_meet rmX8_meet 0 0 n (rf0 π) h lg [.ref (B + 89), .int x, .int y] (ZQ π h (aMeet σ x y) σ) := by
  obtain ⟨T, q, hm, ok, nr, xp, xk⟩ := id X
  have h5 := ok.2.1
  cases e : ix x (σ.ρ 16) with
  | none =>
    rw [show aMeet σ x y = -1 by simp only [aMeet, e]]
    refine Ctr.of (cc := cX8_meet) (nL := 3) (own := RX8) (rt := (some .int)) (ls := [some (.ref (B + 89)), some (.int x), some (.int y)]) (by decide) rfl rfl (Nat.le_of_ble_eq_true rfl) rfl ?_
    refine wp_aload_n_0 (pc' := 1) dX8_meet_0 rfl ?_
    refine wp_iload_n_1 (pc' := 2) dX8_meet_1 rfl ?_
    refine wp_callVu (pc' := 5) (c_X8_isWalk hn (nr 16 (by omega)) ok.2.1 _) gX8_meet_X8_isWalk rfl rfl hy_X8_isWalk ⟨Nat.le_of_ble_eq_true rfl, Nat.le_of_ble_eq_true rfl⟩ ⟨rfl, rfl⟩ (Nat.le_of_ble_eq_true rfl) ⟨Nat.le_of_ble_eq_true rfl, Nat.le_of_ble_eq_true rfl⟩ (by omega) (ce8 rfl) rfl rfl dX8_meet_2 rfl ?_
    rw [e]
    refine wp_if_eq (pc' := 8) (tgt := 35) dX8_meet_5 rfl rfl (fun c5 => ?_) (fun c5 => by exfalso; exact c5 rfl)
    refine wp_iconst (pc' := 36) (-1) dX8_meet_35 rfl (by decide) ?_
    refine wp_ireturn dX8_meet_36 rfl rfl (Nat.le_refl _) (Nat.le_refl _) ?_
    exact ZQ.id rfl X
  | some a =>
    cases e2 : ix y (σ.ρ 16) with
    | none =>
      rw [show aMeet σ x y = -1 by simp only [aMeet, e, e2]]
      refine Ctr.of (cc := cX8_meet) (nL := 3) (own := RX8) (rt := (some .int)) (ls := [some (.ref (B + 89)), some (.int x), some (.int y)]) (by decide) rfl rfl (Nat.le_of_ble_eq_true rfl) rfl ?_
      refine wp_aload_n_0 (pc' := 1) dX8_meet_0 rfl ?_
      refine wp_iload_n_1 (pc' := 2) dX8_meet_1 rfl ?_
      refine wp_callVu (pc' := 5) (c_X8_isWalk hn (nr 16 (by omega)) ok.2.1 _) gX8_meet_X8_isWalk rfl rfl hy_X8_isWalk ⟨Nat.le_of_ble_eq_true rfl, Nat.le_of_ble_eq_true rfl⟩ ⟨rfl, rfl⟩ (Nat.le_of_ble_eq_true rfl) ⟨Nat.le_of_ble_eq_true rfl, Nat.le_of_ble_eq_true rfl⟩ (by omega) (ce8 rfl) rfl rfl dX8_meet_2 rfl ?_
      rw [e]
      refine wp_if_eq (pc' := 8) (tgt := 35) dX8_meet_5 rfl rfl (fun c5 => by exfalso; exact absurd c5 bS) (fun c5 => ?_)
      refine wp_aload_n_0 (pc' := 9) dX8_meet_8 rfl ?_
      refine wp_iload_n_2 (pc' := 10) dX8_meet_9 rfl ?_
      refine wp_callVu (pc' := 13) (c_X8_isWalk hn (nr 16 (by omega)) ok.2.1 _) gX8_meet_X8_isWalk rfl rfl hy_X8_isWalk ⟨Nat.le_of_ble_eq_true rfl, Nat.le_of_ble_eq_true rfl⟩ ⟨rfl, rfl⟩ (Nat.le_of_ble_eq_true rfl) ⟨Nat.le_of_ble_eq_true rfl, Nat.le_of_ble_eq_true rfl⟩ (by omega) (ce8 rfl) rfl rfl dX8_meet_10 rfl ?_
      rw [e2]
      refine wp_if_eq (pc' := 16) (tgt := 35) dX8_meet_13 rfl rfl (fun c13 => ?_) (fun c13 => by exfalso; exact c13 rfl)
      refine wp_iconst (pc' := 36) (-1) dX8_meet_35 rfl (by decide) ?_
      refine wp_ireturn dX8_meet_36 rfl rfl (Nat.le_refl _) (Nat.le_refl _) ?_
      exact ZQ.id rfl X
    | some b =>
      obtain ⟨rfl, z1⟩ := ix_some e
      obtain ⟨rfl, z2⟩ := ix_some e2
      have ea : aEnds σ (nI a) = S (endB σ.R σ.C σ.ρ a) := by simp only [aEnds, e]
      have eb : aEnds σ (nI b) = S (endB σ.R σ.C σ.ρ b) := by simp only [aEnds, e2]
      by_cases z : a = b
      · rw [show aMeet σ (nI a) (nI b) = -1 by simp only [aMeet, e, e2, z, if_true]]
        refine Ctr.of (cc := cX8_meet) (nL := 3) (own := RX8) (rt := (some .int)) (ls := [some (.ref (B + 89)), some (.int (nI a)), some (.int (nI b))]) (by decide) rfl rfl (Nat.le_of_ble_eq_true rfl) rfl ?_
        refine wp_aload_n_0 (pc' := 1) dX8_meet_0 rfl ?_
        refine wp_iload_n_1 (pc' := 2) dX8_meet_1 rfl ?_
        refine wp_callVu (pc' := 5) (c_X8_isWalk hn (nr 16 (by omega)) ok.2.1 _) gX8_meet_X8_isWalk rfl rfl hy_X8_isWalk ⟨Nat.le_of_ble_eq_true rfl, Nat.le_of_ble_eq_true rfl⟩ ⟨rfl, rfl⟩ (Nat.le_of_ble_eq_true rfl) ⟨Nat.le_of_ble_eq_true rfl, Nat.le_of_ble_eq_true rfl⟩ (by omega) (ce8 rfl) rfl rfl dX8_meet_2 rfl ?_
        rw [e]
        refine wp_if_eq (pc' := 8) (tgt := 35) dX8_meet_5 rfl rfl (fun c5 => by exfalso; exact absurd c5 bS) (fun c5 => ?_)
        refine wp_aload_n_0 (pc' := 9) dX8_meet_8 rfl ?_
        refine wp_iload_n_2 (pc' := 10) dX8_meet_9 rfl ?_
        refine wp_callVu (pc' := 13) (c_X8_isWalk hn (nr 16 (by omega)) ok.2.1 _) gX8_meet_X8_isWalk rfl rfl hy_X8_isWalk ⟨Nat.le_of_ble_eq_true rfl, Nat.le_of_ble_eq_true rfl⟩ ⟨rfl, rfl⟩ (Nat.le_of_ble_eq_true rfl) ⟨Nat.le_of_ble_eq_true rfl, Nat.le_of_ble_eq_true rfl⟩ (by omega) (ce8 rfl) rfl rfl dX8_meet_10 rfl ?_
        rw [e2]
        refine wp_if_eq (pc' := 16) (tgt := 35) dX8_meet_13 rfl rfl (fun c13 => by exfalso; exact absurd c13 bS) (fun c13 => ?_)
        refine wp_iload_n_1 (pc' := 17) dX8_meet_16 rfl ?_
        refine wp_iload_n_2 (pc' := 18) dX8_meet_17 rfl ?_
        refine wp_icmp_eq (pc' := 21) (tgt := 35) dX8_meet_18 rfl rfl (fun c18 => ?_) (fun c18 => by exfalso; exact c18 (by rw [z]))
        refine wp_iconst (pc' := 36) (-1) dX8_meet_35 rfl (by decide) ?_
        refine wp_ireturn dX8_meet_36 rfl rfl (Nat.le_refl _) (Nat.le_refl _) ?_
        exact ZQ.id rfl X
      · rw [show aMeet σ (nI a) (nI b) = S (endB σ.R σ.C σ.ρ a) &&& S (endB σ.R σ.C σ.ρ b) by simp only [aMeet, e, e2, z, if_false]]
        refine Ctr.of (cc := cX8_meet) (nL := 3) (own := RX8) (rt := (some .int)) (ls := [some (.ref (B + 89)), some (.int (nI a)), some (.int (nI b))]) (by decide) rfl rfl (Nat.le_of_ble_eq_true rfl) rfl ?_
        refine wp_aload_n_0 (pc' := 1) dX8_meet_0 rfl ?_
        refine wp_iload_n_1 (pc' := 2) dX8_meet_1 rfl ?_
        refine wp_callVu (pc' := 5) (c_X8_isWalk hn (nr 16 (by omega)) ok.2.1 _) gX8_meet_X8_isWalk rfl rfl hy_X8_isWalk ⟨Nat.le_of_ble_eq_true rfl, Nat.le_of_ble_eq_true rfl⟩ ⟨rfl, rfl⟩ (Nat.le_of_ble_eq_true rfl) ⟨Nat.le_of_ble_eq_true rfl, Nat.le_of_ble_eq_true rfl⟩ (by omega) (ce8 rfl) rfl rfl dX8_meet_2 rfl ?_
        rw [e]
        refine wp_if_eq (pc' := 8) (tgt := 35) dX8_meet_5 rfl rfl (fun c5 => by exfalso; exact absurd c5 bS) (fun c5 => ?_)
        refine wp_aload_n_0 (pc' := 9) dX8_meet_8 rfl ?_
        refine wp_iload_n_2 (pc' := 10) dX8_meet_9 rfl ?_
        refine wp_callVu (pc' := 13) (c_X8_isWalk hn (nr 16 (by omega)) ok.2.1 _) gX8_meet_X8_isWalk rfl rfl hy_X8_isWalk ⟨Nat.le_of_ble_eq_true rfl, Nat.le_of_ble_eq_true rfl⟩ ⟨rfl, rfl⟩ (Nat.le_of_ble_eq_true rfl) ⟨Nat.le_of_ble_eq_true rfl, Nat.le_of_ble_eq_true rfl⟩ (by omega) (ce8 rfl) rfl rfl dX8_meet_10 rfl ?_
        rw [e2]
        refine wp_if_eq (pc' := 16) (tgt := 35) dX8_meet_13 rfl rfl (fun c13 => by exfalso; exact absurd c13 bS) (fun c13 => ?_)
        refine wp_iload_n_1 (pc' := 17) dX8_meet_16 rfl ?_
        refine wp_iload_n_2 (pc' := 18) dX8_meet_17 rfl ?_
        refine wp_icmp_eq (pc' := 21) (tgt := 35) dX8_meet_18 rfl rfl (fun c18 => by exfalso; exact z ((nI_eq (by omega) (by omega)).mp c18)) (fun c18 => ?_)
        refine wp_aload_n_0 (pc' := 22) dX8_meet_21 rfl ?_
        refine wp_iload_n_1 (pc' := 23) dX8_meet_22 rfl ?_
        refine wp_callV (pc' := 26) (c_X8_ends hn X _) gX8_meet_X8_ends rfl rfl hy_X8_ends ⟨Nat.le_of_ble_eq_true rfl, Nat.le_of_ble_eq_true rfl⟩ ⟨rfl, rfl⟩ (Nat.le_of_ble_eq_true rfl) ⟨Nat.le_of_ble_eq_true rfl, Nat.le_of_ble_eq_true rfl⟩ (by omega) (ce8 rfl) rfl rfl dX8_meet_23 rfl (fun v23 r23 h23 l23 q23 => ?_)
        obtain ⟨rfl, rfl, X1, f1⟩ := q23
        refine wp_aload_n_0 (pc' := 27) dX8_meet_26 rfl ?_
        refine wp_iload_n_2 (pc' := 28) dX8_meet_27 rfl ?_
        refine wp_callV (pc' := 31) (c_X8_ends hn X1 _) gX8_meet_X8_ends rfl rfl hy_X8_ends ⟨Nat.le_of_ble_eq_true rfl, Nat.le_of_ble_eq_true rfl⟩ ⟨rfl, rfl⟩ (Nat.le_of_ble_eq_true rfl) ⟨Nat.le_of_ble_eq_true rfl, Nat.le_of_ble_eq_true rfl⟩ (by omega) (ce8 rfl) rfl rfl dX8_meet_28 rfl (fun v28 r28 h28 l28 q28 => ?_)
        obtain ⟨rfl, rfl, X2, f2⟩ := q28
        refine wp_iand (pc' := 32) dX8_meet_31 rfl ?_
        refine wp_goto (tgt := 36) dX8_meet_32 rfl ?_
        refine wp_ireturn dX8_meet_36 rfl rfl (Nat.le_refl _) (Nat.le_refl _) ?_
        exact ZQ.of (by rw [ea, eb]) X2 (fun k hk => (f2 k hk).trans (f1 k hk))
theorem c_X8_lied (hn : 105 ≤ n) (X : MI h σ) : Ctr l D cy B yX8_lied wsX8_lied rmX8_lied 0 0 n (rf0 π) h lg [.ref (B + 89)] (ZQ π h (aLied σ) σ) := by
  obtain ⟨T, q, hm, ok, nr, xp, xk⟩ := id X
  refine Ctr.of (cc := cX8_lied) (nL := 1) (own := RX8) (rt := (some .int)) (ls := [some (.ref (B + 89))]) (by decide) rfl rfl (Nat.le_of_ble_eq_true rfl) rfl ?_
  refine wp_aload_n_0 (pc' := 1) dX8_lied_0 rfl ?_
  refine wp_callVq (pc' := 4) (c_X8_liedNow hn q nr ok) gX8_lied_X8_liedNow rfl rfl hy_X8_liedNow ⟨Nat.le_of_ble_eq_true rfl, Nat.le_of_ble_eq_true rfl⟩ ⟨rfl, rfl⟩ (Nat.le_of_ble_eq_true rfl) ⟨Nat.le_of_ble_eq_true rfl, Nat.le_of_ble_eq_true rfl⟩ (by omega) (ce8 rfl) rfl rfl dX8_lied_1 rfl (fun x1 h1 q1 => ?_)
  refine wp_ireturn dX8_lied_4 rfl rfl (Nat.le_refl _) (Nat.le_refl _) ?_
  exact ZQ.mf q1.1 X q1.2
theorem lp_X8_round {R C w : Nat} {ρ : Nat → Nat} {post : PO} (hn : 105 ≤ n) (H0 : Hp) (q0 : ShM H0 R C) (nr0 : NR H0 93 ρ) (ok : RowOK ρ) (hw : w < ρ 16)
    (K : ∀ h', MF h' H0 → post (some (.int (b2i (anyB (R * C) (backB R C ρ ρ w))))) (rf0 π) h' lg) :
    ∀ d x : Nat, x + d = R * C → (∀ y, y < x → backB R C ρ ρ w y = false) → ∀ h', MF h' H0 → TK h' (kw ρ w) (sw ρ w) (tm ρ w) → WP l D cy B cX8_round 3 RX8 wsX8_round rmX8_round (some .int) (QE0 D cy B n 0 0 (post)) EX0 n (rf0 π) h' lg 0 0 17 [some (.ref (B + 89)), some (.int (nI w)), some (.int (nI x))] [] := by
  have hl := q0.1.le
  obtain ⟨w5, hk3, hs2, hs5⟩ := ok.w hw
  intro d
  induction d with
  | zero =>
    intro x hx al h' f tk
    have : x = R * C := by omega
    subst this
    have q := f.sh q0
    have z : anyB (R * C) (backB R C ρ ρ w) = false := by
      rw [Bool.eq_false_iff]
      intro q
      obtain ⟨y, h1, h2⟩ := anyB_iff.mp q
      rw [al y h1] at h2; cases h2
    rw [z] at K
    refine wp_iload_n_2 (pc' := 18) dX8_round_17 rfl ?_
    refine wp_aload_n_0 (pc' := 19) dX8_round_18 rfl ?_
    refine wp_callVu (pc' := 22) (c_X8_places hn q) gX8_round_X8_places rfl rfl hy_X8_places ⟨Nat.le_of_ble_eq_true rfl, Nat.le_of_ble_eq_true rfl⟩ ⟨rfl, rfl⟩ (Nat.le_of_ble_eq_true rfl) ⟨Nat.le_of_ble_eq_true rfl, Nat.le_of_ble_eq_true rfl⟩ (by omega) (ce8 rfl) rfl rfl dX8_round_19 rfl ?_
    refine wp_icmp_ge (pc' := 25) (tgt := 57) dX8_round_22 rfl rfl (fun c22 => ?_) (fun c22 => by exfalso; exact c22 (nI_le (Nat.le_refl _) (by omega)))
    refine wp_iconst (pc' := 58) (0) dX8_round_57 rfl (by decide) ?_
    refine wp_ireturn dX8_round_58 rfl rfl (Nat.le_refl _) (Nat.le_refl _) ?_
    exact K h' f
  | succ d ih =>
    intro x hx al h' f tk
    have q := f.sh q0
    have nr := f.nr nr0
    have cbn := cf_b (κ := kw ρ w) hl ρ (tm ρ w) (fun z => decide (z = x)) (i := sw ρ w - 1) (x := x) (by omega)
    refine wp_iload_n_2 (pc' := 18) dX8_round_17 rfl ?_
    refine wp_aload_n_0 (pc' := 19) dX8_round_18 rfl ?_
    refine wp_callVu (pc' := 22) (c_X8_places hn q) gX8_round_X8_places rfl rfl hy_X8_places ⟨Nat.le_of_ble_eq_true rfl, Nat.le_of_ble_eq_true rfl⟩ ⟨rfl, rfl⟩ (Nat.le_of_ble_eq_true rfl) ⟨Nat.le_of_ble_eq_true rfl, Nat.le_of_ble_eq_true rfl⟩ (by omega) (ce8 rfl) rfl rfl dX8_round_19 rfl ?_
    refine wp_icmp_ge (pc' := 25) (tgt := 57) dX8_round_22 rfl rfl (fun c22 => by exfalso; exact nI_ge (by omega) (by omega) c22) (fun c22 => ?_)
    refine wp_aload_n_0 (pc' := 26) dX8_round_25 rfl ?_
    refine wp_iload_n_2 (pc' := 27) dX8_round_26 rfl ?_
    refine wp_callVv (pc' := 30) (c_X8_countToward (f0 := fun z => decide (z = x)) hn q tk nr hk3 hs5 ok.1 (fun i hi => tm_le ok hw hi) (fun y hy => ⟨fun z => Or.inr (by rw [of_decide_eq_true z]), fun z => by rcases z with z | z; exact absurd z (nI_pos (by omega)); exact decide_eq_true ((nI_eq (by omega) (by omega)).mp z).symm⟩)) gX8_round_X8_countToward rfl rfl hy_X8_countToward ⟨Nat.le_of_ble_eq_true rfl, Nat.le_of_ble_eq_true rfl⟩ ⟨rfl, rfl⟩ (Nat.le_of_ble_eq_true rfl) ⟨Nat.le_of_ble_eq_true rfl, Nat.le_of_ble_eq_true rfl⟩ (by omega) (ce8 rfl) rfl rfl dX8_round_27 rfl (fun h27 q27 => ?_)
    obtain ⟨g0, g1⟩ := q27
    have f2 : MF h27 H0 := MF.tr (MF.hi (fun a ha => g0 a (by omega))) f
    have tk2 := tk.of (g0 89 (by decide)) (g0 98 (by decide))
    refine wp_aload_n_0 (pc' := 31) dX8_round_30 rfl ?_
    refine wp_get_8_17 (pc' := 34) (by omega) rfl rfl me_X8_round_0 ic_X8_round_8 dX8_round_31 rfl ?_
    refine wp_bipush (pc' := 36) (16) dX8_round_34 rfl (by decide) ?_
    refine wp_aload_n_0 (pc' := 37) dX8_round_36 rfl ?_
    refine wp_get_8_14 (pc' := 40) (by omega) rfl me_X8_round_1 ic_X8_round_8 dX8_round_37 rfl ?_
    rw [tk2.2.1]
    refine wp_iconst (pc' := 41) (1) dX8_round_40 rfl (by decide) ?_
    refine wp_isub (pc' := 42) dX8_round_41 rfl ?_
    rw [nI_pred' (by omega)]
    refine wp_imul (pc' := 43) dX8_round_42 rfl ?_
    refine wp_iload_n_2 (pc' := 44) dX8_round_43 rfl ?_
    refine wp_iadd (pc' := 45) dX8_round_44 rfl ?_
    rw [ix16]
    refine wp_iald (pc' := 46) (N := 80) (by omega) rfl rfl (by first | exact vp_in_nI (by omega) (by omega) | assumption | (unfold vp_in; decide)) dX8_round_45 rfl ?_
    rw [nI_clamp (by omega), g1 (sw ρ w - 1) x (by omega) (by omega)]
    refine wp_if_le (pc' := 49) (tgt := 51) dX8_round_46 rfl rfl (fun c46 => ?_) (fun c46 => ?_)
    · skip -- 46 taken
      refine wp_iinc_2 (pc' := 54) (v := nI (x + 1)) dX8_round_51 (by first | rfl | exact nI_1 _) (by decide) rfl rfl ?_
      refine wp_goto (tgt := 17) dX8_round_54 rfl ?_
      refine ih (x + 1) (by omega) (fun y hy => ?_) _ f2 tk2
      by_cases ey : y = x
      · subst ey
        rw [Bool.eq_false_iff]
        intro v
        exact nI_nle (fw_iff.mp v) cbn c46
      · exact al y (by omega)
    · skip -- 46 not taken
      refine wp_iconst (pc' := 50) (1) dX8_round_49 rfl (by decide) ?_
      refine wp_ireturn dX8_round_50 rfl rfl (Nat.le_refl _) (Nat.le_refl _) ?_
      have e : backB R C ρ ρ w x = true := by
        show fw _ _ _ _ _ _ _ _ = true
        rw [fw_iff]
        rcases Nat.eq_zero_or_pos (cf (kw ρ w) R C ρ (tm ρ w) (fun z => decide (z = x)) (sw ρ w - 1) x) with v | v
        · exfalso; rw [v] at c46; exact c46 (by decide)
        · exact v
      have z2 : anyB (R * C) (backB R C ρ ρ w) = true := anyB_iff.mpr ⟨x, by omega, e⟩
      rw [z2] at K
      exact K _ f2
theorem c_X8_round (hn : 105 ≤ n) (X : MI h σ) (w : Int32) : Ctr l D cy B yX8_round wsX8_round rmX8_round 0 0 n (rf0 π) h lg [.ref (B + 89), .int w] (ZQ π h (aRound σ w) σ) := by
  obtain ⟨T, q, hm, ok, nr, xp, xk⟩ := id X
  cases e : ix w (σ.ρ 16) with
  | none =>
    rw [show aRound σ w = -1 by simp only [aRound, e]]
    refine Ctr.of (cc := cX8_round) (nL := 3) (own := RX8) (rt := (some .int)) (ls := [some (.ref (B + 89)), some (.int w), none]) (by decide) rfl rfl (Nat.le_of_ble_eq_true rfl) rfl ?_
    refine wp_aload_n_0 (pc' := 1) dX8_round_0 rfl ?_
    refine wp_iload_n_1 (pc' := 2) dX8_round_1 rfl ?_
    refine wp_callVu (pc' := 5) (c_X8_isWalk hn (nr 16 (by omega)) ok.2.1 _) gX8_round_X8_isWalk rfl rfl hy_X8_isWalk ⟨Nat.le_of_ble_eq_true rfl, Nat.le_of_ble_eq_true rfl⟩ ⟨rfl, rfl⟩ (Nat.le_of_ble_eq_true rfl) ⟨Nat.le_of_ble_eq_true rfl, Nat.le_of_ble_eq_true rfl⟩ (by omega) (ce8 rfl) rfl rfl dX8_round_2 rfl ?_
    rw [e]
    refine wp_if_ne (pc' := 8) (tgt := 10) dX8_round_5 rfl rfl (fun c5 => by exfalso; exact c5 rfl) (fun c5 => ?_)
    refine wp_iconst (pc' := 9) (-1) dX8_round_8 rfl (by decide) ?_
    refine wp_ireturn dX8_round_9 rfl rfl (Nat.le_refl _) (Nat.le_refl _) ?_
    exact ZQ.id rfl X
  | some a =>
    obtain ⟨rfl, hw⟩ := ix_some e
    rw [show aRound σ (nI a) = b2i (anyB (σ.R * σ.C) (backB σ.R σ.C σ.ρ σ.ρ a)) by simp only [aRound, e]]
    refine Ctr.of (cc := cX8_round) (nL := 3) (own := RX8) (rt := (some .int)) (ls := [some (.ref (B + 89)), some (.int (nI a)), none]) (by decide) rfl rfl (Nat.le_of_ble_eq_true rfl) rfl ?_
    refine wp_aload_n_0 (pc' := 1) dX8_round_0 rfl ?_
    refine wp_iload_n_1 (pc' := 2) dX8_round_1 rfl ?_
    refine wp_callVu (pc' := 5) (c_X8_isWalk hn (nr 16 (by omega)) ok.2.1 _) gX8_round_X8_isWalk rfl rfl hy_X8_isWalk ⟨Nat.le_of_ble_eq_true rfl, Nat.le_of_ble_eq_true rfl⟩ ⟨rfl, rfl⟩ (Nat.le_of_ble_eq_true rfl) ⟨Nat.le_of_ble_eq_true rfl, Nat.le_of_ble_eq_true rfl⟩ (by omega) (ce8 rfl) rfl rfl dX8_round_2 rfl ?_
    rw [e]
    refine wp_if_ne (pc' := 8) (tgt := 10) dX8_round_5 rfl rfl (fun c5 => ?_) (fun c5 => by exfalso; exact absurd c5 bS)
    refine wp_aload_n_0 (pc' := 11) dX8_round_10 rfl ?_
    refine wp_iload_n_1 (pc' := 12) dX8_round_11 rfl ?_
    refine wp_callVv (pc' := 15) (c_X8_take hn nr ok hw) gX8_round_X8_take rfl rfl hy_X8_take ⟨Nat.le_of_ble_eq_true rfl, Nat.le_of_ble_eq_true rfl⟩ ⟨rfl, rfl⟩ (Nat.le_of_ble_eq_true rfl) ⟨Nat.le_of_ble_eq_true rfl, Nat.le_of_ble_eq_true rfl⟩ (by omega) (ce8 rfl) rfl rfl dX8_round_12 rfl (fun h12 q12 => ?_)
    refine wp_iconst (pc' := 16) (0) dX8_round_15 rfl (by decide) ?_
    refine wp_istore_n_2 (pc' := 17) dX8_round_16 (by decide) rfl rfl ?_
    exact lp_X8_round hn h q nr ok hw (fun h' f => ZQ.mf rfl X f) (σ.R * σ.C) 0 (by omega) (fun y hy => by omega) h12 q12.1 q12.2
def fsB (ρ : Nat → Nat) (x : Nat) : Nat → Bool := fun m => anyB x (fun y => decide (ρ y = m))
theorem fsB_s (ρ : Nat → Nat) (x m : Nat) : (fsB ρ x m || decide (m = ρ x)) = fsB ρ (x + 1) m := by
  unfold fsB
  rw [anyB_succ, show decide (m = ρ x) = decide (ρ x = m) from decide_eq_decide.mpr eq_comm]
theorem lp_X8_fear {R C : Nat} {ρ : Nat → Nat} {post : PO} (hn : 105 ≤ n) (q : ShM h R C) (nr : NR h 93 ρ) (h5 : ∀ i, i < 16 → ρ i ≤ 5) (K : post (some (.int (SN 6 (ferB R C ρ)))) (rf0 π) h lg) :
    ∀ d x : Nat, x + d = R * C → WP l D cy B cX8_fear 3 RX8 wsX8_fear rmX8_fear (some .int) (QE0 D cy B n 0 0 (post)) EX0 n (rf0 π) h lg 0 0 4 [some (.ref (B + 89)), some (.int (S (fsB ρ x))), some (.int (nI x))] [] := by
  have hl := q.1.le
  intro d
  induction d with
  | zero =>
    intro x hx
    have : x = R * C := by omega
    subst this
    have e : (63 : Int32) &&& (S (fsB ρ (R * C)) ^^^ (-1)) = SN 6 (ferB R C ρ) := by
      rw [show (63 : Int32) = S (fun i => decide (i < 6)) by decide, S_andnot, SN_lim _ (by omega)]
      rfl
    refine wp_iload_n_2 (pc' := 5) dX8_fear_4 rfl ?_
    refine wp_aload_n_0 (pc' := 6) dX8_fear_5 rfl ?_
    refine wp_callVu (pc' := 9) (c_X8_places hn q) gX8_fear_X8_places rfl rfl hy_X8_places ⟨Nat.le_of_ble_eq_true rfl, Nat.le_of_ble_eq_true rfl⟩ ⟨rfl, rfl⟩ (Nat.le_of_ble_eq_true rfl) ⟨Nat.le_of_ble_eq_true rfl, Nat.le_of_ble_eq_true rfl⟩ (by omega) (ce8 rfl) rfl rfl dX8_fear_6 rfl ?_
    refine wp_icmp_ge (pc' := 12) (tgt := 29) dX8_fear_9 rfl rfl (fun c9 => ?_) (fun c9 => by exfalso; exact c9 (nI_le (Nat.le_refl _) (by omega)))
    refine wp_bipush (pc' := 31) (63) dX8_fear_29 rfl (by decide) ?_
    refine wp_iload_n_1 (pc' := 32) dX8_fear_31 rfl ?_
    refine wp_iconst (pc' := 33) (-1) dX8_fear_32 rfl (by decide) ?_
    refine wp_ixor (pc' := 34) dX8_fear_33 rfl ?_
    refine wp_iand (pc' := 35) dX8_fear_34 rfl ?_
    rw [e]
    refine wp_ireturn dX8_fear_35 rfl rfl (Nat.le_refl _) (Nat.le_refl _) ?_
    exact K
  | succ d ih =>
    intro x hx
    have x5 := h5 x (by omega)
    refine wp_iload_n_2 (pc' := 5) dX8_fear_4 rfl ?_
    refine wp_aload_n_0 (pc' := 6) dX8_fear_5 rfl ?_
    refine wp_callVu (pc' := 9) (c_X8_places hn q) gX8_fear_X8_places rfl rfl hy_X8_places ⟨Nat.le_of_ble_eq_true rfl, Nat.le_of_ble_eq_true rfl⟩ ⟨rfl, rfl⟩ (Nat.le_of_ble_eq_true rfl) ⟨Nat.le_of_ble_eq_true rfl, Nat.le_of_ble_eq_true rfl⟩ (by omega) (ce8 rfl) rfl rfl dX8_fear_6 rfl ?_
    refine wp_icmp_ge (pc' := 12) (tgt := 29) dX8_fear_9 rfl rfl (fun c9 => by exfalso; exact nI_ge (by omega) (by omega) c9) (fun c9 => ?_)
    refine wp_iload_n_1 (pc' := 13) dX8_fear_12 rfl ?_
    refine wp_iconst (pc' := 14) (1) dX8_fear_13 rfl (by decide) ?_
    refine wp_aload_n_0 (pc' := 15) dX8_fear_14 rfl ?_
    refine wp_get_8_4 (pc' := 18) (by omega) rfl rfl me_X8_fear_0 ic_X8_fear_8 dX8_fear_15 rfl ?_
    refine wp_iload_n_2 (pc' := 19) dX8_fear_18 rfl ?_
    refine wp_iald (pc' := 20) (N := 52) (by omega) rfl rfl (by first | exact vp_in_nI (by omega) (by omega) | assumption | (unfold vp_in; decide)) dX8_fear_19 rfl ?_
    rw [nI_clamp (by omega), nr x (by omega)]
    refine wp_ishl (pc' := 21) dX8_fear_20 rfl ?_
    rw [S_one (by omega)]
    refine wp_ior (pc' := 22) dX8_fear_21 rfl ?_
    rw [S_or, S_ext (g := fsB ρ (x + 1)) (fun m _ => fsB_s ρ x m)]
    refine wp_istore_n_1 (pc' := 23) dX8_fear_22 (by decide) rfl rfl ?_
    refine wp_iinc_2 (pc' := 26) (v := nI (x + 1)) dX8_fear_23 (by first | rfl | exact nI_1 _) (by decide) rfl rfl ?_
    refine wp_goto (tgt := 4) dX8_fear_26 rfl ?_
    exact ih (x + 1) (by omega)
theorem c_X8_fear (hn : 105 ≤ n) (X : MI h σ) : Ctr l D cy B yX8_fear wsX8_fear rmX8_fear 0 0 n (rf0 π) h lg [.ref (B + 89)] (ZQ π h (aFear σ) σ) := by
  obtain ⟨T, q, hm, ok, nr, xp, xk⟩ := id X
  refine Ctr.of (cc := cX8_fear) (nL := 3) (own := RX8) (rt := (some .int)) (ls := [some (.ref (B + 89)), none, none]) (by decide) rfl rfl (Nat.le_of_ble_eq_true rfl) rfl ?_
  refine wp_iconst (pc' := 1) (0) dX8_fear_0 rfl (by decide) ?_
  rw [show ([Value.int 0] : List Value) = [Value.int (S (fsB σ.ρ 0))] by rw [← S_zero]; rw [S_ext (f := fun _ => false) (g := fsB σ.ρ 0) (fun i _ => by simp [fsB, anyB])]]
  refine wp_istore_n_1 (pc' := 2) dX8_fear_1 (by decide) rfl rfl ?_
  refine wp_iconst (pc' := 3) (0) dX8_fear_2 rfl (by decide) ?_
  refine wp_istore_n_2 (pc' := 4) dX8_fear_3 (by decide) rfl rfl ?_
  exact lp_X8_fear hn q nr ok.1 (ZQ.id rfl X) (σ.R * σ.C) 0 (by omega)
end VM4

