abbrev rmX7_ends : Room := { frames := 5, cells := 0, slots := 0, locals := 116 }
theorem hy_X7_ends : yX7_ends.cls = RX7 ∧ yX7_ends.cls ≠ "java/lang/invoke/MethodHandle" ∧ yX7_ends.cls ≠ "java/lang/invoke/VarHandle" ∧ (parseMethodDescriptor yX7_ends.desc).map (fun d => d.parameters.length) = some 1 := by decide +kernel
theorem hz_X7_ends : yX7_ends.cls ≠ "java/lang/invoke/MethodHandle" ∧ yX7_ends.cls ≠ "java/lang/invoke/VarHandle" ∧ (parseMethodDescriptor yX7_ends.desc).map (fun d => d.parameters.length) = some 1 := by decide +kernel
abbrev rmX7_first : Room := { frames := 5, cells := 0, slots := 0, locals := 119 }
theorem hy_X7_first : yX7_first.cls = RX7 ∧ yX7_first.cls ≠ "java/lang/invoke/MethodHandle" ∧ yX7_first.cls ≠ "java/lang/invoke/VarHandle" ∧ (parseMethodDescriptor yX7_first.desc).map (fun d => d.parameters.length) = some 2 := by decide +kernel
theorem hz_X7_first : yX7_first.cls ≠ "java/lang/invoke/MethodHandle" ∧ yX7_first.cls ≠ "java/lang/invoke/VarHandle" ∧ (parseMethodDescriptor yX7_first.desc).map (fun d => d.parameters.length) = some 2 := by decide +kernel
abbrev rmX7_lied : Room := { frames := 5, cells := 0, slots := 0, locals := 117 }
theorem hy_X7_lied : yX7_lied.cls = RX7 ∧ yX7_lied.cls ≠ "java/lang/invoke/MethodHandle" ∧ yX7_lied.cls ≠ "java/lang/invoke/VarHandle" ∧ (parseMethodDescriptor yX7_lied.desc).map (fun d => d.parameters.length) = some 0 := by decide +kernel
theorem hz_X7_lied : yX7_lied.cls ≠ "java/lang/invoke/MethodHandle" ∧ yX7_lied.cls ≠ "java/lang/invoke/VarHandle" ∧ (parseMethodDescriptor yX7_lied.desc).map (fun d => d.parameters.length) = some 0 := by decide +kernel
abbrev rmX7_meet : Room := { frames := 5, cells := 0, slots := 0, locals := 116 }
theorem hy_X7_meet : yX7_meet.cls = RX7 ∧ yX7_meet.cls ≠ "java/lang/invoke/MethodHandle" ∧ yX7_meet.cls ≠ "java/lang/invoke/VarHandle" ∧ (parseMethodDescriptor yX7_meet.desc).map (fun d => d.parameters.length) = some 2 := by decide +kernel
theorem hz_X7_meet : yX7_meet.cls ≠ "java/lang/invoke/MethodHandle" ∧ yX7_meet.cls ≠ "java/lang/invoke/VarHandle" ∧ (parseMethodDescriptor yX7_meet.desc).map (fun d => d.parameters.length) = some 2 := by decide +kernel
abbrev rmX7_nobody : Room := { frames := 5, cells := 0, slots := 0, locals := 118 }
theorem hy_X7_nobody : yX7_nobody.cls = RX7 ∧ yX7_nobody.cls ≠ "java/lang/invoke/MethodHandle" ∧ yX7_nobody.cls ≠ "java/lang/invoke/VarHandle" ∧ (parseMethodDescriptor yX7_nobody.desc).map (fun d => d.parameters.length) = some 0 := by decide +kernel
theorem hz_X7_nobody : yX7_nobody.cls ≠ "java/lang/invoke/MethodHandle" ∧ yX7_nobody.cls ≠ "java/lang/invoke/VarHandle" ∧ (parseMethodDescriptor yX7_nobody.desc).map (fun d => d.parameters.length) = some 0 := by decide +kernel
abbrev rmX7_round : Room := { frames := 5, cells := 0, slots := 0, locals := 117 }
theorem hy_X7_round : yX7_round.cls = RX7 ∧ yX7_round.cls ≠ "java/lang/invoke/MethodHandle" ∧ yX7_round.cls ≠ "java/lang/invoke/VarHandle" ∧ (parseMethodDescriptor yX7_round.desc).map (fun d => d.parameters.length) = some 1 := by decide +kernel
theorem hz_X7_round : yX7_round.cls ≠ "java/lang/invoke/MethodHandle" ∧ yX7_round.cls ≠ "java/lang/invoke/VarHandle" ∧ (parseMethodDescriptor yX7_round.desc).map (fun d => d.parameters.length) = some 1 := by decide +kernel
abbrev rmX7_ways : Room := { frames := 5, cells := 0, slots := 0, locals := 120 }
theorem hy_X7_ways : yX7_ways.cls = RX7 ∧ yX7_ways.cls ≠ "java/lang/invoke/MethodHandle" ∧ yX7_ways.cls ≠ "java/lang/invoke/VarHandle" ∧ (parseMethodDescriptor yX7_ways.desc).map (fun d => d.parameters.length) = some 1 := by decide +kernel
theorem hz_X7_ways : yX7_ways.cls ≠ "java/lang/invoke/MethodHandle" ∧ yX7_ways.cls ≠ "java/lang/invoke/VarHandle" ∧ (parseMethodDescriptor yX7_ways.desc).map (fun d => d.parameters.length) = some 1 := by decide +kernel
theorem me_X7_ways_0 : Cond.fieldLink RX7 31 "DrawnByLost" "now" "LDrawnByLost$Story;" ∈ wsX7_ways := by decide +kernel
theorem me_X7_first_0 : Cond.fieldLink RX7 31 "DrawnByLost" "now" "LDrawnByLost$Story;" ∈ wsX7_first := by decide +kernel
theorem me_X7_ends_0 : Cond.fieldLink RX7 31 "DrawnByLost" "now" "LDrawnByLost$Story;" ∈ wsX7_ends := by decide +kernel
theorem me_X7_round_0 : Cond.fieldLink RX7 31 "DrawnByLost" "now" "LDrawnByLost$Story;" ∈ wsX7_round := by decide +kernel
theorem me_X7_meet_0 : Cond.fieldLink RX7 19 "DrawnByLost" "finder" "LDrawnByLost$Finder;" ∈ wsX7_meet := by decide +kernel
theorem me_X7_meet_1 : Cond.fieldLink RX7 31 "DrawnByLost" "now" "LDrawnByLost$Story;" ∈ wsX7_meet := by decide +kernel
theorem me_X7_lied_0 : Cond.fieldLink RX7 31 "DrawnByLost" "now" "LDrawnByLost$Story;" ∈ wsX7_lied := by decide +kernel
theorem me_X7_nobody_0 : Cond.fieldLink RX7 27 "DrawnByLost" "land" "LDrawnByLost$Land;" ∈ wsX7_nobody := by decide +kernel
theorem me_X7_nobody_1 : Cond.fieldLink RX7 182 "DrawnByLost$Land" "all" "I" ∈ wsX7_nobody := by decide +kernel
theorem me_X7_nobody_2 : Cond.fieldLink RX7 31 "DrawnByLost" "now" "LDrawnByLost$Story;" ∈ wsX7_nobody := by decide +kernel
theorem ic_X7_ways_7 : ∀ w ∈ wsX70, w ∈ wsX7_ways := by decide +kernel
theorem ic_X7_first_7 : ∀ w ∈ wsX70, w ∈ wsX7_first := by decide +kernel
theorem ic_X7_ends_7 : ∀ w ∈ wsX70, w ∈ wsX7_ends := by decide +kernel
theorem ic_X7_round_7 : ∀ w ∈ wsX70, w ∈ wsX7_round := by decide +kernel
theorem ic_X7_meet_7 : ∀ w ∈ wsX70, w ∈ wsX7_meet := by decide +kernel
theorem ic_X7_lied_7 : ∀ w ∈ wsX70, w ∈ wsX7_lied := by decide +kernel
theorem ic_X7_nobody_7 : ∀ w ∈ wsX70, w ∈ wsX7_nobody := by decide +kernel
theorem ic_X7_nobody_1 : ∀ w ∈ wsX10, w ∈ wsX7_nobody := by decide +kernel
-- the class's calls: walks
section VP3
variable {l : Launch} {D : va_G} {cy : CY} {B n : Nat} {h : Hp} {lg : Lg} {π : Nat → Nat} {σ : Sg}
def aWays (σ : Sg) (w : Int32) : Int32 := match ix w (σ.ρ 16) with
  | none => -1
  | some a => nI (waysN σ.R σ.C σ.ρ σ.ρ a)
theorem XI.xr2 {h' : Hp} (X : XI h π σ) (e : ∀ a, 18 ≤ a → a ≤ 22 → h' a = h a) : XR h' 18 σ.ρ := X.2.2.2.2.1.congr e
theorem c_X7_ways (hn : 89 ≤ n) (X : XI h π σ) (w : Int32) : Ctr l D cy B yX7_ways wsX7_ways rmX7_ways 0 0 n (rf0 π) h lg [.ref (B + 0), .int w] (XQ h lg (aWays σ w) σ) := by
  obtain ⟨T, q, u, ok, xr, xp, xk⟩ := id X
  cases e : ix w (σ.ρ 16) with
  | none =>
    rw [show aWays σ w = -1 by simp only [aWays, e]]
    refine Ctr.of (cc := cX7_ways) (nL := 2) (own := RX7) (rt := (some .int)) (ls := [some (.ref (B + 0)), some (.int w)]) (by decide) rfl rfl (Nat.le_of_ble_eq_true rfl) rfl ?_
    refine wp_aload_n_0 (pc' := 1) dX7_ways_0 rfl ?_
    refine wp_iload_n_1 (pc' := 2) dX7_ways_1 rfl ?_
    refine wp_callVu (pc' := 5) (c_X7_isWalk hn xr.2.1 ok.2.1 _) gX7_ways_X7_isWalk rfl rfl hy_X7_isWalk ⟨Nat.le_of_ble_eq_true rfl, Nat.le_of_ble_eq_true rfl⟩ ⟨rfl, rfl⟩ (Nat.le_of_ble_eq_true rfl) ⟨Nat.le_of_ble_eq_true rfl, Nat.le_of_ble_eq_true rfl⟩ (by omega) (ce7 rfl) rfl rfl dX7_ways_2 rfl ?_
    rw [e]
    refine wp_if_eq (pc' := 8) (tgt := 23) dX7_ways_5 rfl rfl (fun c5 => ?_) (fun c5 => by exfalso; exact c5 rfl)
    refine wp_iconst (pc' := 24) (-1) dX7_ways_23 rfl (by decide) ?_
    refine wp_ireturn dX7_ways_24 rfl rfl (Nat.le_refl _) (Nat.le_refl _) ?_
    exact XQ.id rfl X
  | some a =>
    obtain ⟨rfl, z1⟩ := ix_some e
    rw [show aWays σ (nI a) = nI (waysN σ.R σ.C σ.ρ σ.ρ a) by simp only [aWays, e]]
    refine Ctr.of (cc := cX7_ways) (nL := 2) (own := RX7) (rt := (some .int)) (ls := [some (.ref (B + 0)), some (.int (nI a))]) (by decide) rfl rfl (Nat.le_of_ble_eq_true rfl) rfl ?_
    refine wp_aload_n_0 (pc' := 1) dX7_ways_0 rfl ?_
    refine wp_iload_n_1 (pc' := 2) dX7_ways_1 rfl ?_
    refine wp_callVu (pc' := 5) (c_X7_isWalk hn xr.2.1 ok.2.1 _) gX7_ways_X7_isWalk rfl rfl hy_X7_isWalk ⟨Nat.le_of_ble_eq_true rfl, Nat.le_of_ble_eq_true rfl⟩ ⟨rfl, rfl⟩ (Nat.le_of_ble_eq_true rfl) ⟨Nat.le_of_ble_eq_true rfl, Nat.le_of_ble_eq_true rfl⟩ (by omega) (ce7 rfl) rfl rfl dX7_ways_2 rfl ?_
    rw [e]
    refine wp_if_eq (pc' := 8) (tgt := 23) dX7_ways_5 rfl rfl (fun c5 => by exfalso; exact absurd c5 (by first | exact bS | decide)) (fun c5 => ?_)
    refine wp_aload_n_0 (pc' := 9) dX7_ways_8 rfl ?_
    refine wp_callVR (pc' := 12) (c_X7_present hn q xr ok) gX7_ways_X7_present rfl rfl hy_X7_present ⟨Nat.le_of_ble_eq_true rfl, Nat.le_of_ble_eq_true rfl⟩ ⟨rfl, rfl⟩ (Nat.le_of_ble_eq_true rfl) ⟨Nat.le_of_ble_eq_true rfl, Nat.le_of_ble_eq_true rfl⟩ (by omega) (ce7 rfl) rfl rfl dX7_ways_9 rfl (fun h9 q9 => ?_)
    refine wp_aload_n_0 (pc' := 13) dX7_ways_12 rfl ?_
    refine wp_get_7_3 (pc' := 16) (by omega) rfl rfl me_X7_ways_0 ic_X7_ways_7 dX7_ways_13 rfl ?_
    refine wp_iload_n_1 (pc' := 17) dX7_ways_16 rfl ?_
    refine wp_callVq (pc' := 20) (c_X0_rowsOf hn st18 (q.of_eq (q9.1 11 (by decide))) q9.2 (X.xr2 (fun a h1 h2 => q9.1 a (by omega))) ok z1) gX7_ways_X0_rowsOf rfl rfl hy_X0_rowsOf ⟨Nat.le_of_ble_eq_true rfl, Nat.le_of_ble_eq_true rfl⟩ ⟨rfl, rfl⟩ (Nat.le_of_ble_eq_true rfl) ⟨Nat.le_of_ble_eq_true rfl, Nat.le_of_ble_eq_true rfl⟩ (by omega) (ce0 rfl) rfl rfl dX7_ways_17 rfl (fun x17 h17 q17 => ?_)
    refine wp_goto (tgt := 24) dX7_ways_20 rfl ?_
    refine wp_ireturn dX7_ways_24 rfl rfl (Nat.le_refl _) (Nat.le_refl _) ?_
    exact XQ.sc q17.1 X (by rw [q17.2 1 (by decide) (by decide), q9.1 1 (by decide)]) (fun k hk => by unfold Kp at hk; rw [q17.2 k (by omega) (by omega), q9.1 k (by omega)])
def aFirst (σ : Sg) (w k : Int32) : Int32 := match ix w (σ.ρ 16) with
  | none => -1
  | some a => if k.toInt < 0 then -1 else if k.toInt < (σ.ρ (18 + 7 * a) : Int) then enc (fxO (kw σ.ρ a) σ.R σ.C σ.ρ (tm σ.ρ a) (sw σ.ρ a) k.toInt.toNat) else -4
theorem c_X7_first (hn : 89 ≤ n) (X : XI h π σ) (w k : Int32) : Ctr l D cy B yX7_first wsX7_first rmX7_first 0 0 n (rf0 π) h lg [.ref (B + 0), .int w, .int k] (XQ h lg (aFirst σ w k) σ) := by
  obtain ⟨T, q, u, ok, xr, xp, xk⟩ := id X
  have o2 := ok.2.1
  cases e : ix w (σ.ρ 16) with
  | none =>
    rw [show aFirst σ w k = -1 by simp only [aFirst, e]]
    refine Ctr.of (cc := cX7_first) (nL := 3) (own := RX7) (rt := (some .int)) (ls := [some (.ref (B + 0)), some (.int w), some (.int k)]) (by decide) rfl rfl (Nat.le_of_ble_eq_true rfl) rfl ?_
    refine wp_aload_n_0 (pc' := 1) dX7_first_0 rfl ?_
    refine wp_iload_n_1 (pc' := 2) dX7_first_1 rfl ?_
    refine wp_callVu (pc' := 5) (c_X7_isWalk hn xr.2.1 ok.2.1 _) gX7_first_X7_isWalk rfl rfl hy_X7_isWalk ⟨Nat.le_of_ble_eq_true rfl, Nat.le_of_ble_eq_true rfl⟩ ⟨rfl, rfl⟩ (Nat.le_of_ble_eq_true rfl) ⟨Nat.le_of_ble_eq_true rfl, Nat.le_of_ble_eq_true rfl⟩ (by omega) (ce7 rfl) rfl rfl dX7_first_2 rfl ?_
    rw [e]
    refine wp_if_eq (pc' := 8) (tgt := 12) dX7_first_5 rfl rfl (fun c5 => ?_) (fun c5 => by exfalso; exact c5 rfl)
    refine wp_iconst (pc' := 13) (-1) dX7_first_12 rfl (by decide) ?_
    refine wp_ireturn dX7_first_13 rfl rfl (Nat.le_refl _) (Nat.le_refl _) ?_
    exact XQ.id rfl X
  | some a =>
    obtain ⟨rfl, z1⟩ := ix_some e
    obtain ⟨b1, b2, b3, b4⟩ := ok.2.2 a z1
    have es : sw σ.ρ a = σ.ρ (18 + 7 * a) := rfl
    rw [show aFirst σ (nI a) k = if k.toInt < 0 then -1 else if k.toInt < (σ.ρ (18 + 7 * a) : Int) then enc (fxO (kw σ.ρ a) σ.R σ.C σ.ρ (tm σ.ρ a) (sw σ.ρ a) k.toInt.toNat) else -4 by simp only [aFirst, e]]
    refine Ctr.of (cc := cX7_first) (nL := 3) (own := RX7) (rt := (some .int)) (ls := [some (.ref (B + 0)), some (.int (nI a)), some (.int k)]) (by decide) rfl rfl (Nat.le_of_ble_eq_true rfl) rfl ?_
    refine wp_aload_n_0 (pc' := 1) dX7_first_0 rfl ?_
    refine wp_iload_n_1 (pc' := 2) dX7_first_1 rfl ?_
    refine wp_callVu (pc' := 5) (c_X7_isWalk hn xr.2.1 ok.2.1 _) gX7_first_X7_isWalk rfl rfl hy_X7_isWalk ⟨Nat.le_of_ble_eq_true rfl, Nat.le_of_ble_eq_true rfl⟩ ⟨rfl, rfl⟩ (Nat.le_of_ble_eq_true rfl) ⟨Nat.le_of_ble_eq_true rfl, Nat.le_of_ble_eq_true rfl⟩ (by omega) (ce7 rfl) rfl rfl dX7_first_2 rfl ?_
    rw [e]
    refine wp_if_eq (pc' := 8) (tgt := 12) dX7_first_5 rfl rfl (fun c5 => by exfalso; exact absurd c5 (by first | exact bS | decide)) (fun c5 => ?_)
    refine wp_iload_n_2 (pc' := 9) dX7_first_8 rfl ?_
    refine wp_if_ge (pc' := 12) (tgt := 14) dX7_first_9 rfl rfl (fun c9 => ?_) (fun c9 => ?_)
    · skip -- 9 taken
      refine wp_iload_n_2 (pc' := 15) dX7_first_14 rfl ?_
      refine wp_aload_n_0 (pc' := 16) dX7_first_15 rfl ?_
      refine wp_get_7_3 (pc' := 19) (by omega) rfl rfl me_X7_first_0 ic_X7_first_7 dX7_first_16 rfl ?_
      refine wp_iload_n_1 (pc' := 20) dX7_first_19 rfl ?_
      refine wp_callVu (pc' := 23) (c_sizeOf hn st18 xr ok z1) gX7_first_X5_sizeOf rfl rfl hy_X5_sizeOf ⟨Nat.le_of_ble_eq_true rfl, Nat.le_of_ble_eq_true rfl⟩ ⟨rfl, rfl⟩ (Nat.le_of_ble_eq_true rfl) ⟨Nat.le_of_ble_eq_true rfl, Nat.le_of_ble_eq_true rfl⟩ (by omega) (ce5 rfl) rfl rfl dX7_first_20 rfl ?_
      refine wp_icmp_ge (pc' := 26) (tgt := 42) dX7_first_23 rfl rfl (fun c23 => ?_) (fun c23 => ?_)
      · skip -- 23 taken
        rw [es] at c23
        refine wp_bipush (pc' := 44) (-4) dX7_first_42 rfl (by decide) ?_
        refine wp_ireturn dX7_first_44 rfl rfl (Nat.le_refl _) (Nat.le_refl _) ?_
        refine XQ.id ?_ X
        rw [if_neg (by (simp (disch := omega) only [Int32.lt_iff_toInt_lt, Int32.le_iff_toInt_le, ← Int32.toInt_inj, nI_toInt, il_0, il_1, il_2, il_3, il_4, il_5, il_6, il_8, il_9, il_10, il_16, il_26, il_32, il_40, il_n4, il_n1, il_n2, il_11, il_48, il_57, il_59, il_44, il_126, il_200, il_9999, il_66666, il_10000, il_1000000, il_15, il_12, il_256, il_4096, il_53, il_52] at *; omega)), if_neg (by (simp (disch := omega) only [Int32.lt_iff_toInt_lt, Int32.le_iff_toInt_le, ← Int32.toInt_inj, nI_toInt, il_0, il_1, il_2, il_3, il_4, il_5, il_6, il_8, il_9, il_10, il_16, il_26, il_32, il_40, il_n4, il_n1, il_n2, il_11, il_48, il_57, il_59, il_44, il_126, il_200, il_9999, il_66666, il_10000, il_1000000, il_15, il_12, il_256, il_4096, il_53, il_52] at *; omega))]
      · skip -- 23 not taken
        rw [es] at c23
        obtain ⟨j, hj, rfl⟩ : ∃ j, j < σ.ρ (18 + 7 * a) ∧ k = nI j := by
          have z : ¬ k < 0 := by (simp (disch := omega) only [Int32.lt_iff_toInt_lt, Int32.le_iff_toInt_le, ← Int32.toInt_inj, nI_toInt, il_0, il_1, il_2, il_3, il_4, il_5, il_6, il_8, il_9, il_10, il_16, il_26, il_32, il_40, il_n4, il_n1, il_n2, il_11, il_48, il_57, il_59, il_44, il_126, il_200, il_9999, il_66666, il_10000, il_1000000, il_15, il_12, il_256, il_4096, il_53, il_52] at *; omega)
          obtain ⟨j, hj, rfl⟩ := nI_of z
          exact ⟨j, by (simp (disch := omega) only [Int32.lt_iff_toInt_lt, Int32.le_iff_toInt_le, ← Int32.toInt_inj, nI_toInt, il_0, il_1, il_2, il_3, il_4, il_5, il_6, il_8, il_9, il_10, il_16, il_26, il_32, il_40, il_n4, il_n1, il_n2, il_11, il_48, il_57, il_59, il_44, il_126, il_200, il_9999, il_66666, il_10000, il_1000000, il_15, il_12, il_256, il_4096, il_53, il_52] at c23; omega), rfl⟩
        refine wp_aload_n_0 (pc' := 27) dX7_first_26 rfl ?_
        refine wp_callVR (pc' := 30) (c_X7_present hn q xr ok) gX7_first_X7_present rfl rfl hy_X7_present ⟨Nat.le_of_ble_eq_true rfl, Nat.le_of_ble_eq_true rfl⟩ ⟨rfl, rfl⟩ (Nat.le_of_ble_eq_true rfl) ⟨Nat.le_of_ble_eq_true rfl, Nat.le_of_ble_eq_true rfl⟩ (by omega) (ce7 rfl) rfl rfl dX7_first_27 rfl (fun h27 q27 => ?_)
        refine wp_aload_n_0 (pc' := 31) dX7_first_30 rfl ?_
        refine wp_get_7_3 (pc' := 34) (by omega) rfl rfl me_X7_first_0 ic_X7_first_7 dX7_first_31 rfl ?_
        refine wp_iload_n_1 (pc' := 35) dX7_first_34 rfl ?_
        refine wp_iload_n_2 (pc' := 36) dX7_first_35 rfl ?_
        refine wp_callVq (pc' := 39) (c_X0_onFirstRow hn st18 (q.of_eq (q27.1 11 (by decide))) q27.2 (X.xr2 (fun a h1 h2 => q27.1 a (by omega))) ok z1 hj) gX7_first_X0_onFirstRow rfl rfl hy_X0_onFirstRow ⟨Nat.le_of_ble_eq_true rfl, Nat.le_of_ble_eq_true rfl⟩ ⟨rfl, rfl⟩ (Nat.le_of_ble_eq_true rfl) ⟨Nat.le_of_ble_eq_true rfl, Nat.le_of_ble_eq_true rfl⟩ (by omega) (ce0 rfl) rfl rfl dX7_first_36 rfl (fun x36 h36 q36 => ?_)
        refine wp_goto (tgt := 44) dX7_first_39 rfl ?_
        refine wp_ireturn dX7_first_44 rfl rfl (Nat.le_refl _) (Nat.le_refl _) ?_
        refine XQ.sc ?_ X (by rw [q36.2 1 (by decide), q27.1 1 (by decide)]) (fun k hk => by unfold Kp at hk; rw [q36.2 k (by omega), q27.1 k (by omega)])
        rw [nI_toInt (by omega), if_neg (by omega), if_pos (by omega)]
        exact q36.1
    · skip -- 9 not taken
      refine wp_iconst (pc' := 13) (-1) dX7_first_12 rfl (by decide) ?_
      refine wp_ireturn dX7_first_13 rfl rfl (Nat.le_refl _) (Nat.le_refl _) ?_
      refine XQ.id ?_ X
      rw [if_pos (by (simp (disch := omega) only [Int32.lt_iff_toInt_lt, Int32.le_iff_toInt_le, ← Int32.toInt_inj, nI_toInt, il_0, il_1, il_2, il_3, il_4, il_5, il_6, il_8, il_9, il_10, il_16, il_26, il_32, il_40, il_n4, il_n1, il_n2, il_11, il_48, il_57, il_59, il_44, il_126, il_200, il_9999, il_66666, il_10000, il_1000000, il_15, il_12, il_256, il_4096, il_53, il_52] at *; omega))]
def endB (R C : Nat) (ρ : Nat → Nat) (w : Nat) : Nat → Bool := fw (kw ρ w) R C ρ (tm ρ w) (fun _ => true) (sw ρ w - 1)
def aEnds (σ : Sg) (w : Int32) : Int32 := match ix w (σ.ρ 16) with
  | none => -1
  | some a => S (endB σ.R σ.C σ.ρ a)
theorem c_X7_ends (hn : 89 ≤ n) (X : XI h π σ) (w : Int32) : Ctr l D cy B yX7_ends wsX7_ends rmX7_ends 0 0 n (rf0 π) h lg [.ref (B + 0), .int w] (XQ h lg (aEnds σ w) σ) := by
  obtain ⟨T, q, u, ok, xr, xp, xk⟩ := id X
  cases e : ix w (σ.ρ 16) with
  | none =>
    rw [show aEnds σ w = -1 by simp only [aEnds, e]]
    refine Ctr.of (cc := cX7_ends) (nL := 2) (own := RX7) (rt := (some .int)) (ls := [some (.ref (B + 0)), some (.int w)]) (by decide) rfl rfl (Nat.le_of_ble_eq_true rfl) rfl ?_
    refine wp_aload_n_0 (pc' := 1) dX7_ends_0 rfl ?_
    refine wp_iload_n_1 (pc' := 2) dX7_ends_1 rfl ?_
    refine wp_callVu (pc' := 5) (c_X7_isWalk hn xr.2.1 ok.2.1 _) gX7_ends_X7_isWalk rfl rfl hy_X7_isWalk ⟨Nat.le_of_ble_eq_true rfl, Nat.le_of_ble_eq_true rfl⟩ ⟨rfl, rfl⟩ (Nat.le_of_ble_eq_true rfl) ⟨Nat.le_of_ble_eq_true rfl, Nat.le_of_ble_eq_true rfl⟩ (by omega) (ce7 rfl) rfl rfl dX7_ends_2 rfl ?_
    rw [e]
    refine wp_if_eq (pc' := 8) (tgt := 23) dX7_ends_5 rfl rfl (fun c5 => ?_) (fun c5 => by exfalso; exact c5 rfl)
    refine wp_iconst (pc' := 24) (-1) dX7_ends_23 rfl (by decide) ?_
    refine wp_ireturn dX7_ends_24 rfl rfl (Nat.le_refl _) (Nat.le_refl _) ?_
    exact XQ.id rfl X
  | some a =>
    obtain ⟨rfl, z1⟩ := ix_some e
    rw [show aEnds σ (nI a) = S (endB σ.R σ.C σ.ρ a) by simp only [aEnds, e]]
    refine Ctr.of (cc := cX7_ends) (nL := 2) (own := RX7) (rt := (some .int)) (ls := [some (.ref (B + 0)), some (.int (nI a))]) (by decide) rfl rfl (Nat.le_of_ble_eq_true rfl) rfl ?_
    refine wp_aload_n_0 (pc' := 1) dX7_ends_0 rfl ?_
    refine wp_iload_n_1 (pc' := 2) dX7_ends_1 rfl ?_
    refine wp_callVu (pc' := 5) (c_X7_isWalk hn xr.2.1 ok.2.1 _) gX7_ends_X7_isWalk rfl rfl hy_X7_isWalk ⟨Nat.le_of_ble_eq_true rfl, Nat.le_of_ble_eq_true rfl⟩ ⟨rfl, rfl⟩ (Nat.le_of_ble_eq_true rfl) ⟨Nat.le_of_ble_eq_true rfl, Nat.le_of_ble_eq_true rfl⟩ (by omega) (ce7 rfl) rfl rfl dX7_ends_2 rfl ?_
    rw [e]
    refine wp_if_eq (pc' := 8) (tgt := 23) dX7_ends_5 rfl rfl (fun c5 => by exfalso; exact absurd c5 (by first | exact bS | decide)) (fun c5 => ?_)
    refine wp_aload_n_0 (pc' := 9) dX7_ends_8 rfl ?_
    refine wp_callVR (pc' := 12) (c_X7_present hn q xr ok) gX7_ends_X7_present rfl rfl hy_X7_present ⟨Nat.le_of_ble_eq_true rfl, Nat.le_of_ble_eq_true rfl⟩ ⟨rfl, rfl⟩ (Nat.le_of_ble_eq_true rfl) ⟨Nat.le_of_ble_eq_true rfl, Nat.le_of_ble_eq_true rfl⟩ (by omega) (ce7 rfl) rfl rfl dX7_ends_9 rfl (fun h9 q9 => ?_)
    refine wp_aload_n_0 (pc' := 13) dX7_ends_12 rfl ?_
    refine wp_get_7_3 (pc' := 16) (by omega) rfl rfl me_X7_ends_0 ic_X7_ends_7 dX7_ends_13 rfl ?_
    refine wp_iload_n_1 (pc' := 17) dX7_ends_16 rfl ?_
    refine wp_callVq (pc' := 20) (c_X0_endsOf hn st18 (q.of_eq (q9.1 11 (by decide))) q9.2 (X.xr2 (fun a h1 h2 => q9.1 a (by omega))) ok z1) gX7_ends_X0_endsOf rfl rfl hy_X0_endsOf ⟨Nat.le_of_ble_eq_true rfl, Nat.le_of_ble_eq_true rfl⟩ ⟨rfl, rfl⟩ (Nat.le_of_ble_eq_true rfl) ⟨Nat.le_of_ble_eq_true rfl, Nat.le_of_ble_eq_true rfl⟩ (by omega) (ce0 rfl) rfl rfl dX7_ends_17 rfl (fun x17 h17 q17 => ?_)
    refine wp_goto (tgt := 24) dX7_ends_20 rfl ?_
    refine wp_ireturn dX7_ends_24 rfl rfl (Nat.le_refl _) (Nat.le_refl _) ?_
    exact XQ.sc q17.1 X (by rw [q17.2 1 (by decide), q9.1 1 (by decide)]) (fun k hk => by unfold Kp at hk; rw [q17.2 k (by omega), q9.1 k (by omega)])
def aRound (σ : Sg) (w : Int32) : Int32 := match ix w (σ.ρ 16) with
  | none => -1
  | some a => b2i (anyB (σ.R * σ.C) (backB σ.R σ.C σ.ρ σ.ρ a))
theorem c_X7_round (hn : 89 ≤ n) (X : XI h π σ) (w : Int32) : Ctr l D cy B yX7_round wsX7_round rmX7_round 0 0 n (rf0 π) h lg [.ref (B + 0), .int w] (XQ h lg (aRound σ w) σ) := by
  obtain ⟨T, q, u, ok, xr, xp, xk⟩ := id X
  cases e : ix w (σ.ρ 16) with
  | none =>
    rw [show aRound σ w = -1 by simp only [aRound, e]]
    refine Ctr.of (cc := cX7_round) (nL := 2) (own := RX7) (rt := (some .int)) (ls := [some (.ref (B + 0)), some (.int w)]) (by decide) rfl rfl (Nat.le_of_ble_eq_true rfl) rfl ?_
    refine wp_aload_n_0 (pc' := 1) dX7_round_0 rfl ?_
    refine wp_iload_n_1 (pc' := 2) dX7_round_1 rfl ?_
    refine wp_callVu (pc' := 5) (c_X7_isWalk hn xr.2.1 ok.2.1 _) gX7_round_X7_isWalk rfl rfl hy_X7_isWalk ⟨Nat.le_of_ble_eq_true rfl, Nat.le_of_ble_eq_true rfl⟩ ⟨rfl, rfl⟩ (Nat.le_of_ble_eq_true rfl) ⟨Nat.le_of_ble_eq_true rfl, Nat.le_of_ble_eq_true rfl⟩ (by omega) (ce7 rfl) rfl rfl dX7_round_2 rfl ?_
    rw [e]
    refine wp_if_ne (pc' := 8) (tgt := 10) dX7_round_5 rfl rfl (fun c5 => by exfalso; exact c5 rfl) (fun c5 => ?_)
    refine wp_iconst (pc' := 9) (-1) dX7_round_8 rfl (by decide) ?_
    refine wp_ireturn dX7_round_9 rfl rfl (Nat.le_refl _) (Nat.le_refl _) ?_
    exact XQ.id rfl X
  | some a =>
    obtain ⟨rfl, z1⟩ := ix_some e
    rw [show aRound σ (nI a) = b2i (anyB (σ.R * σ.C) (backB σ.R σ.C σ.ρ σ.ρ a)) by simp only [aRound, e]]
    refine Ctr.of (cc := cX7_round) (nL := 2) (own := RX7) (rt := (some .int)) (ls := [some (.ref (B + 0)), some (.int (nI a))]) (by decide) rfl rfl (Nat.le_of_ble_eq_true rfl) rfl ?_
    refine wp_aload_n_0 (pc' := 1) dX7_round_0 rfl ?_
    refine wp_iload_n_1 (pc' := 2) dX7_round_1 rfl ?_
    refine wp_callVu (pc' := 5) (c_X7_isWalk hn xr.2.1 ok.2.1 _) gX7_round_X7_isWalk rfl rfl hy_X7_isWalk ⟨Nat.le_of_ble_eq_true rfl, Nat.le_of_ble_eq_true rfl⟩ ⟨rfl, rfl⟩ (Nat.le_of_ble_eq_true rfl) ⟨Nat.le_of_ble_eq_true rfl, Nat.le_of_ble_eq_true rfl⟩ (by omega) (ce7 rfl) rfl rfl dX7_round_2 rfl ?_
    rw [e]
    refine wp_if_ne (pc' := 8) (tgt := 10) dX7_round_5 rfl rfl (fun c5 => ?_) (fun c5 => by exfalso; exact absurd c5 (by first | exact bS | decide))
    refine wp_aload_n_0 (pc' := 11) dX7_round_10 rfl ?_
    refine wp_callVR (pc' := 14) (c_X7_present hn q xr ok) gX7_round_X7_present rfl rfl hy_X7_present ⟨Nat.le_of_ble_eq_true rfl, Nat.le_of_ble_eq_true rfl⟩ ⟨rfl, rfl⟩ (Nat.le_of_ble_eq_true rfl) ⟨Nat.le_of_ble_eq_true rfl, Nat.le_of_ble_eq_true rfl⟩ (by omega) (ce7 rfl) rfl rfl dX7_round_11 rfl (fun h11 q11 => ?_)
    refine wp_aload_n_0 (pc' := 15) dX7_round_14 rfl ?_
    refine wp_get_7_3 (pc' := 18) (by omega) rfl rfl me_X7_round_0 ic_X7_round_7 dX7_round_15 rfl ?_
    refine wp_iload_n_1 (pc' := 19) dX7_round_18 rfl ?_
    refine wp_callVq (pc' := 22) (c_X0_comesBack hn st18 (q.of_eq (q11.1 11 (by decide))) q11.2 (X.xr2 (fun a h1 h2 => q11.1 a (by omega))) ok z1) gX7_round_X0_comesBack rfl rfl hy_X0_comesBack ⟨Nat.le_of_ble_eq_true rfl, Nat.le_of_ble_eq_true rfl⟩ ⟨rfl, rfl⟩ (Nat.le_of_ble_eq_true rfl) ⟨Nat.le_of_ble_eq_true rfl, Nat.le_of_ble_eq_true rfl⟩ (by omega) (ce0 rfl) rfl rfl dX7_round_19 rfl (fun x19 h19 q19 => ?_)
    obtain ⟨g0, g1⟩ := q19
    subst g0
    refine wp_if_eq (pc' := 25) (tgt := 29) dX7_round_22 rfl rfl (fun c22 => ?_) (fun c22 => ?_)
    · skip -- 22 taken
      refine wp_iconst (pc' := 30) (0) dX7_round_29 rfl (by decide) ?_
      refine wp_ireturn dX7_round_30 rfl rfl (Nat.le_refl _) (Nat.le_refl _) ?_
      refine XQ.sc ?_ X (by rw [g1 1 (by decide), q11.1 1 (by decide)]) (fun k hk => by unfold Kp at hk; rw [g1 k (by omega), q11.1 k (by omega)])
      cases e3 : anyB (σ.R * σ.C) (backB σ.R σ.C σ.ρ σ.ρ a)
      · first | rfl | exact absurd (by rw [e3]; rfl) c22 | (rw [e3] at c22; exact absurd c22 (by decide))
      · first | rfl | exact absurd (by rw [e3]; rfl) c22 | (rw [e3] at c22; exact absurd c22 (by decide))
    · skip -- 22 not taken
      refine wp_iconst (pc' := 26) (1) dX7_round_25 rfl (by decide) ?_
      refine wp_goto (tgt := 30) dX7_round_26 rfl ?_
      refine wp_ireturn dX7_round_30 rfl rfl (Nat.le_refl _) (Nat.le_refl _) ?_
      refine XQ.sc ?_ X (by rw [g1 1 (by decide), q11.1 1 (by decide)]) (fun k hk => by unfold Kp at hk; rw [g1 k (by omega), q11.1 k (by omega)])
      cases e3 : anyB (σ.R * σ.C) (backB σ.R σ.C σ.ρ σ.ρ a)
      · first | rfl | exact absurd (by rw [e3]; rfl) c22 | (rw [e3] at c22; exact absurd c22 (by decide))
      · first | rfl | exact absurd (by rw [e3]; rfl) c22 | (rw [e3] at c22; exact absurd c22 (by decide))
def aMeet (σ : Sg) (v w : Int32) : Int32 := match ix v (σ.ρ 16), ix w (σ.ρ 16) with
  | some a, some b => if a = b then -1 else S (endB σ.R σ.C σ.ρ a) &&& S (endB σ.R σ.C σ.ρ b)
  | _, _ => -1
theorem c_X7_meet (hn : 89 ≤ n) (X : XI h π σ) (x y : Int32) : Ctr l D cy B yX7_meet wsX7_meet rmX7_meet 0 0 n (rf0 π) h lg [.ref (B + 0), .int x, .int y] (XQ h lg (aMeet σ x y) σ) := by
  obtain ⟨T, q, u, ok, xr, xp, xk⟩ := id X
  have h5 := ok.2.1
  cases e : ix x (σ.ρ 16) with
  | none =>
    rw [show aMeet σ x y = -1 by simp only [aMeet, e]]
    refine Ctr.of (cc := cX7_meet) (nL := 3) (own := RX7) (rt := (some .int)) (ls := [some (.ref (B + 0)), some (.int x), some (.int y)]) (by decide) rfl rfl (Nat.le_of_ble_eq_true rfl) rfl ?_
    refine wp_aload_n_0 (pc' := 1) dX7_meet_0 rfl ?_
    refine wp_iload_n_1 (pc' := 2) dX7_meet_1 rfl ?_
    refine wp_callVu (pc' := 5) (c_X7_isWalk hn xr.2.1 ok.2.1 _) gX7_meet_X7_isWalk rfl rfl hy_X7_isWalk ⟨Nat.le_of_ble_eq_true rfl, Nat.le_of_ble_eq_true rfl⟩ ⟨rfl, rfl⟩ (Nat.le_of_ble_eq_true rfl) ⟨Nat.le_of_ble_eq_true rfl, Nat.le_of_ble_eq_true rfl⟩ (by omega) (ce7 rfl) rfl rfl dX7_meet_2 rfl ?_
    rw [e]
    refine wp_if_eq (pc' := 8) (tgt := 21) dX7_meet_5 rfl rfl (fun c5 => ?_) (fun c5 => by exfalso; exact c5 rfl)
    refine wp_iconst (pc' := 22) (-1) dX7_meet_21 rfl (by decide) ?_
    refine wp_ireturn dX7_meet_22 rfl rfl (Nat.le_refl _) (Nat.le_refl _) ?_
    exact XQ.id rfl X
  | some a =>
    cases e2 : ix y (σ.ρ 16) with
    | none =>
      rw [show aMeet σ x y = -1 by simp only [aMeet, e, e2]]
      refine Ctr.of (cc := cX7_meet) (nL := 3) (own := RX7) (rt := (some .int)) (ls := [some (.ref (B + 0)), some (.int x), some (.int y)]) (by decide) rfl rfl (Nat.le_of_ble_eq_true rfl) rfl ?_
      refine wp_aload_n_0 (pc' := 1) dX7_meet_0 rfl ?_
      refine wp_iload_n_1 (pc' := 2) dX7_meet_1 rfl ?_
      refine wp_callVu (pc' := 5) (c_X7_isWalk hn xr.2.1 ok.2.1 _) gX7_meet_X7_isWalk rfl rfl hy_X7_isWalk ⟨Nat.le_of_ble_eq_true rfl, Nat.le_of_ble_eq_true rfl⟩ ⟨rfl, rfl⟩ (Nat.le_of_ble_eq_true rfl) ⟨Nat.le_of_ble_eq_true rfl, Nat.le_of_ble_eq_true rfl⟩ (by omega) (ce7 rfl) rfl rfl dX7_meet_2 rfl ?_
      rw [e]
      refine wp_if_eq (pc' := 8) (tgt := 21) dX7_meet_5 rfl rfl (fun c5 => by exfalso; exact absurd c5 (by first | exact bS | decide)) (fun c5 => ?_)
      refine wp_aload_n_0 (pc' := 9) dX7_meet_8 rfl ?_
      refine wp_iload_n_2 (pc' := 10) dX7_meet_9 rfl ?_
      refine wp_callVu (pc' := 13) (c_X7_isWalk hn xr.2.1 ok.2.1 _) gX7_meet_X7_isWalk rfl rfl hy_X7_isWalk ⟨Nat.le_of_ble_eq_true rfl, Nat.le_of_ble_eq_true rfl⟩ ⟨rfl, rfl⟩ (Nat.le_of_ble_eq_true rfl) ⟨Nat.le_of_ble_eq_true rfl, Nat.le_of_ble_eq_true rfl⟩ (by omega) (ce7 rfl) rfl rfl dX7_meet_10 rfl ?_
      rw [e2]
      refine wp_if_eq (pc' := 16) (tgt := 21) dX7_meet_13 rfl rfl (fun c13 => ?_) (fun c13 => by exfalso; exact c13 rfl)
      refine wp_iconst (pc' := 22) (-1) dX7_meet_21 rfl (by decide) ?_
      refine wp_ireturn dX7_meet_22 rfl rfl (Nat.le_refl _) (Nat.le_refl _) ?_
      exact XQ.id rfl X
    | some b =>
      obtain ⟨rfl, z1⟩ := ix_some e
      obtain ⟨rfl, z2⟩ := ix_some e2
      by_cases z : a = b
      · rw [show aMeet σ (nI a) (nI b) = -1 by simp only [aMeet, e, e2, z, if_true]]
        refine Ctr.of (cc := cX7_meet) (nL := 3) (own := RX7) (rt := (some .int)) (ls := [some (.ref (B + 0)), some (.int (nI a)), some (.int (nI b))]) (by decide) rfl rfl (Nat.le_of_ble_eq_true rfl) rfl ?_
        refine wp_aload_n_0 (pc' := 1) dX7_meet_0 rfl ?_
        refine wp_iload_n_1 (pc' := 2) dX7_meet_1 rfl ?_
        refine wp_callVu (pc' := 5) (c_X7_isWalk hn xr.2.1 ok.2.1 _) gX7_meet_X7_isWalk rfl rfl hy_X7_isWalk ⟨Nat.le_of_ble_eq_true rfl, Nat.le_of_ble_eq_true rfl⟩ ⟨rfl, rfl⟩ (Nat.le_of_ble_eq_true rfl) ⟨Nat.le_of_ble_eq_true rfl, Nat.le_of_ble_eq_true rfl⟩ (by omega) (ce7 rfl) rfl rfl dX7_meet_2 rfl ?_
        rw [e]
        refine wp_if_eq (pc' := 8) (tgt := 21) dX7_meet_5 rfl rfl (fun c5 => by exfalso; exact absurd c5 (by first | exact bS | decide)) (fun c5 => ?_)
        refine wp_aload_n_0 (pc' := 9) dX7_meet_8 rfl ?_
        refine wp_iload_n_2 (pc' := 10) dX7_meet_9 rfl ?_
        refine wp_callVu (pc' := 13) (c_X7_isWalk hn xr.2.1 ok.2.1 _) gX7_meet_X7_isWalk rfl rfl hy_X7_isWalk ⟨Nat.le_of_ble_eq_true rfl, Nat.le_of_ble_eq_true rfl⟩ ⟨rfl, rfl⟩ (Nat.le_of_ble_eq_true rfl) ⟨Nat.le_of_ble_eq_true rfl, Nat.le_of_ble_eq_true rfl⟩ (by omega) (ce7 rfl) rfl rfl dX7_meet_10 rfl ?_
        rw [e2]
        refine wp_if_eq (pc' := 16) (tgt := 21) dX7_meet_13 rfl rfl (fun c13 => by exfalso; exact absurd c13 (by first | exact bS | decide)) (fun c13 => ?_)
        refine wp_iload_n_1 (pc' := 17) dX7_meet_16 rfl ?_
        refine wp_iload_n_2 (pc' := 18) dX7_meet_17 rfl ?_
        refine wp_icmp_ne (pc' := 21) (tgt := 23) dX7_meet_18 rfl rfl (fun c18 => by exfalso; exact c18 (by rw [z])) (fun c18 => ?_)
        refine wp_iconst (pc' := 22) (-1) dX7_meet_21 rfl (by decide) ?_
        refine wp_ireturn dX7_meet_22 rfl rfl (Nat.le_refl _) (Nat.le_refl _) ?_
        exact XQ.id rfl X
      · rw [show aMeet σ (nI a) (nI b) = S (endB σ.R σ.C σ.ρ a) &&& S (endB σ.R σ.C σ.ρ b) by simp only [aMeet, e, e2, z, if_false]]
        refine Ctr.of (cc := cX7_meet) (nL := 3) (own := RX7) (rt := (some .int)) (ls := [some (.ref (B + 0)), some (.int (nI a)), some (.int (nI b))]) (by decide) rfl rfl (Nat.le_of_ble_eq_true rfl) rfl ?_
        refine wp_aload_n_0 (pc' := 1) dX7_meet_0 rfl ?_
        refine wp_iload_n_1 (pc' := 2) dX7_meet_1 rfl ?_
        refine wp_callVu (pc' := 5) (c_X7_isWalk hn xr.2.1 ok.2.1 _) gX7_meet_X7_isWalk rfl rfl hy_X7_isWalk ⟨Nat.le_of_ble_eq_true rfl, Nat.le_of_ble_eq_true rfl⟩ ⟨rfl, rfl⟩ (Nat.le_of_ble_eq_true rfl) ⟨Nat.le_of_ble_eq_true rfl, Nat.le_of_ble_eq_true rfl⟩ (by omega) (ce7 rfl) rfl rfl dX7_meet_2 rfl ?_
        rw [e]
        refine wp_if_eq (pc' := 8) (tgt := 21) dX7_meet_5 rfl rfl (fun c5 => by exfalso; exact absurd c5 (by first | exact bS | decide)) (fun c5 => ?_)
        refine wp_aload_n_0 (pc' := 9) dX7_meet_8 rfl ?_
        refine wp_iload_n_2 (pc' := 10) dX7_meet_9 rfl ?_
        refine wp_callVu (pc' := 13) (c_X7_isWalk hn xr.2.1 ok.2.1 _) gX7_meet_X7_isWalk rfl rfl hy_X7_isWalk ⟨Nat.le_of_ble_eq_true rfl, Nat.le_of_ble_eq_true rfl⟩ ⟨rfl, rfl⟩ (Nat.le_of_ble_eq_true rfl) ⟨Nat.le_of_ble_eq_true rfl, Nat.le_of_ble_eq_true rfl⟩ (by omega) (ce7 rfl) rfl rfl dX7_meet_10 rfl ?_
        rw [e2]
        refine wp_if_eq (pc' := 16) (tgt := 21) dX7_meet_13 rfl rfl (fun c13 => by exfalso; exact absurd c13 (by first | exact bS | decide)) (fun c13 => ?_)
        refine wp_iload_n_1 (pc' := 17) dX7_meet_16 rfl ?_
        refine wp_iload_n_2 (pc' := 18) dX7_meet_17 rfl ?_
        refine wp_icmp_ne (pc' := 21) (tgt := 23) dX7_meet_18 rfl rfl (fun c18 => ?_) (fun c18 => by exfalso; exact z ((nI_eq (by omega) (by omega)).mp c18))
        refine wp_aload_n_0 (pc' := 24) dX7_meet_23 rfl ?_
        refine wp_callVR (pc' := 27) (c_X7_present hn q xr ok) gX7_meet_X7_present rfl rfl hy_X7_present ⟨Nat.le_of_ble_eq_true rfl, Nat.le_of_ble_eq_true rfl⟩ ⟨rfl, rfl⟩ (Nat.le_of_ble_eq_true rfl) ⟨Nat.le_of_ble_eq_true rfl, Nat.le_of_ble_eq_true rfl⟩ (by omega) (ce7 rfl) rfl rfl dX7_meet_24 rfl (fun h24 q24 => ?_)
        refine wp_pop (pc' := 28) dX7_meet_27 rfl rfl ?_
        refine wp_aload_n_0 (pc' := 29) dX7_meet_28 rfl ?_
        refine wp_get_7_1 (pc' := 32) (by omega) rfl rfl me_X7_meet_0 ic_X7_meet_7 dX7_meet_29 rfl ?_
        refine wp_aload_n_0 (pc' := 33) dX7_meet_32 rfl ?_
        refine wp_get_7_3 (pc' := 36) (by omega) rfl rfl me_X7_meet_1 ic_X7_meet_7 dX7_meet_33 rfl ?_
        refine wp_iload_n_1 (pc' := 37) dX7_meet_36 rfl ?_
        refine wp_callVq (pc' := 40) (c_X0_endsOf hn st18 (q.of_eq (q24.1 11 (by decide))) q24.2 (X.xr2 (fun a h1 h2 => q24.1 a (by omega))) ok z1) gX7_meet_X0_endsOf rfl rfl hy_X0_endsOf ⟨Nat.le_of_ble_eq_true rfl, Nat.le_of_ble_eq_true rfl⟩ ⟨rfl, rfl⟩ (Nat.le_of_ble_eq_true rfl) ⟨Nat.le_of_ble_eq_true rfl, Nat.le_of_ble_eq_true rfl⟩ (by omega) (ce0 rfl) rfl rfl dX7_meet_37 rfl (fun x37 h37 q37 => ?_)
        obtain ⟨g0, g1⟩ := q37
        refine wp_aload_n_0 (pc' := 41) dX7_meet_40 rfl ?_
        refine wp_get_7_1 (pc' := 44) (by omega) rfl rfl me_X7_meet_0 ic_X7_meet_7 dX7_meet_41 rfl ?_
        refine wp_aload_n_0 (pc' := 45) dX7_meet_44 rfl ?_
        refine wp_get_7_3 (pc' := 48) (by omega) rfl rfl me_X7_meet_1 ic_X7_meet_7 dX7_meet_45 rfl ?_
        refine wp_iload_n_2 (pc' := 49) dX7_meet_48 rfl ?_
        refine wp_callVq (pc' := 52) (c_X0_endsOf hn st18 (q.of_eq (by rw [g1 11 (by decide), q24.1 11 (by decide)])) (q24.2.of_eq (g1 13 (by decide))) (X.xr2 (fun a h1 h2 => by rw [g1 a (by omega), q24.1 a (by omega)])) ok z2) gX7_meet_X0_endsOf rfl rfl hy_X0_endsOf ⟨Nat.le_of_ble_eq_true rfl, Nat.le_of_ble_eq_true rfl⟩ ⟨rfl, rfl⟩ (Nat.le_of_ble_eq_true rfl) ⟨Nat.le_of_ble_eq_true rfl, Nat.le_of_ble_eq_true rfl⟩ (by omega) (ce0 rfl) rfl rfl dX7_meet_49 rfl (fun x49 h49 q49 => ?_)
        obtain ⟨g2, g3⟩ := q49
        refine wp_iand (pc' := 53) dX7_meet_52 rfl ?_
        refine wp_ireturn dX7_meet_53 rfl rfl (Nat.le_refl _) (Nat.le_refl _) ?_
        exact XQ.sc (by rw [g0, g2]; rfl) X (by rw [g3 1 (by decide), g1 1 (by decide), q24.1 1 (by decide)]) (fun k hk => by unfold Kp at hk; rw [g3 k (by omega), g1 k (by omega), q24.1 k (by omega)])
def aLied (σ : Sg) : Int32 := SN (σ.ρ 16) (lieB σ.R σ.C σ.ρ)
theorem c_X7_lied (hn : 89 ≤ n) (X : XI h π σ) : Ctr l D cy B yX7_lied wsX7_lied rmX7_lied 0 0 n (rf0 π) h lg [.ref (B + 0)] (XQ h lg (aLied σ) σ) := by
  obtain ⟨T, q, u, ok, xr, xp, xk⟩ := id X
  refine Ctr.of (cc := cX7_lied) (nL := 1) (own := RX7) (rt := (some .int)) (ls := [some (.ref (B + 0))]) (by decide) rfl rfl (Nat.le_of_ble_eq_true rfl) rfl ?_
  refine wp_aload_n_0 (pc' := 1) dX7_lied_0 rfl ?_
  refine wp_callVR (pc' := 4) (c_X7_present hn q xr ok) gX7_lied_X7_present rfl rfl hy_X7_present ⟨Nat.le_of_ble_eq_true rfl, Nat.le_of_ble_eq_true rfl⟩ ⟨rfl, rfl⟩ (Nat.le_of_ble_eq_true rfl) ⟨Nat.le_of_ble_eq_true rfl, Nat.le_of_ble_eq_true rfl⟩ (by omega) (ce7 rfl) rfl rfl dX7_lied_1 rfl (fun h1 q1 => ?_)
  refine wp_aload_n_0 (pc' := 5) dX7_lied_4 rfl ?_
  refine wp_get_7_3 (pc' := 8) (by omega) rfl rfl me_X7_lied_0 ic_X7_lied_7 dX7_lied_5 rfl ?_
  refine wp_callVq (pc' := 11) (c_X0_liars hn st18 (q.of_eq (q1.1 11 (by decide))) q1.2 (X.xr2 (fun a h1 h2 => q1.1 a (by omega))) ok) gX7_lied_X0_liars rfl rfl hy_X0_liars ⟨Nat.le_of_ble_eq_true rfl, Nat.le_of_ble_eq_true rfl⟩ ⟨rfl, rfl⟩ (Nat.le_of_ble_eq_true rfl) ⟨Nat.le_of_ble_eq_true rfl, Nat.le_of_ble_eq_true rfl⟩ (by omega) (ce0 rfl) rfl rfl dX7_lied_8 rfl (fun x8 h8 q8 => ?_)
  refine wp_ireturn dX7_lied_11 rfl rfl (Nat.le_refl _) (Nat.le_refl _) ?_
  exact XQ.sc q8.1 X (by rw [q8.2 1 (by decide), q1.1 1 (by decide)]) (fun k hk => by unfold Kp at hk; rw [q8.2 k (by omega), q1.1 k (by omega)])
def aNobody (σ : Sg) : Int32 := S (fun i => decide (i < σ.R * σ.C) && !paB σ.R σ.C σ.ρ σ.ρ (σ.ρ 16) 0 i)
theorem c_X7_nobody (hn : 89 ≤ n) (X : XI h π σ) : Ctr l D cy B yX7_nobody wsX7_nobody rmX7_nobody 0 0 n (rf0 π) h lg [.ref (B + 0)] (XQ h lg (aNobody σ) σ) := by
  obtain ⟨T, q, u, ok, xr, xp, xk⟩ := id X
  refine Ctr.of (cc := cX7_nobody) (nL := 1) (own := RX7) (rt := (some .int)) (ls := [some (.ref (B + 0))]) (by decide) rfl rfl (Nat.le_of_ble_eq_true rfl) rfl ?_
  refine wp_aload_n_0 (pc' := 1) dX7_nobody_0 rfl ?_
  refine wp_get_7_2 (pc' := 4) (by omega) rfl rfl me_X7_nobody_0 ic_X7_nobody_7 dX7_nobody_1 rfl ?_
  refine wp_get_1_2 (pc' := 7) (by omega) rfl me_X7_nobody_1 ic_X7_nobody_1 dX7_nobody_4 rfl ?_
  rw [q.all]
  refine wp_aload_n_0 (pc' := 8) dX7_nobody_7 rfl ?_
  refine wp_callVR (pc' := 11) (c_X7_present hn q xr ok) gX7_nobody_X7_present rfl rfl hy_X7_present ⟨Nat.le_of_ble_eq_true rfl, Nat.le_of_ble_eq_true rfl⟩ ⟨rfl, rfl⟩ (Nat.le_of_ble_eq_true rfl) ⟨Nat.le_of_ble_eq_true rfl, Nat.le_of_ble_eq_true rfl⟩ (by omega) (ce7 rfl) rfl rfl dX7_nobody_8 rfl (fun h8 q8 => ?_)
  refine wp_aload_n_0 (pc' := 12) dX7_nobody_11 rfl ?_
  refine wp_get_7_3 (pc' := 15) (by omega) rfl rfl me_X7_nobody_2 ic_X7_nobody_7 dX7_nobody_12 rfl ?_
  refine wp_callVq (pc' := 18) (c_X0_passed hn st18 (q.of_eq (q8.1 11 (by decide))) q8.2 (X.xr2 (fun a h1 h2 => q8.1 a (by omega))) ok) gX7_nobody_X0_passed rfl rfl hy_X0_passed ⟨Nat.le_of_ble_eq_true rfl, Nat.le_of_ble_eq_true rfl⟩ ⟨rfl, rfl⟩ (Nat.le_of_ble_eq_true rfl) ⟨Nat.le_of_ble_eq_true rfl, Nat.le_of_ble_eq_true rfl⟩ (by omega) (ce0 rfl) rfl rfl dX7_nobody_15 rfl (fun x15 h15 q15 => ?_)
  refine wp_iconst (pc' := 19) (-1) dX7_nobody_18 rfl (by decide) ?_
  refine wp_ixor (pc' := 20) dX7_nobody_19 rfl ?_
  refine wp_iand (pc' := 21) dX7_nobody_20 rfl ?_
  refine wp_ireturn dX7_nobody_21 rfl rfl (Nat.le_refl _) (Nat.le_refl _) ?_
  exact XQ.sc (by rw [q15.1]; exact S_andnot _ _) X (by rw [q15.2 1 (by decide) (by decide), q8.1 1 (by decide)]) (fun k hk => by unfold Kp at hk; rw [q15.2 k (by omega) (by omega), q8.1 k (by omega)])
end VP3

