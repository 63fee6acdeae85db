abbrev rmX7_alter : Room := { frames := 3, cells := 0, slots := 0, locals := 82 }
theorem hy_X7_alter : yX7_alter.cls = RX7 ∧ yX7_alter.cls ≠ "java/lang/invoke/MethodHandle" ∧ yX7_alter.cls ≠ "java/lang/invoke/VarHandle" ∧ (parseMethodDescriptor yX7_alter.desc).map (fun d => d.parameters.length) = some 2 := by decide +kernel
theorem hz_X7_alter : yX7_alter.cls ≠ "java/lang/invoke/MethodHandle" ∧ yX7_alter.cls ≠ "java/lang/invoke/VarHandle" ∧ (parseMethodDescriptor yX7_alter.desc).map (fun d => d.parameters.length) = some 2 := by decide +kernel
abbrev rmX7_place : Room := { frames := 3, cells := 0, slots := 0, locals := 66 }
theorem hy_X7_place : yX7_place.cls = RX7 ∧ yX7_place.cls ≠ "java/lang/invoke/MethodHandle" ∧ yX7_place.cls ≠ "java/lang/invoke/VarHandle" ∧ (parseMethodDescriptor yX7_place.desc).map (fun d => d.parameters.length) = some 2 := by decide +kernel
theorem hz_X7_place : yX7_place.cls ≠ "java/lang/invoke/MethodHandle" ∧ yX7_place.cls ≠ "java/lang/invoke/VarHandle" ∧ (parseMethodDescriptor yX7_place.desc).map (fun d => d.parameters.length) = some 2 := by decide +kernel
abbrev rmX7_strike : Room := { frames := 3, cells := 0, slots := 0, locals := 82 }
theorem hy_X7_strike : yX7_strike.cls = RX7 ∧ yX7_strike.cls ≠ "java/lang/invoke/MethodHandle" ∧ yX7_strike.cls ≠ "java/lang/invoke/VarHandle" ∧ (parseMethodDescriptor yX7_strike.desc).map (fun d => d.parameters.length) = some 1 := by decide +kernel
theorem hz_X7_strike : yX7_strike.cls ≠ "java/lang/invoke/MethodHandle" ∧ yX7_strike.cls ≠ "java/lang/invoke/VarHandle" ∧ (parseMethodDescriptor yX7_strike.desc).map (fun d => d.parameters.length) = some 1 := by decide +kernel
abbrev rmX7_swap : Room := { frames := 3, cells := 0, slots := 0, locals := 82 }
theorem hy_X7_swap : yX7_swap.cls = RX7 ∧ yX7_swap.cls ≠ "java/lang/invoke/MethodHandle" ∧ yX7_swap.cls ≠ "java/lang/invoke/VarHandle" ∧ (parseMethodDescriptor yX7_swap.desc).map (fun d => d.parameters.length) = some 2 := by decide +kernel
theorem hz_X7_swap : yX7_swap.cls ≠ "java/lang/invoke/MethodHandle" ∧ yX7_swap.cls ≠ "java/lang/invoke/VarHandle" ∧ (parseMethodDescriptor yX7_swap.desc).map (fun d => d.parameters.length) = some 2 := by decide +kernel
abbrev rmX7_walk : Room := { frames := 1, cells := 0, slots := 0, locals := 22 }
theorem hy_X7_walk : yX7_walk.cls = RX7 ∧ yX7_walk.cls ≠ "java/lang/invoke/MethodHandle" ∧ yX7_walk.cls ≠ "java/lang/invoke/VarHandle" ∧ (parseMethodDescriptor yX7_walk.desc).map (fun d => d.parameters.length) = some 2 := by decide +kernel
theorem hz_X7_walk : yX7_walk.cls ≠ "java/lang/invoke/MethodHandle" ∧ yX7_walk.cls ≠ "java/lang/invoke/VarHandle" ∧ (parseMethodDescriptor yX7_walk.desc).map (fun d => d.parameters.length) = some 2 := by decide +kernel
theorem me_X7_place_0 : Cond.fieldLink RX7 31 "DrawnByLost" "now" "LDrawnByLost$Story;" ∈ wsX7_place := by decide +kernel
theorem me_X7_place_1 : Cond.fieldLink RX7 106 "DrawnByLost$Story" "marks" "[I" ∈ wsX7_place := by decide +kernel
theorem me_X7_walk_0 : Cond.fieldLink RX7 31 "DrawnByLost" "now" "LDrawnByLost$Story;" ∈ wsX7_walk := by decide +kernel
theorem me_X7_swap_0 : Cond.fieldLink RX7 43 "DrawnByLost" "done" "LDrawnByLost$Pile;" ∈ wsX7_swap := by decide +kernel
theorem me_X7_swap_1 : Cond.fieldLink RX7 31 "DrawnByLost" "now" "LDrawnByLost$Story;" ∈ wsX7_swap := by decide +kernel
theorem me_X7_swap_2 : Cond.fieldLink RX7 106 "DrawnByLost$Story" "marks" "[I" ∈ wsX7_swap := by decide +kernel
theorem me_X7_alter_0 : Cond.fieldLink RX7 43 "DrawnByLost" "done" "LDrawnByLost$Pile;" ∈ wsX7_alter := by decide +kernel
theorem me_X7_alter_1 : Cond.fieldLink RX7 31 "DrawnByLost" "now" "LDrawnByLost$Story;" ∈ wsX7_alter := by decide +kernel
theorem me_X7_alter_2 : Cond.fieldLink RX7 106 "DrawnByLost$Story" "marks" "[I" ∈ wsX7_alter := by decide +kernel
theorem me_X7_strike_0 : Cond.fieldLink RX7 43 "DrawnByLost" "done" "LDrawnByLost$Pile;" ∈ wsX7_strike := by decide +kernel
theorem me_X7_strike_1 : Cond.fieldLink RX7 31 "DrawnByLost" "now" "LDrawnByLost$Story;" ∈ wsX7_strike := by decide +kernel
theorem me_X7_strike_2 : Cond.fieldLink RX7 148 "DrawnByLost$Story" "walks" "I" ∈ wsX7_strike := by decide +kernel
theorem ic_X7_place_7 : ∀ w ∈ wsX70, w ∈ wsX7_place := by decide +kernel
theorem ic_X7_place_5 : ∀ w ∈ wsX50, w ∈ wsX7_place := by decide +kernel
theorem ic_X7_walk_7 : ∀ w ∈ wsX70, w ∈ wsX7_walk := by decide +kernel
theorem ic_X7_swap_7 : ∀ w ∈ wsX70, w ∈ wsX7_swap := by decide +kernel
theorem ic_X7_swap_5 : ∀ w ∈ wsX50, w ∈ wsX7_swap := by decide +kernel
theorem ic_X7_alter_7 : ∀ w ∈ wsX70, w ∈ wsX7_alter := by decide +kernel
theorem ic_X7_alter_5 : ∀ w ∈ wsX50, w ∈ wsX7_alter := by decide +kernel
theorem ic_X7_strike_7 : ∀ w ∈ wsX70, w ∈ wsX7_strike := by decide +kernel
theorem ic_X7_strike_5 : ∀ w ∈ wsX50, w ∈ wsX7_strike := by decide +kernel
-- the class's calls: of a place, of a walk; acts
section VP2
variable {l : Launch} {D : va_G} {cy : CY} {B n : Nat} {h : Hp} {lg : Lg} {π : Nat → Nat} {σ : Sg}
def aPlace (σ : Sg) (x t : Int32) : Int32 := match ix x (σ.R * σ.C), ix t 2 with
  | some a, some 0 => nI (σ.ρ a)
  | some a, some _ => nI (seeD σ.R σ.C σ.ρ a 4)
  | _, _ => -1
theorem ix2 {t : Int32} {b : Nat} (h : ix t 2 = some b) : (t = 0 ∧ b = 0) ∨ (t = 1 ∧ b = 1) := by
  obtain ⟨rfl, h2⟩ := ix_some h
  rcases (by omega : b = 0 ∨ b = 1) with rfl | rfl
  · exact Or.inl ⟨rfl, rfl⟩
  · exact Or.inr ⟨rfl, rfl⟩
theorem c_X7_place (hn : 89 ≤ n) (X : XI h π σ) (x t : Int32) : Ctr l D cy B yX7_place wsX7_place rmX7_place 0 0 n (rf0 π) h lg [.ref (B + 0), .int x, .int t] (XQ h lg (aPlace σ x t) σ) := by
  obtain ⟨T, q, u, ok, xr, xp, xk⟩ := id X
  have hl := q.1.le
  cases e : ix x (σ.R * σ.C) with
  | none =>
    rw [show aPlace σ x t = -1 by simp only [aPlace, e]]
    refine Ctr.of (cc := cX7_place) (nL := 3) (own := RX7) (rt := (some .int)) (ls := [some (.ref (B + 0)), some (.int x), some (.int t)]) (by decide) rfl rfl (Nat.le_of_ble_eq_true rfl) rfl ?_
    refine wp_aload_n_0 (pc' := 1) dX7_place_0 rfl ?_
    refine wp_iload_n_1 (pc' := 2) dX7_place_1 rfl ?_
    refine wp_callVu (pc' := 5) (c_X7_isPlace hn q _) gX7_place_X7_isPlace rfl rfl hy_X7_isPlace ⟨Nat.le_of_ble_eq_true rfl, Nat.le_of_ble_eq_true rfl⟩ ⟨rfl, rfl⟩ (Nat.le_of_ble_eq_true rfl) ⟨Nat.le_of_ble_eq_true rfl, Nat.le_of_ble_eq_true rfl⟩ (by omega) (ce7 rfl) rfl rfl dX7_place_2 rfl ?_
    rw [e]
    refine wp_if_eq (pc' := 8) (tgt := 15) dX7_place_5 rfl rfl (fun c5 => ?_) (fun c5 => by exfalso; exact c5 rfl)
    refine wp_iconst (pc' := 16) (-1) dX7_place_15 rfl (by decide) ?_
    refine wp_ireturn dX7_place_16 rfl rfl (Nat.le_refl _) (Nat.le_refl _) ?_
    exact XQ.id rfl X
  | some a =>
    cases e2 : ix t 2 with
    | none =>
      rw [show aPlace σ x t = -1 by simp only [aPlace, e, e2]]
      refine Ctr.of (cc := cX7_place) (nL := 3) (own := RX7) (rt := (some .int)) (ls := [some (.ref (B + 0)), some (.int x), some (.int t)]) (by decide) rfl rfl (Nat.le_of_ble_eq_true rfl) rfl ?_
      refine wp_aload_n_0 (pc' := 1) dX7_place_0 rfl ?_
      refine wp_iload_n_1 (pc' := 2) dX7_place_1 rfl ?_
      refine wp_callVu (pc' := 5) (c_X7_isPlace hn q _) gX7_place_X7_isPlace rfl rfl hy_X7_isPlace ⟨Nat.le_of_ble_eq_true rfl, Nat.le_of_ble_eq_true rfl⟩ ⟨rfl, rfl⟩ (Nat.le_of_ble_eq_true rfl) ⟨Nat.le_of_ble_eq_true rfl, Nat.le_of_ble_eq_true rfl⟩ (by omega) (ce7 rfl) rfl rfl dX7_place_2 rfl ?_
      rw [e]
      refine wp_if_eq (pc' := 8) (tgt := 15) dX7_place_5 rfl rfl (fun c5 => by exfalso; exact absurd c5 (by first | exact bS | decide)) (fun c5 => ?_)
      refine wp_iload_n_2 (pc' := 9) dX7_place_8 rfl ?_
      refine wp_callSu (pc' := 12) (c_choice _) gX7_place_X7_isChoice rfl rfl hz_X7_isChoice ⟨Nat.le_of_ble_eq_true rfl, Nat.le_of_ble_eq_true rfl⟩ ⟨rfl, rfl⟩ (Nat.le_of_ble_eq_true rfl) ⟨Nat.le_of_ble_eq_true rfl, Nat.le_of_ble_eq_true rfl⟩ rfl dX7_place_9 rfl ?_
      rw [e2]
      refine wp_if_ne (pc' := 15) (tgt := 17) dX7_place_12 rfl rfl (fun c12 => by exfalso; exact c12 rfl) (fun c12 => ?_)
      refine wp_iconst (pc' := 16) (-1) dX7_place_15 rfl (by decide) ?_
      refine wp_ireturn dX7_place_16 rfl rfl (Nat.le_refl _) (Nat.le_refl _) ?_
      exact XQ.id rfl X
    | some b =>
      obtain ⟨rfl, z1⟩ := ix_some e
      rcases ix2 e2 with ⟨rfl, rfl⟩ | ⟨rfl, rfl⟩
      · rw [show aPlace σ (nI a) 0 = nI (σ.ρ a) by simp only [aPlace, e, e2]]
        refine Ctr.of (cc := cX7_place) (nL := 3) (own := RX7) (rt := (some .int)) (ls := [some (.ref (B + 0)), some (.int (nI a)), some (.int 0)]) (by decide) rfl rfl (Nat.le_of_ble_eq_true rfl) rfl ?_
        refine wp_aload_n_0 (pc' := 1) dX7_place_0 rfl ?_
        refine wp_iload_n_1 (pc' := 2) dX7_place_1 rfl ?_
        refine wp_callVu (pc' := 5) (c_X7_isPlace hn q _) gX7_place_X7_isPlace rfl rfl hy_X7_isPlace ⟨Nat.le_of_ble_eq_true rfl, Nat.le_of_ble_eq_true rfl⟩ ⟨rfl, rfl⟩ (Nat.le_of_ble_eq_true rfl) ⟨Nat.le_of_ble_eq_true rfl, Nat.le_of_ble_eq_true rfl⟩ (by omega) (ce7 rfl) rfl rfl dX7_place_2 rfl ?_
        rw [e]
        refine wp_if_eq (pc' := 8) (tgt := 15) dX7_place_5 rfl rfl (fun c5 => by exfalso; exact absurd c5 (by first | exact bS | decide)) (fun c5 => ?_)
        refine wp_iload_n_2 (pc' := 9) dX7_place_8 rfl ?_
        refine wp_callSu (pc' := 12) (c_choice _) gX7_place_X7_isChoice rfl rfl hz_X7_isChoice ⟨Nat.le_of_ble_eq_true rfl, Nat.le_of_ble_eq_true rfl⟩ ⟨rfl, rfl⟩ (Nat.le_of_ble_eq_true rfl) ⟨Nat.le_of_ble_eq_true rfl, Nat.le_of_ble_eq_true rfl⟩ rfl dX7_place_9 rfl ?_
        rw [e2]
        refine wp_if_ne (pc' := 15) (tgt := 17) dX7_place_12 rfl rfl (fun c12 => ?_) (fun c12 => by exfalso; exact absurd c12 (by first | exact bS | decide))
        refine wp_iload_n_2 (pc' := 18) dX7_place_17 rfl ?_
        refine wp_if_ne (pc' := 21) (tgt := 33) dX7_place_18 rfl rfl (fun c18 => by exfalso; exact c18 rfl) (fun c18 => ?_)
        refine wp_aload_n_0 (pc' := 22) dX7_place_21 rfl ?_
        refine wp_get_7_3 (pc' := 25) (by omega) rfl rfl me_X7_place_0 ic_X7_place_7 dX7_place_22 rfl ?_
        refine wp_get_5_0 (pc' := 28) (by omega) rfl rfl me_X7_place_1 ic_X7_place_5 dX7_place_25 rfl ?_
        refine wp_iload_n_1 (pc' := 29) dX7_place_28 rfl ?_
        refine wp_iald (pc' := 30) (N := 16) (by omega) rfl rfl (by first | exact vp_in_nI (by omega) (by omega) | assumption | (unfold vp_in; decide)) dX7_place_29 rfl ?_
        rw [nI_clamp (by omega), show h 19 a = nI (σ.ρ a) from xr.1 a (by omega)]
        refine wp_goto (tgt := 41) dX7_place_30 rfl ?_
        refine wp_ireturn dX7_place_41 rfl rfl (Nat.le_refl _) (Nat.le_refl _) ?_
        exact XQ.id rfl X
      · rw [show aPlace σ (nI a) 1 = nI (seeD σ.R σ.C σ.ρ a 4) by simp only [aPlace, e, e2]]
        refine Ctr.of (cc := cX7_place) (nL := 3) (own := RX7) (rt := (some .int)) (ls := [some (.ref (B + 0)), some (.int (nI a)), some (.int 1)]) (by decide) rfl rfl (Nat.le_of_ble_eq_true rfl) rfl ?_
        refine wp_aload_n_0 (pc' := 1) dX7_place_0 rfl ?_
        refine wp_iload_n_1 (pc' := 2) dX7_place_1 rfl ?_
        refine wp_callVu (pc' := 5) (c_X7_isPlace hn q _) gX7_place_X7_isPlace rfl rfl hy_X7_isPlace ⟨Nat.le_of_ble_eq_true rfl, Nat.le_of_ble_eq_true rfl⟩ ⟨rfl, rfl⟩ (Nat.le_of_ble_eq_true rfl) ⟨Nat.le_of_ble_eq_true rfl, Nat.le_of_ble_eq_true rfl⟩ (by omega) (ce7 rfl) rfl rfl dX7_place_2 rfl ?_
        rw [e]
        refine wp_if_eq (pc' := 8) (tgt := 15) dX7_place_5 rfl rfl (fun c5 => by exfalso; exact absurd c5 (by first | exact bS | decide)) (fun c5 => ?_)
        refine wp_iload_n_2 (pc' := 9) dX7_place_8 rfl ?_
        refine wp_callSu (pc' := 12) (c_choice _) gX7_place_X7_isChoice rfl rfl hz_X7_isChoice ⟨Nat.le_of_ble_eq_true rfl, Nat.le_of_ble_eq_true rfl⟩ ⟨rfl, rfl⟩ (Nat.le_of_ble_eq_true rfl) ⟨Nat.le_of_ble_eq_true rfl, Nat.le_of_ble_eq_true rfl⟩ rfl dX7_place_9 rfl ?_
        rw [e2]
        refine wp_if_ne (pc' := 15) (tgt := 17) dX7_place_12 rfl rfl (fun c12 => ?_) (fun c12 => by exfalso; exact absurd c12 (by first | exact bS | decide))
        refine wp_iload_n_2 (pc' := 18) dX7_place_17 rfl ?_
        refine wp_if_ne (pc' := 21) (tgt := 33) dX7_place_18 rfl rfl (fun c18 => ?_) (fun c18 => by exfalso; exact absurd c18 (by first | exact bS | decide))
        refine wp_aload_n_0 (pc' := 34) dX7_place_33 rfl ?_
        refine wp_callVR (pc' := 37) (c_X7_present hn q xr ok) gX7_place_X7_present rfl rfl hy_X7_present ⟨Nat.le_of_ble_eq_true rfl, Nat.le_of_ble_eq_true rfl⟩ ⟨rfl, rfl⟩ (Nat.le_of_ble_eq_true rfl) ⟨Nat.le_of_ble_eq_true rfl, Nat.le_of_ble_eq_true rfl⟩ (by omega) (ce7 rfl) rfl rfl dX7_place_34 rfl (fun h34 q34 => ?_)
        refine wp_iload_n_1 (pc' := 38) dX7_place_37 rfl ?_
        refine wp_callVu (pc' := 41) (c_X0_seen hn (q.of_eq (q34.1 11 (by decide))) q34.2 z1) gX7_place_X0_seen rfl rfl hy_X0_seen ⟨Nat.le_of_ble_eq_true rfl, Nat.le_of_ble_eq_true rfl⟩ ⟨rfl, rfl⟩ (Nat.le_of_ble_eq_true rfl) ⟨Nat.le_of_ble_eq_true rfl, Nat.le_of_ble_eq_true rfl⟩ (by omega) (ce0 rfl) rfl rfl dX7_place_38 rfl ?_
        refine wp_ireturn dX7_place_41 rfl rfl (Nat.le_refl _) (Nat.le_refl _) ?_
        exact XQ.sc rfl X (by rw [q34.1 1 (by decide)]) (fun k hk => q34.1 k (by unfold Kp at hk; omega))
def aWalk (σ : Sg) (w k : Int32) : Int32 := match ix w (σ.ρ 16) with
  | none => -1
  | some a => if k.toInt < -2 then -1 else if k.toInt < (σ.ρ (18 + 7 * a) : Int) then nI (σ.ρ (((19 + 7 * a : Nat) : Int) + k.toInt).toNat) else -4
theorem c_X7_walk (hn : 89 ≤ n) (X : XI h π σ) (w k : Int32) : Ctr l D cy B yX7_walk wsX7_walk rmX7_walk 0 0 n (rf0 π) h lg [.ref (B + 0), .int w, .int k] (XQ h lg (aWalk σ w k) σ) := by
  obtain ⟨T, q, u, ok, xr, xp, xk⟩ := id X
  have o2 := ok.2.1
  cases e : ix w (σ.ρ 16) with
  | none =>
    rw [show aWalk σ w k = -1 by simp only [aWalk, e]]
    refine Ctr.of (cc := cX7_walk) (nL := 3) (own := RX7) (rt := (some .int)) (ls := [some (.ref (B + 0)), some (.int w), some (.int k)]) (by decide) rfl rfl (Nat.le_of_ble_eq_true rfl) rfl ?_
    refine wp_aload_n_0 (pc' := 1) dX7_walk_0 rfl ?_
    refine wp_iload_n_1 (pc' := 2) dX7_walk_1 rfl ?_
    refine wp_callVu (pc' := 5) (c_X7_isWalk hn xr.2.1 ok.2.1 _) gX7_walk_X7_isWalk rfl rfl hy_X7_isWalk ⟨Nat.le_of_ble_eq_true rfl, Nat.le_of_ble_eq_true rfl⟩ ⟨rfl, rfl⟩ (Nat.le_of_ble_eq_true rfl) ⟨Nat.le_of_ble_eq_true rfl, Nat.le_of_ble_eq_true rfl⟩ (by omega) (ce7 rfl) rfl rfl dX7_walk_2 rfl ?_
    rw [e]
    refine wp_if_eq (pc' := 8) (tgt := 14) dX7_walk_5 rfl rfl (fun c5 => ?_) (fun c5 => by exfalso; exact c5 rfl)
    refine wp_iconst (pc' := 15) (-1) dX7_walk_14 rfl (by decide) ?_
    refine wp_ireturn dX7_walk_15 rfl rfl (Nat.le_refl _) (Nat.le_refl _) ?_
    exact XQ.id rfl X
  | some a =>
    obtain ⟨rfl, z1⟩ := ix_some e
    obtain ⟨b1, b2, b3, b4⟩ := ok.2.2 a z1
    have hs := st18
    have hw := z1
    have es : sw σ.ρ a = σ.ρ (18 + 7 * a) := rfl
    rw [show aWalk σ (nI a) k = if k.toInt < -2 then -1 else if k.toInt < (σ.ρ (18 + 7 * a) : Int) then nI (σ.ρ (((19 + 7 * a : Nat) : Int) + k.toInt).toNat) else -4 by simp only [aWalk, e]]
    refine Ctr.of (cc := cX7_walk) (nL := 3) (own := RX7) (rt := (some .int)) (ls := [some (.ref (B + 0)), some (.int (nI a)), some (.int k)]) (by decide) rfl rfl (Nat.le_of_ble_eq_true rfl) rfl ?_
    refine wp_aload_n_0 (pc' := 1) dX7_walk_0 rfl ?_
    refine wp_iload_n_1 (pc' := 2) dX7_walk_1 rfl ?_
    refine wp_callVu (pc' := 5) (c_X7_isWalk hn xr.2.1 ok.2.1 _) gX7_walk_X7_isWalk rfl rfl hy_X7_isWalk ⟨Nat.le_of_ble_eq_true rfl, Nat.le_of_ble_eq_true rfl⟩ ⟨rfl, rfl⟩ (Nat.le_of_ble_eq_true rfl) ⟨Nat.le_of_ble_eq_true rfl, Nat.le_of_ble_eq_true rfl⟩ (by omega) (ce7 rfl) rfl rfl dX7_walk_2 rfl ?_
    rw [e]
    refine wp_if_eq (pc' := 8) (tgt := 14) dX7_walk_5 rfl rfl (fun c5 => by exfalso; exact absurd c5 (by first | exact bS | decide)) (fun c5 => ?_)
    refine wp_iload_n_2 (pc' := 9) dX7_walk_8 rfl ?_
    refine wp_bipush (pc' := 11) (-2) dX7_walk_9 rfl (by decide) ?_
    refine wp_icmp_ge (pc' := 14) (tgt := 16) dX7_walk_11 rfl rfl (fun c11 => ?_) (fun c11 => ?_)
    · skip -- 11 taken
      refine wp_iload_n_2 (pc' := 17) dX7_walk_16 rfl ?_
      refine wp_bipush (pc' := 19) (-2) dX7_walk_17 rfl (by decide) ?_
      refine wp_icmp_ne (pc' := 22) (tgt := 31) dX7_walk_19 rfl rfl (fun c19 => ?_) (fun c19 => ?_)
      · skip -- 19 taken
        refine wp_iload_n_2 (pc' := 32) dX7_walk_31 rfl ?_
        refine wp_iconst (pc' := 33) (-1) dX7_walk_32 rfl (by decide) ?_
        refine wp_icmp_ne (pc' := 36) (tgt := 45) dX7_walk_33 rfl rfl (fun c33 => ?_) (fun c33 => ?_)
        · skip -- 33 taken
          refine wp_iload_n_2 (pc' := 46) dX7_walk_45 rfl ?_
          refine wp_aload_n_0 (pc' := 47) dX7_walk_46 rfl ?_
          refine wp_get_7_3 (pc' := 50) (by omega) rfl rfl me_X7_walk_0 ic_X7_walk_7 dX7_walk_47 rfl ?_
          refine wp_iload_n_1 (pc' := 51) dX7_walk_50 rfl ?_
          refine wp_callVu (pc' := 54) (c_sizeOf hn hs xr ok hw) gX7_walk_X5_sizeOf rfl rfl hy_X5_sizeOf ⟨Nat.le_of_ble_eq_true rfl, Nat.le_of_ble_eq_true rfl⟩ ⟨rfl, rfl⟩ (Nat.le_of_ble_eq_true rfl) ⟨Nat.le_of_ble_eq_true rfl, Nat.le_of_ble_eq_true rfl⟩ (by omega) (ce5 rfl) rfl rfl dX7_walk_51 rfl ?_
          refine wp_icmp_ge (pc' := 57) (tgt := 69) dX7_walk_54 rfl rfl (fun c54 => ?_) (fun c54 => ?_)
          · skip -- 54 taken
            rw [es] at c54
            refine wp_bipush (pc' := 71) (-4) dX7_walk_69 rfl (by decide) ?_
            refine wp_ireturn dX7_walk_71 rfl rfl (Nat.le_refl _) (Nat.le_refl _) ?_
            refine XQ.id ?_ X
            rw [if_neg (by (simp (disch := omega) only [Int32.lt_iff_toInt_lt, Int32.le_iff_toInt_le, ← Int32.toInt_inj, nI_toInt, il_0, il_1, il_2, il_3, il_4, il_5, il_6, il_8, il_9, il_10, il_16, il_26, il_32, il_40, il_n4, il_n1, il_n2, il_11, il_48, il_57, il_59, il_44, il_126, il_200, il_9999, il_66666, il_10000, il_1000000, il_15, il_12, il_256, il_4096, il_53, il_52] at *; omega)), if_neg (by (simp (disch := omega) only [Int32.lt_iff_toInt_lt, Int32.le_iff_toInt_le, ← Int32.toInt_inj, nI_toInt, il_0, il_1, il_2, il_3, il_4, il_5, il_6, il_8, il_9, il_10, il_16, il_26, il_32, il_40, il_n4, il_n1, il_n2, il_11, il_48, il_57, il_59, il_44, il_126, il_200, il_9999, il_66666, il_10000, il_1000000, il_15, il_12, il_256, il_4096, il_53, il_52] at *; omega))]
          · skip -- 54 not taken
            rw [es] at c54
            obtain ⟨j, hj, rfl⟩ : ∃ j, j < σ.ρ (18 + 7 * a) ∧ k = nI j := by
              have z : ¬ k < 0 := by (simp (disch := omega) only [Int32.lt_iff_toInt_lt, Int32.le_iff_toInt_le, ← Int32.toInt_inj, nI_toInt, il_0, il_1, il_2, il_3, il_4, il_5, il_6, il_8, il_9, il_10, il_16, il_26, il_32, il_40, il_n4, il_n1, il_n2, il_11, il_48, il_57, il_59, il_44, il_126, il_200, il_9999, il_66666, il_10000, il_1000000, il_15, il_12, il_256, il_4096, il_53, il_52] at *; omega)
              obtain ⟨j, hj, rfl⟩ := nI_of z
              exact ⟨j, by (simp (disch := omega) only [Int32.lt_iff_toInt_lt, Int32.le_iff_toInt_le, ← Int32.toInt_inj, nI_toInt, il_0, il_1, il_2, il_3, il_4, il_5, il_6, il_8, il_9, il_10, il_16, il_26, il_32, il_40, il_n4, il_n1, il_n2, il_11, il_48, il_57, il_59, il_44, il_126, il_200, il_9999, il_66666, il_10000, il_1000000, il_15, il_12, il_256, il_4096, il_53, il_52] at c54; omega), rfl⟩
            refine wp_aload_n_0 (pc' := 58) dX7_walk_57 rfl ?_
            refine wp_get_7_3 (pc' := 61) (by omega) rfl rfl me_X7_walk_0 ic_X7_walk_7 dX7_walk_58 rfl ?_
            refine wp_iload_n_1 (pc' := 62) dX7_walk_61 rfl ?_
            refine wp_iload_n_2 (pc' := 63) dX7_walk_62 rfl ?_
            refine wp_callVu (pc' := 66) (c_toldMark hn hs xr ok hw hj) gX7_walk_X5_toldMark rfl rfl hy_X5_toldMark ⟨Nat.le_of_ble_eq_true rfl, Nat.le_of_ble_eq_true rfl⟩ ⟨rfl, rfl⟩ (Nat.le_of_ble_eq_true rfl) ⟨Nat.le_of_ble_eq_true rfl, Nat.le_of_ble_eq_true rfl⟩ (by omega) (ce5 rfl) rfl rfl dX7_walk_63 rfl ?_
            refine wp_goto (tgt := 71) dX7_walk_66 rfl ?_
            refine wp_ireturn dX7_walk_71 rfl rfl (Nat.le_refl _) (Nat.le_refl _) ?_
            refine XQ.id ?_ X
            rw [nI_toInt (by omega), if_neg (by omega), if_pos (by omega), show (((19 + 7 * a : Nat) : Int) + (j : Int)).toNat = 19 + 7 * a + j by omega]
        · skip -- 33 not taken
          refine wp_aload_n_0 (pc' := 37) dX7_walk_36 rfl ?_
          refine wp_get_7_3 (pc' := 40) (by omega) rfl rfl me_X7_walk_0 ic_X7_walk_7 dX7_walk_37 rfl ?_
          refine wp_iload_n_1 (pc' := 41) dX7_walk_40 rfl ?_
          refine wp_callVu (pc' := 44) (c_sizeOf hn hs xr ok hw) gX7_walk_X5_sizeOf rfl rfl hy_X5_sizeOf ⟨Nat.le_of_ble_eq_true rfl, Nat.le_of_ble_eq_true rfl⟩ ⟨rfl, rfl⟩ (Nat.le_of_ble_eq_true rfl) ⟨Nat.le_of_ble_eq_true rfl, Nat.le_of_ble_eq_true rfl⟩ (by omega) (ce5 rfl) rfl rfl dX7_walk_41 rfl ?_
          refine wp_ireturn dX7_walk_44 rfl rfl (Nat.le_refl _) (Nat.le_refl _) ?_
          refine XQ.id ?_ X
          subst c33
          rw [if_neg (by decide), if_pos (by rw [il_n1]; omega), il_n1, show (((19 + 7 * a : Nat) : Int) + -1).toNat = 18 + 7 * a by omega]
          rfl
      · skip -- 19 not taken
        refine wp_aload_n_0 (pc' := 23) dX7_walk_22 rfl ?_
        refine wp_get_7_3 (pc' := 26) (by omega) rfl rfl me_X7_walk_0 ic_X7_walk_7 dX7_walk_23 rfl ?_
        refine wp_iload_n_1 (pc' := 27) dX7_walk_26 rfl ?_
        refine wp_callVu (pc' := 30) (c_kindOf hn hs xr ok hw) gX7_walk_X5_kindOf rfl rfl hy_X5_kindOf ⟨Nat.le_of_ble_eq_true rfl, Nat.le_of_ble_eq_true rfl⟩ ⟨rfl, rfl⟩ (Nat.le_of_ble_eq_true rfl) ⟨Nat.le_of_ble_eq_true rfl, Nat.le_of_ble_eq_true rfl⟩ (by omega) (ce5 rfl) rfl rfl dX7_walk_27 rfl ?_
        refine wp_ireturn dX7_walk_30 rfl rfl (Nat.le_refl _) (Nat.le_refl _) ?_
        refine XQ.id ?_ X
        subst c19
        rw [if_neg (by decide), if_pos (by rw [il_n2]; omega), il_n2, show (((19 + 7 * a : Nat) : Int) + -2).toNat = 17 + 7 * a by omega]
        rfl
    · skip -- 11 not taken
      refine wp_iconst (pc' := 15) (-1) dX7_walk_14 rfl (by decide) ?_
      refine wp_ireturn dX7_walk_15 rfl rfl (Nat.le_refl _) (Nat.le_refl _) ?_
      refine XQ.id ?_ X
      rw [if_pos (by (simp (disch := omega) only [Int32.lt_iff_toInt_lt, Int32.le_iff_toInt_le, ← Int32.toInt_inj, nI_toInt, il_0, il_1, il_2, il_3, il_4, il_5, il_6, il_8, il_9, il_10, il_16, il_26, il_32, il_40, il_n4, il_n1, il_n2, il_11, il_48, il_57, il_59, il_44, il_126, il_200, il_9999, il_66666, il_10000, il_1000000, il_15, il_12, il_256, il_4096, il_53, il_52] at *; omega))]
def aSwap (σ : Sg) (x y : Int32) : Int32 := match ix x (σ.R * σ.C), ix y (σ.R * σ.C) with
  | some a, some b => if a = b then -1 else nI (σ.ρ b)
  | _, _ => -1
def sSwap (σ : Sg) (x y : Int32) : Sg := match ix x (σ.R * σ.C), ix y (σ.R * σ.C) with
  | some a, some b => if a = b then σ else σ.note.now (swapR σ.ρ a b)
  | _, _ => σ
theorem c_X7_swap (hn : 89 ≤ n) (X : XI h π σ) (x y : Int32) : Ctr l D cy B yX7_swap wsX7_swap rmX7_swap 0 0 n (rf0 π) h lg [.ref (B + 0), .int x, .int y] (XQ h lg (aSwap σ x y) (sSwap σ x y)) := by
  obtain ⟨T, q, u, ok, xr, xp, xk⟩ := id X
  have hl := q.1.le
  cases e : ix x (σ.R * σ.C) with
  | none =>
    rw [show aSwap σ x y = -1 by simp only [aSwap, e], show sSwap σ x y = σ by simp only [sSwap, e]]
    refine Ctr.of (cc := cX7_swap) (nL := 3) (own := RX7) (rt := (some .int)) (ls := [some (.ref (B + 0)), some (.int x), some (.int y)]) (by decide) rfl rfl (Nat.le_of_ble_eq_true rfl) rfl ?_
    refine wp_aload_n_0 (pc' := 1) dX7_swap_0 rfl ?_
    refine wp_iload_n_1 (pc' := 2) dX7_swap_1 rfl ?_
    refine wp_callVu (pc' := 5) (c_X7_isPlace hn q _) gX7_swap_X7_isPlace rfl rfl hy_X7_isPlace ⟨Nat.le_of_ble_eq_true rfl, Nat.le_of_ble_eq_true rfl⟩ ⟨rfl, rfl⟩ (Nat.le_of_ble_eq_true rfl) ⟨Nat.le_of_ble_eq_true rfl, Nat.le_of_ble_eq_true rfl⟩ (by omega) (ce7 rfl) rfl rfl dX7_swap_2 rfl ?_
    rw [e]
    refine wp_if_eq (pc' := 8) (tgt := 21) dX7_swap_5 rfl rfl (fun c5 => ?_) (fun c5 => by exfalso; exact c5 rfl)
    refine wp_iconst (pc' := 22) (-1) dX7_swap_21 rfl (by decide) ?_
    refine wp_ireturn dX7_swap_22 rfl rfl (Nat.le_refl _) (Nat.le_refl _) ?_
    exact XQ.id rfl X
  | some a =>
    cases e2 : ix y (σ.R * σ.C) with
    | none =>
      rw [show aSwap σ x y = -1 by simp only [aSwap, e, e2], show sSwap σ x y = σ by simp only [sSwap, e, e2]]
      refine Ctr.of (cc := cX7_swap) (nL := 3) (own := RX7) (rt := (some .int)) (ls := [some (.ref (B + 0)), some (.int x), some (.int y)]) (by decide) rfl rfl (Nat.le_of_ble_eq_true rfl) rfl ?_
      refine wp_aload_n_0 (pc' := 1) dX7_swap_0 rfl ?_
      refine wp_iload_n_1 (pc' := 2) dX7_swap_1 rfl ?_
      refine wp_callVu (pc' := 5) (c_X7_isPlace hn q _) gX7_swap_X7_isPlace rfl rfl hy_X7_isPlace ⟨Nat.le_of_ble_eq_true rfl, Nat.le_of_ble_eq_true rfl⟩ ⟨rfl, rfl⟩ (Nat.le_of_ble_eq_true rfl) ⟨Nat.le_of_ble_eq_true rfl, Nat.le_of_ble_eq_true rfl⟩ (by omega) (ce7 rfl) rfl rfl dX7_swap_2 rfl ?_
      rw [e]
      refine wp_if_eq (pc' := 8) (tgt := 21) dX7_swap_5 rfl rfl (fun c5 => by exfalso; exact absurd c5 (by first | exact bS | decide)) (fun c5 => ?_)
      refine wp_aload_n_0 (pc' := 9) dX7_swap_8 rfl ?_
      refine wp_iload_n_2 (pc' := 10) dX7_swap_9 rfl ?_
      refine wp_callVu (pc' := 13) (c_X7_isPlace hn q _) gX7_swap_X7_isPlace rfl rfl hy_X7_isPlace ⟨Nat.le_of_ble_eq_true rfl, Nat.le_of_ble_eq_true rfl⟩ ⟨rfl, rfl⟩ (Nat.le_of_ble_eq_true rfl) ⟨Nat.le_of_ble_eq_true rfl, Nat.le_of_ble_eq_true rfl⟩ (by omega) (ce7 rfl) rfl rfl dX7_swap_10 rfl ?_
      rw [e2]
      refine wp_if_eq (pc' := 16) (tgt := 21) dX7_swap_13 rfl rfl (fun c13 => ?_) (fun c13 => by exfalso; exact c13 rfl)
      refine wp_iconst (pc' := 22) (-1) dX7_swap_21 rfl (by decide) ?_
      refine wp_ireturn dX7_swap_22 rfl rfl (Nat.le_refl _) (Nat.le_refl _) ?_
      exact XQ.id rfl X
    | some b =>
      obtain ⟨rfl, z1⟩ := ix_some e
      obtain ⟨rfl, z2⟩ := ix_some e2
      by_cases z : a = b
      · rw [show aSwap σ (nI a) (nI b) = -1 by simp only [aSwap, e, e2, z, if_true], show sSwap σ (nI a) (nI b) = σ by simp only [sSwap, e, e2, z, if_true]]
        refine Ctr.of (cc := cX7_swap) (nL := 3) (own := RX7) (rt := (some .int)) (ls := [some (.ref (B + 0)), some (.int (nI a)), some (.int (nI b))]) (by decide) rfl rfl (Nat.le_of_ble_eq_true rfl) rfl ?_
        refine wp_aload_n_0 (pc' := 1) dX7_swap_0 rfl ?_
        refine wp_iload_n_1 (pc' := 2) dX7_swap_1 rfl ?_
        refine wp_callVu (pc' := 5) (c_X7_isPlace hn q _) gX7_swap_X7_isPlace rfl rfl hy_X7_isPlace ⟨Nat.le_of_ble_eq_true rfl, Nat.le_of_ble_eq_true rfl⟩ ⟨rfl, rfl⟩ (Nat.le_of_ble_eq_true rfl) ⟨Nat.le_of_ble_eq_true rfl, Nat.le_of_ble_eq_true rfl⟩ (by omega) (ce7 rfl) rfl rfl dX7_swap_2 rfl ?_
        rw [e]
        refine wp_if_eq (pc' := 8) (tgt := 21) dX7_swap_5 rfl rfl (fun c5 => by exfalso; exact absurd c5 (by first | exact bS | decide)) (fun c5 => ?_)
        refine wp_aload_n_0 (pc' := 9) dX7_swap_8 rfl ?_
        refine wp_iload_n_2 (pc' := 10) dX7_swap_9 rfl ?_
        refine wp_callVu (pc' := 13) (c_X7_isPlace hn q _) gX7_swap_X7_isPlace rfl rfl hy_X7_isPlace ⟨Nat.le_of_ble_eq_true rfl, Nat.le_of_ble_eq_true rfl⟩ ⟨rfl, rfl⟩ (Nat.le_of_ble_eq_true rfl) ⟨Nat.le_of_ble_eq_true rfl, Nat.le_of_ble_eq_true rfl⟩ (by omega) (ce7 rfl) rfl rfl dX7_swap_10 rfl ?_
        rw [e2]
        refine wp_if_eq (pc' := 16) (tgt := 21) dX7_swap_13 rfl rfl (fun c13 => by exfalso; exact absurd c13 (by first | exact bS | decide)) (fun c13 => ?_)
        refine wp_iload_n_1 (pc' := 17) dX7_swap_16 rfl ?_
        refine wp_iload_n_2 (pc' := 18) dX7_swap_17 rfl ?_
        refine wp_icmp_ne (pc' := 21) (tgt := 23) dX7_swap_18 rfl rfl (fun c18 => by exfalso; exact c18 (by rw [z])) (fun c18 => ?_)
        refine wp_iconst (pc' := 22) (-1) dX7_swap_21 rfl (by decide) ?_
        refine wp_ireturn dX7_swap_22 rfl rfl (Nat.le_refl _) (Nat.le_refl _) ?_
        exact XQ.id rfl X
      · rw [show aSwap σ (nI a) (nI b) = nI (σ.ρ b) by simp only [aSwap, e, e2, z, if_false], show sSwap σ (nI a) (nI b) = σ.note.now (swapR σ.ρ a b) by simp only [sSwap, e, e2, z, if_false]]
        refine Ctr.of (cc := cX7_swap) (nL := 3) (own := RX7) (rt := (some .int)) (ls := [some (.ref (B + 0)), some (.int (nI a)), some (.int (nI b))]) (by decide) rfl rfl (Nat.le_of_ble_eq_true rfl) rfl ?_
        refine wp_aload_n_0 (pc' := 1) dX7_swap_0 rfl ?_
        refine wp_iload_n_1 (pc' := 2) dX7_swap_1 rfl ?_
        refine wp_callVu (pc' := 5) (c_X7_isPlace hn q _) gX7_swap_X7_isPlace rfl rfl hy_X7_isPlace ⟨Nat.le_of_ble_eq_true rfl, Nat.le_of_ble_eq_true rfl⟩ ⟨rfl, rfl⟩ (Nat.le_of_ble_eq_true rfl) ⟨Nat.le_of_ble_eq_true rfl, Nat.le_of_ble_eq_true rfl⟩ (by omega) (ce7 rfl) rfl rfl dX7_swap_2 rfl ?_
        rw [e]
        refine wp_if_eq (pc' := 8) (tgt := 21) dX7_swap_5 rfl rfl (fun c5 => by exfalso; exact absurd c5 (by first | exact bS | decide)) (fun c5 => ?_)
        refine wp_aload_n_0 (pc' := 9) dX7_swap_8 rfl ?_
        refine wp_iload_n_2 (pc' := 10) dX7_swap_9 rfl ?_
        refine wp_callVu (pc' := 13) (c_X7_isPlace hn q _) gX7_swap_X7_isPlace rfl rfl hy_X7_isPlace ⟨Nat.le_of_ble_eq_true rfl, Nat.le_of_ble_eq_true rfl⟩ ⟨rfl, rfl⟩ (Nat.le_of_ble_eq_true rfl) ⟨Nat.le_of_ble_eq_true rfl, Nat.le_of_ble_eq_true rfl⟩ (by omega) (ce7 rfl) rfl rfl dX7_swap_10 rfl ?_
        rw [e2]
        refine wp_if_eq (pc' := 16) (tgt := 21) dX7_swap_13 rfl rfl (fun c13 => by exfalso; exact absurd c13 (by first | exact bS | decide)) (fun c13 => ?_)
        refine wp_iload_n_1 (pc' := 17) dX7_swap_16 rfl ?_
        refine wp_iload_n_2 (pc' := 18) dX7_swap_17 rfl ?_
        refine wp_icmp_ne (pc' := 21) (tgt := 23) dX7_swap_18 rfl rfl (fun c18 => ?_) (fun c18 => by exfalso; exact z ((nI_eq (by omega) (by omega)).mp c18))
        refine wp_aload_n_0 (pc' := 24) dX7_swap_23 rfl ?_
        refine wp_get_7_5 (pc' := 27) (by omega) rfl rfl me_X7_swap_0 ic_X7_swap_7 dX7_swap_24 rfl ?_
        refine wp_aload_n_0 (pc' := 28) dX7_swap_27 rfl ?_
        refine wp_get_7_3 (pc' := 31) (by omega) rfl rfl me_X7_swap_1 ic_X7_swap_7 dX7_swap_28 rfl ?_
        refine wp_callV (pc' := 34) (c_X2_push28 hn st18 xp.2.1 xp.1 X.piSt X.piNe) gX7_swap_X2_push rfl rfl hy_X2_push ⟨Nat.le_of_ble_eq_true rfl, Nat.le_of_ble_eq_true rfl⟩ ⟨rfl, rfl⟩ (Nat.le_of_ble_eq_true rfl) ⟨Nat.le_of_ble_eq_true rfl, Nat.le_of_ble_eq_true rfl⟩ (by omega) (ce2 rfl) rfl rfl dX7_swap_31 rfl (fun v31 r31 h31 l31 q31 => ?_)
        obtain ⟨rfl, rfl, rfl, h2, cp, rfl⟩ := q31
        obtain ⟨X1, f1⟩ := X.pushed cp
        have xr1 := X1.2.2.2.2.1
        have xr2 := xr1.swap (x := a) (y := b) (by omega) (by omega)
        refine wp_aload_n_0 (pc' := 35) dX7_swap_34 rfl ?_
        refine wp_get_7_3 (pc' := 38) (by omega) rfl rfl me_X7_swap_1 ic_X7_swap_7 dX7_swap_35 rfl ?_
        refine wp_iload_n_1 (pc' := 39) dX7_swap_38 rfl ?_
        refine wp_iload_n_2 (pc' := 40) dX7_swap_39 rfl ?_
        refine wp_callVv (pc' := 43) (c_X5_trade hn st18 (by omega) (by omega)) gX7_swap_X5_trade rfl rfl hy_X5_trade ⟨Nat.le_of_ble_eq_true rfl, Nat.le_of_ble_eq_true rfl⟩ ⟨rfl, rfl⟩ (Nat.le_of_ble_eq_true rfl) ⟨Nat.le_of_ble_eq_true rfl, Nat.le_of_ble_eq_true rfl⟩ (by omega) (ce5 rfl) rfl rfl dX7_swap_40 rfl (fun h40 q40 => ?_)
        subst q40
        refine wp_aload_n_0 (pc' := 44) dX7_swap_43 rfl ?_
        refine wp_get_7_3 (pc' := 47) (by omega) rfl rfl me_X7_swap_1 ic_X7_swap_7 dX7_swap_44 rfl ?_
        refine wp_get_5_0 (pc' := 50) (by omega) rfl rfl me_X7_swap_2 ic_X7_swap_5 dX7_swap_47 rfl ?_
        refine wp_iload_n_1 (pc' := 51) dX7_swap_50 rfl ?_
        refine wp_iald (pc' := 52) (N := 16) (by omega) rfl rfl (by first | exact vp_in_nI (by omega) (by omega) | assumption | (unfold vp_in; decide)) dX7_swap_51 rfl ?_
        rw [nI_clamp (by omega), show _ = nI (swapR σ.ρ a b a) from xr2.1 a (by omega)]
        refine wp_ireturn dX7_swap_52 rfl rfl (Nat.le_refl _) (Nat.le_refl _) ?_
        exact XQ.of (by unfold swapR; rw [upN_off z, upN_at]) (X1.toNow (swapR_ok ok (by omega) (by omega)) xr2 (fun c hc => by rw [hup_cell (by omega), hup_cell (by omega)])) (fun k hk => by rw [hup_cell (by omega), hup_cell (by omega)]; exact f1 k (by omega))
def aAlter (σ : Sg) (x m : Int32) : Int32 := match ix x (σ.R * σ.C), ix m 6 with
  | some a, some _ => nI (σ.ρ a)
  | _, _ => -1
def sAlter (σ : Sg) (x m : Int32) : Sg := match ix x (σ.R * σ.C), ix m 6 with
  | some a, some b => σ.note.now (upN σ.ρ a b)
  | _, _ => σ
theorem c_X7_alter (hn : 89 ≤ n) (X : XI h π σ) (x m : Int32) : Ctr l D cy B yX7_alter wsX7_alter rmX7_alter 0 0 n (rf0 π) h lg [.ref (B + 0), .int x, .int m] (XQ h lg (aAlter σ x m) (sAlter σ x m)) := by
  obtain ⟨T, q, u, ok, xr, xp, xk⟩ := id X
  have hl := q.1.le
  cases e : ix x (σ.R * σ.C) with
  | none =>
    rw [show aAlter σ x m = -1 by simp only [aAlter, e], show sAlter σ x m = σ by simp only [sAlter, e]]
    refine Ctr.of (cc := cX7_alter) (nL := 4) (own := RX7) (rt := (some .int)) (ls := [some (.ref (B + 0)), some (.int x), some (.int m), none]) (by decide) rfl rfl (Nat.le_of_ble_eq_true rfl) rfl ?_
    refine wp_aload_n_0 (pc' := 1) dX7_alter_0 rfl ?_
    refine wp_iload_n_1 (pc' := 2) dX7_alter_1 rfl ?_
    refine wp_callVu (pc' := 5) (c_X7_isPlace hn q _) gX7_alter_X7_isPlace rfl rfl hy_X7_isPlace ⟨Nat.le_of_ble_eq_true rfl, Nat.le_of_ble_eq_true rfl⟩ ⟨rfl, rfl⟩ (Nat.le_of_ble_eq_true rfl) ⟨Nat.le_of_ble_eq_true rfl, Nat.le_of_ble_eq_true rfl⟩ (by omega) (ce7 rfl) rfl rfl dX7_alter_2 rfl ?_
    rw [e]
    refine wp_if_eq (pc' := 8) (tgt := 15) dX7_alter_5 rfl rfl (fun c5 => ?_) (fun c5 => by exfalso; exact c5 rfl)
    refine wp_iconst (pc' := 16) (-1) dX7_alter_15 rfl (by decide) ?_
    refine wp_ireturn dX7_alter_16 rfl rfl (Nat.le_refl _) (Nat.le_refl _) ?_
    exact XQ.id rfl X
  | some a =>
    cases e2 : ix m 6 with
    | none =>
      rw [show aAlter σ x m = -1 by simp only [aAlter, e, e2], show sAlter σ x m = σ by simp only [sAlter, e, e2]]
      refine Ctr.of (cc := cX7_alter) (nL := 4) (own := RX7) (rt := (some .int)) (ls := [some (.ref (B + 0)), some (.int x), some (.int m), none]) (by decide) rfl rfl (Nat.le_of_ble_eq_true rfl) rfl ?_
      refine wp_aload_n_0 (pc' := 1) dX7_alter_0 rfl ?_
      refine wp_iload_n_1 (pc' := 2) dX7_alter_1 rfl ?_
      refine wp_callVu (pc' := 5) (c_X7_isPlace hn q _) gX7_alter_X7_isPlace rfl rfl hy_X7_isPlace ⟨Nat.le_of_ble_eq_true rfl, Nat.le_of_ble_eq_true rfl⟩ ⟨rfl, rfl⟩ (Nat.le_of_ble_eq_true rfl) ⟨Nat.le_of_ble_eq_true rfl, Nat.le_of_ble_eq_true rfl⟩ (by omega) (ce7 rfl) rfl rfl dX7_alter_2 rfl ?_
      rw [e]
      refine wp_if_eq (pc' := 8) (tgt := 15) dX7_alter_5 rfl rfl (fun c5 => by exfalso; exact absurd c5 (by first | exact bS | decide)) (fun c5 => ?_)
      refine wp_iload_n_2 (pc' := 9) dX7_alter_8 rfl ?_
      refine wp_callSu (pc' := 12) (c_mark _) gX7_alter_X7_isMark rfl rfl hz_X7_isMark ⟨Nat.le_of_ble_eq_true rfl, Nat.le_of_ble_eq_true rfl⟩ ⟨rfl, rfl⟩ (Nat.le_of_ble_eq_true rfl) ⟨Nat.le_of_ble_eq_true rfl, Nat.le_of_ble_eq_true rfl⟩ rfl dX7_alter_9 rfl ?_
      rw [e2]
      refine wp_if_ne (pc' := 15) (tgt := 17) dX7_alter_12 rfl rfl (fun c12 => by exfalso; exact c12 rfl) (fun c12 => ?_)
      refine wp_iconst (pc' := 16) (-1) dX7_alter_15 rfl (by decide) ?_
      refine wp_ireturn dX7_alter_16 rfl rfl (Nat.le_refl _) (Nat.le_refl _) ?_
      exact XQ.id rfl X
    | some b =>
      obtain ⟨rfl, z1⟩ := ix_some e
      obtain ⟨rfl, z2⟩ := ix_some e2
      rw [show aAlter σ (nI a) (nI b) = nI (σ.ρ a) by simp only [aAlter, e, e2], show sAlter σ (nI a) (nI b) = σ.note.now (upN σ.ρ a b) by simp only [sAlter, e, e2]]
      refine Ctr.of (cc := cX7_alter) (nL := 4) (own := RX7) (rt := (some .int)) (ls := [some (.ref (B + 0)), some (.int (nI a)), some (.int (nI b)), none]) (by decide) rfl rfl (Nat.le_of_ble_eq_true rfl) rfl ?_
      refine wp_aload_n_0 (pc' := 1) dX7_alter_0 rfl ?_
      refine wp_iload_n_1 (pc' := 2) dX7_alter_1 rfl ?_
      refine wp_callVu (pc' := 5) (c_X7_isPlace hn q _) gX7_alter_X7_isPlace rfl rfl hy_X7_isPlace ⟨Nat.le_of_ble_eq_true rfl, Nat.le_of_ble_eq_true rfl⟩ ⟨rfl, rfl⟩ (Nat.le_of_ble_eq_true rfl) ⟨Nat.le_of_ble_eq_true rfl, Nat.le_of_ble_eq_true rfl⟩ (by omega) (ce7 rfl) rfl rfl dX7_alter_2 rfl ?_
      rw [e]
      refine wp_if_eq (pc' := 8) (tgt := 15) dX7_alter_5 rfl rfl (fun c5 => by exfalso; exact absurd c5 (by first | exact bS | decide)) (fun c5 => ?_)
      refine wp_iload_n_2 (pc' := 9) dX7_alter_8 rfl ?_
      refine wp_callSu (pc' := 12) (c_mark _) gX7_alter_X7_isMark rfl rfl hz_X7_isMark ⟨Nat.le_of_ble_eq_true rfl, Nat.le_of_ble_eq_true rfl⟩ ⟨rfl, rfl⟩ (Nat.le_of_ble_eq_true rfl) ⟨Nat.le_of_ble_eq_true rfl, Nat.le_of_ble_eq_true rfl⟩ rfl dX7_alter_9 rfl ?_
      rw [e2]
      refine wp_if_ne (pc' := 15) (tgt := 17) dX7_alter_12 rfl rfl (fun c12 => ?_) (fun c12 => by exfalso; exact absurd c12 (by first | exact bS | decide))
      refine wp_aload_n_0 (pc' := 18) dX7_alter_17 rfl ?_
      refine wp_get_7_5 (pc' := 21) (by omega) rfl rfl me_X7_alter_0 ic_X7_alter_7 dX7_alter_18 rfl ?_
      refine wp_aload_n_0 (pc' := 22) dX7_alter_21 rfl ?_
      refine wp_get_7_3 (pc' := 25) (by omega) rfl rfl me_X7_alter_1 ic_X7_alter_7 dX7_alter_22 rfl ?_
      refine wp_callV (pc' := 28) (c_X2_push28 hn st18 xp.2.1 xp.1 X.piSt X.piNe) gX7_alter_X2_push rfl rfl hy_X2_push ⟨Nat.le_of_ble_eq_true rfl, Nat.le_of_ble_eq_true rfl⟩ ⟨rfl, rfl⟩ (Nat.le_of_ble_eq_true rfl) ⟨Nat.le_of_ble_eq_true rfl, Nat.le_of_ble_eq_true rfl⟩ (by omega) (ce2 rfl) rfl rfl dX7_alter_25 rfl (fun v25 r25 h25 l25 q25 => ?_)
      obtain ⟨rfl, rfl, rfl, h2, cp, rfl⟩ := q25
      obtain ⟨X1, f1⟩ := X.pushed cp
      have xr1 := X1.2.2.2.2.1
      have xr2 := xr1.alter (x := a) (m := b) (by omega)
      refine wp_aload_n_0 (pc' := 29) dX7_alter_28 rfl ?_
      refine wp_get_7_3 (pc' := 32) (by omega) rfl rfl me_X7_alter_1 ic_X7_alter_7 dX7_alter_29 rfl ?_
      refine wp_get_5_0 (pc' := 35) (by omega) rfl rfl me_X7_alter_2 ic_X7_alter_5 dX7_alter_32 rfl ?_
      refine wp_iload_n_1 (pc' := 36) dX7_alter_35 rfl ?_
      refine wp_iald (pc' := 37) (N := 16) (by omega) rfl rfl (by first | exact vp_in_nI (by omega) (by omega) | assumption | (unfold vp_in; decide)) dX7_alter_36 rfl ?_
      rw [nI_clamp (by omega), show _ = nI (σ.ρ a) from xr1.1 a (by omega)]
      refine wp_istore_n_3 (pc' := 38) dX7_alter_37 (by decide) rfl rfl ?_
      refine wp_aload_n_0 (pc' := 39) dX7_alter_38 rfl ?_
      refine wp_get_7_3 (pc' := 42) (by omega) rfl rfl me_X7_alter_1 ic_X7_alter_7 dX7_alter_39 rfl ?_
      refine wp_get_5_0 (pc' := 45) (by omega) rfl rfl me_X7_alter_2 ic_X7_alter_5 dX7_alter_42 rfl ?_
      refine wp_iload_n_1 (pc' := 46) dX7_alter_45 rfl ?_
      refine wp_iload_n_2 (pc' := 47) dX7_alter_46 rfl ?_
      refine wp_iast (pc' := 48) (N := 16) (by omega) rfl rfl (by first | exact vp_in_nI (by omega) (by omega) | assumption | (unfold vp_in; decide)) dX7_alter_47 rfl ?_
      rw [nI_clamp (by omega)]
      refine wp_iload_n_3 (pc' := 49) dX7_alter_48 rfl ?_
      refine wp_ireturn dX7_alter_49 rfl rfl (Nat.le_refl _) (Nat.le_refl _) ?_
      exact XQ.of rfl (X1.toNow (ok.marks (fun i hi => by unfold upN; split; omega; exact ok.1 i hi) (fun i hi => upN_off (by omega))) xr2 (fun c hc => by rw [hup_cell (by omega)])) (fun k hk => by rw [hup_cell (by omega)]; exact f1 k (by omega))
def aStrike (σ : Sg) (w : Int32) : Int32 := match ix w (σ.ρ 16) with
  | none => -1
  | some _ => nI (σ.ρ 16 - 1)
def sStrike (σ : Sg) (w : Int32) : Sg := match ix w (σ.ρ 16) with
  | none => σ
  | some a => σ.note.now (dropR σ.ρ a)
theorem c_X7_strike (hn : 89 ≤ n) (X : XI h π σ) (w : Int32) : Ctr l D cy B yX7_strike wsX7_strike rmX7_strike 0 0 n (rf0 π) h lg [.ref (B + 0), .int w] (XQ h lg (aStrike σ w) (sStrike σ w)) := by
  obtain ⟨T, q, u, ok, xr, xp, xk⟩ := id X
  have hl := q.1.le
  cases e : ix w (σ.ρ 16) with
  | none =>
    rw [show aStrike σ w = -1 by simp only [aStrike, e], show sStrike σ w = σ by simp only [sStrike, e]]
    refine Ctr.of (cc := cX7_strike) (nL := 2) (own := RX7) (rt := (some .int)) (ls := [some (.ref (B + 0)), some (.int w)]) (by decide) rfl rfl (Nat.le_of_ble_eq_true rfl) rfl ?_
    refine wp_aload_n_0 (pc' := 1) dX7_strike_0 rfl ?_
    refine wp_iload_n_1 (pc' := 2) dX7_strike_1 rfl ?_
    refine wp_callVu (pc' := 5) (c_X7_isWalk hn xr.2.1 ok.2.1 _) gX7_strike_X7_isWalk rfl rfl hy_X7_isWalk ⟨Nat.le_of_ble_eq_true rfl, Nat.le_of_ble_eq_true rfl⟩ ⟨rfl, rfl⟩ (Nat.le_of_ble_eq_true rfl) ⟨Nat.le_of_ble_eq_true rfl, Nat.le_of_ble_eq_true rfl⟩ (by omega) (ce7 rfl) rfl rfl dX7_strike_2 rfl ?_
    rw [e]
    refine wp_if_ne (pc' := 8) (tgt := 10) dX7_strike_5 rfl rfl (fun c5 => by exfalso; exact c5 rfl) (fun c5 => ?_)
    refine wp_iconst (pc' := 9) (-1) dX7_strike_8 rfl (by decide) ?_
    refine wp_ireturn dX7_strike_9 rfl rfl (Nat.le_refl _) (Nat.le_refl _) ?_
    exact XQ.id rfl X
  | some a =>
    obtain ⟨rfl, z1⟩ := ix_some e
    rw [show aStrike σ (nI a) = nI (σ.ρ 16 - 1) by simp only [aStrike, e], show sStrike σ (nI a) = σ.note.now (dropR σ.ρ a) by simp only [sStrike, e]]
    refine Ctr.of (cc := cX7_strike) (nL := 2) (own := RX7) (rt := (some .int)) (ls := [some (.ref (B + 0)), some (.int (nI a))]) (by decide) rfl rfl (Nat.le_of_ble_eq_true rfl) rfl ?_
    refine wp_aload_n_0 (pc' := 1) dX7_strike_0 rfl ?_
    refine wp_iload_n_1 (pc' := 2) dX7_strike_1 rfl ?_
    refine wp_callVu (pc' := 5) (c_X7_isWalk hn xr.2.1 ok.2.1 _) gX7_strike_X7_isWalk rfl rfl hy_X7_isWalk ⟨Nat.le_of_ble_eq_true rfl, Nat.le_of_ble_eq_true rfl⟩ ⟨rfl, rfl⟩ (Nat.le_of_ble_eq_true rfl) ⟨Nat.le_of_ble_eq_true rfl, Nat.le_of_ble_eq_true rfl⟩ (by omega) (ce7 rfl) rfl rfl dX7_strike_2 rfl ?_
    rw [e]
    refine wp_if_ne (pc' := 8) (tgt := 10) dX7_strike_5 rfl rfl (fun c5 => ?_) (fun c5 => by exfalso; exact absurd c5 (by first | exact bS | decide))
    refine wp_aload_n_0 (pc' := 11) dX7_strike_10 rfl ?_
    refine wp_get_7_5 (pc' := 14) (by omega) rfl rfl me_X7_strike_0 ic_X7_strike_7 dX7_strike_11 rfl ?_
    refine wp_aload_n_0 (pc' := 15) dX7_strike_14 rfl ?_
    refine wp_get_7_3 (pc' := 18) (by omega) rfl rfl me_X7_strike_1 ic_X7_strike_7 dX7_strike_15 rfl ?_
    refine wp_callV (pc' := 21) (c_X2_push28 hn st18 xp.2.1 xp.1 X.piSt X.piNe) gX7_strike_X2_push rfl rfl hy_X2_push ⟨Nat.le_of_ble_eq_true rfl, Nat.le_of_ble_eq_true rfl⟩ ⟨rfl, rfl⟩ (Nat.le_of_ble_eq_true rfl) ⟨Nat.le_of_ble_eq_true rfl, Nat.le_of_ble_eq_true rfl⟩ (by omega) (ce2 rfl) rfl rfl dX7_strike_18 rfl (fun v18 r18 h18 l18 q18 => ?_)
    obtain ⟨rfl, rfl, rfl, h2, cp, rfl⟩ := q18
    obtain ⟨X1, f1⟩ := X.pushed cp
    have xr1 : XR _ 18 σ.ρ := X1.2.2.2.2.1
    refine wp_aload_n_0 (pc' := 22) dX7_strike_21 rfl ?_
    refine wp_get_7_3 (pc' := 25) (by omega) rfl rfl me_X7_strike_1 ic_X7_strike_7 dX7_strike_22 rfl ?_
    refine wp_iload_n_1 (pc' := 26) dX7_strike_25 rfl ?_
    refine wp_callVv (pc' := 29) (c_X5_drop hn st18 ok xr1 z1) gX7_strike_X5_drop rfl rfl hy_X5_drop ⟨Nat.le_of_ble_eq_true rfl, Nat.le_of_ble_eq_true rfl⟩ ⟨rfl, rfl⟩ (Nat.le_of_ble_eq_true rfl) ⟨Nat.le_of_ble_eq_true rfl, Nat.le_of_ble_eq_true rfl⟩ (by omega) (ce5 rfl) rfl rfl dX7_strike_26 rfl (fun h26 q26 => ?_)
    obtain ⟨g0, g1⟩ := q26
    refine wp_aload_n_0 (pc' := 30) dX7_strike_29 rfl ?_
    refine wp_get_7_3 (pc' := 33) (by omega) rfl rfl me_X7_strike_1 ic_X7_strike_7 dX7_strike_30 rfl ?_
    refine wp_get_5_4 (pc' := 36) (by omega) rfl me_X7_strike_2 ic_X7_strike_5 dX7_strike_33 rfl ?_
    rw [show h26 18 4 = nI (σ.ρ 16 - 1) from g1.2.1]
    refine wp_ireturn dX7_strike_36 rfl rfl (Nat.le_refl _) (Nat.le_refl _) ?_
    exact XQ.of rfl (X1.toNow (dropR_ok ok) g1 (fun c hc => g0 c (by omega))) (fun k hk => by rw [g0 k (by omega)]; exact f1 k (by omega))
end VP2

