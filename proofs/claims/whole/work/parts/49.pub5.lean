abbrev rmX7_fear : Room := { frames := 3, cells := 0, slots := 0, locals := 62 }
theorem hy_X7_fear : yX7_fear.cls = RX7 ∧ yX7_fear.cls ≠ "java/lang/invoke/MethodHandle" ∧ yX7_fear.cls ≠ "java/lang/invoke/VarHandle" ∧ (parseMethodDescriptor yX7_fear.desc).map (fun d => d.parameters.length) = some 0 := by decide +kernel
theorem hz_X7_fear : yX7_fear.cls ≠ "java/lang/invoke/MethodHandle" ∧ yX7_fear.cls ≠ "java/lang/invoke/VarHandle" ∧ (parseMethodDescriptor yX7_fear.desc).map (fun d => d.parameters.length) = some 0 := by decide +kernel
abbrev rmX7_known : Room := { frames := 5, cells := 0, slots := 0, locals := 118 }
theorem hy_X7_known : yX7_known.cls = RX7 ∧ yX7_known.cls ≠ "java/lang/invoke/MethodHandle" ∧ yX7_known.cls ≠ "java/lang/invoke/VarHandle" ∧ (parseMethodDescriptor yX7_known.desc).map (fun d => d.parameters.length) = some 2 := by decide +kernel
theorem hz_X7_known : yX7_known.cls ≠ "java/lang/invoke/MethodHandle" ∧ yX7_known.cls ≠ "java/lang/invoke/VarHandle" ∧ (parseMethodDescriptor yX7_known.desc).map (fun d => d.parameters.length) = some 2 := by decide +kernel
abbrev rmX7_lost : Room := { frames := 4, cells := 0, slots := 0, locals := 100 }
theorem hy_X7_lost : yX7_lost.cls = RX7 ∧ yX7_lost.cls ≠ "java/lang/invoke/MethodHandle" ∧ yX7_lost.cls ≠ "java/lang/invoke/VarHandle" ∧ (parseMethodDescriptor yX7_lost.desc).map (fun d => d.parameters.length) = some 2 := by decide +kernel
theorem hz_X7_lost : yX7_lost.cls ≠ "java/lang/invoke/MethodHandle" ∧ yX7_lost.cls ≠ "java/lang/invoke/VarHandle" ∧ (parseMethodDescriptor yX7_lost.desc).map (fun d => d.parameters.length) = some 2 := by decide +kernel
abbrev rmX7_road : Room := { frames := 5, cells := 0, slots := 0, locals := 117 }
theorem hy_X7_road : yX7_road.cls = RX7 ∧ yX7_road.cls ≠ "java/lang/invoke/MethodHandle" ∧ yX7_road.cls ≠ "java/lang/invoke/VarHandle" ∧ (parseMethodDescriptor yX7_road.desc).map (fun d => d.parameters.length) = some 3 := by decide +kernel
theorem hz_X7_road : yX7_road.cls ≠ "java/lang/invoke/MethodHandle" ∧ yX7_road.cls ≠ "java/lang/invoke/VarHandle" ∧ (parseMethodDescriptor yX7_road.desc).map (fun d => d.parameters.length) = some 3 := by decide +kernel
theorem me_X7_fear_0 : Cond.fieldLink RX7 19 "DrawnByLost" "finder" "LDrawnByLost$Finder;" ∈ wsX7_fear := by decide +kernel
theorem me_X7_road_0 : Cond.fieldLink RX7 53 "DrawnByLost" "traveller" "LDrawnByLost$Traveller;" ∈ wsX7_road := by decide +kernel
theorem me_X7_road_1 : Cond.fieldLink RX7 27 "DrawnByLost" "land" "LDrawnByLost$Land;" ∈ wsX7_road := by decide +kernel
theorem me_X7_road_2 : Cond.fieldLink RX7 31 "DrawnByLost" "now" "LDrawnByLost$Story;" ∈ wsX7_road := by decide +kernel
theorem me_X7_road_3 : Cond.fieldLink RX7 106 "DrawnByLost$Story" "marks" "[I" ∈ wsX7_road := by decide +kernel
theorem me_X7_road_4 : Cond.fieldLink RX7 213 "DrawnByLost$Traveller" "left" "[I" ∈ wsX7_road := by decide +kernel
theorem me_X7_lost_0 : Cond.fieldLink RX7 31 "DrawnByLost" "now" "LDrawnByLost$Story;" ∈ wsX7_lost := by decide +kernel
theorem me_X7_lost_1 : Cond.fieldLink RX7 53 "DrawnByLost" "traveller" "LDrawnByLost$Traveller;" ∈ wsX7_lost := by decide +kernel
theorem me_X7_known_0 : Cond.fieldLink RX7 60 "DrawnByLost" "speller" "LDrawnByLost$Speller;" ∈ wsX7_known := by decide +kernel
theorem me_X7_known_1 : Cond.fieldLink RX7 202 "DrawnByLost$Speller" "word" "[I" ∈ wsX7_known := by decide +kernel
theorem ic_X7_fear_7 : ∀ w ∈ wsX70, w ∈ wsX7_fear := by decide +kernel
theorem ic_X7_road_7 : ∀ w ∈ wsX70, w ∈ wsX7_road := by decide +kernel
theorem ic_X7_road_5 : ∀ w ∈ wsX50, w ∈ wsX7_road := by decide +kernel
theorem ic_X7_road_6 : ∀ w ∈ wsX60, w ∈ wsX7_road := by decide +kernel
theorem ic_X7_lost_7 : ∀ w ∈ wsX70, w ∈ wsX7_lost := by decide +kernel
theorem ic_X7_known_7 : ∀ w ∈ wsX70, w ∈ wsX7_known := by decide +kernel
theorem ic_X7_known_4 : ∀ w ∈ wsX40, w ∈ wsX7_known := by decide +kernel
-- the class's calls: fear, road, lost, known
section VP5
variable {l : Launch} {D : va_G} {cy : CY} {B n : Nat} {h : Hp} {lg : Lg} {π : Nat → Nat} {σ : Sg}
def ferB (R C : Nat) (ρ : Nat → Nat) (m : Nat) : Bool := !anyB (R * C) (fun x => decide (ρ x = m))
def aFear (σ : Sg) : Int32 := SN 6 (ferB σ.R σ.C σ.ρ)
theorem atB_fer {R C : Nat} {ρ : Nat → Nat} {m : Nat} (hl : R * C ≤ 16) : S (atB R C ρ m) = 0 ↔ ferB R C ρ m = true := by
  rw [S_eq0]
  unfold ferB
  rw [Bool.not_eq_true', Bool.eq_false_iff]
  constructor
  · intro q z
    obtain ⟨x, h1, h2⟩ := anyB_iff.mp z
    have := q x (by omega)
    simp only [atB, Bool.and_eq_false_iff, decide_eq_false_iff_not] at this
    rcases this with w | w
    · exact w h1
    · exact w (of_decide_eq_true h2)
  · intro q x hx
    cases e : atB R C ρ m x
    · rfl
    · exfalso
      simp only [atB, Bool.and_eq_true, decide_eq_true_eq] at e
      exact q (anyB_iff.mpr ⟨x, e.1, decide_eq_true e.2⟩)
theorem lp_X7_fear {R C : Nat} {ρ : Nat → Nat} {post : PO} (hn : 89 ≤ n) (hl : R * C ≤ 16) (sp : Sp h R C ρ) (K : post (some (.int (SN 6 (ferB R C ρ)))) (rf0 π) h lg) :
    ∀ d i : Nat, i + d = 6 → WP l D cy B cX7_fear 3 RX7 wsX7_fear rmX7_fear (some .int) (QE0 D cy B n 0 0 (post)) EX0 n (rf0 π) h lg 0 0 9 [some (.ref (B + 0)), some (.int (SN i (ferB R C ρ))), some (.int (nI i))] [] := by
  intro d
  induction d with
  | zero =>
    intro i hi
    have : i = 6 := by omega
    subst this
    refine wp_iload_n_2 (pc' := 10) dX7_fear_9 rfl ?_
    refine wp_bipush (pc' := 12) (6) dX7_fear_10 rfl (by decide) ?_
    refine wp_icmp_ge (pc' := 15) (tgt := 38) dX7_fear_12 rfl rfl (fun c12 => ?_) (fun c12 => by exfalso; exact c12 (by decide))
    refine wp_iload_n_1 (pc' := 39) dX7_fear_38 rfl ?_
    refine wp_ireturn dX7_fear_39 rfl rfl (Nat.le_refl _) (Nat.le_refl _) ?_
    exact K
  | succ d ih =>
    intro i hi
    refine wp_iload_n_2 (pc' := 10) dX7_fear_9 rfl ?_
    refine wp_bipush (pc' := 12) (6) dX7_fear_10 rfl (by decide) ?_
    refine wp_icmp_ge (pc' := 15) (tgt := 38) dX7_fear_12 rfl rfl (fun c12 => by exfalso; (simp (disch := omega) only [Int32.lt_iff_toInt_lt, Int32.le_iff_toInt_le, ← Int32.toInt_inj, nI_toInt, il_0, il_1, il_2, il_3, il_4, il_5, il_6, il_8, il_9, il_10, il_16, il_26, il_32, il_40, il_n4, il_n1, il_n2, il_11, il_48, il_57, il_59, il_44, il_126, il_200, il_9999, il_66666, il_10000, il_1000000, il_15, il_12, il_256, il_4096, il_53, il_52] at c12; omega)) (fun c12 => ?_)
    refine wp_aload_n_0 (pc' := 16) dX7_fear_15 rfl ?_
    refine wp_get_7_1 (pc' := 19) (by omega) rfl rfl me_X7_fear_0 ic_X7_fear_7 dX7_fear_16 rfl ?_
    refine wp_iload_n_2 (pc' := 20) dX7_fear_19 rfl ?_
    refine wp_callVu (pc' := 23) (c_X0_placesOf hn sp (by omega)) gX7_fear_X0_placesOf rfl rfl hy_X0_placesOf ⟨Nat.le_of_ble_eq_true rfl, Nat.le_of_ble_eq_true rfl⟩ ⟨rfl, rfl⟩ (Nat.le_of_ble_eq_true rfl) ⟨Nat.le_of_ble_eq_true rfl, Nat.le_of_ble_eq_true rfl⟩ (by omega) (ce0 rfl) rfl rfl dX7_fear_20 rfl ?_
    refine wp_if_ne (pc' := 26) (tgt := 32) dX7_fear_23 rfl rfl (fun c23 => ?_) (fun c23 => ?_)
    · skip -- 23 taken
      refine wp_iinc_2 (pc' := 35) (v := nI (i + 1)) dX7_fear_32 (by first | rfl | exact nI_1 _) (by decide) rfl rfl ?_
      refine wp_goto (tgt := 9) dX7_fear_35 rfl ?_
      have e : ¬ ferB R C ρ i = true := fun z => c23 ((atB_fer hl).mpr z)
      have z := ih (i + 1) (by omega)
      rw [show SN (i + 1) (ferB R C ρ) = SN i (ferB R C ρ) by simp [SN, e]] at z
      exact z
    · skip -- 23 not taken
      refine wp_iload_n_1 (pc' := 27) dX7_fear_26 rfl ?_
      refine wp_iconst (pc' := 28) (1) dX7_fear_27 rfl (by decide) ?_
      refine wp_iload_n_2 (pc' := 29) dX7_fear_28 rfl ?_
      refine wp_ishl (pc' := 30) dX7_fear_29 rfl ?_
      refine wp_ior (pc' := 31) dX7_fear_30 rfl ?_
      refine wp_istore_n_1 (pc' := 32) dX7_fear_31 (by decide) rfl rfl ?_
      refine wp_iinc_2 (pc' := 35) (v := nI (i + 1)) dX7_fear_32 (by first | rfl | exact nI_1 _) (by decide) rfl rfl ?_
      refine wp_goto (tgt := 9) dX7_fear_35 rfl ?_
      have e : ferB R C ρ i = true := (atB_fer hl).mp c23
      have z := ih (i + 1) (by omega)
      rw [show SN (i + 1) (ferB R C ρ) = SN i (ferB R C ρ) ||| ((1 : Int32) <<< (nI i &&& 31)) by simp [SN, e]] at z
      exact z
theorem c_X7_fear (hn : 89 ≤ n) (X : XI h π σ) : Ctr l D cy B yX7_fear wsX7_fear rmX7_fear 0 0 n (rf0 π) h lg [.ref (B + 0)] (XQ h lg (aFear σ) σ) := by
  obtain ⟨T, q, u, ok, xr, xp, xk⟩ := id X
  refine Ctr.of (cc := cX7_fear) (nL := 3) (own := RX7) (rt := (some .int)) (ls := [some (.ref (B + 0)), none, none]) (by decide) rfl rfl (Nat.le_of_ble_eq_true rfl) rfl ?_
  refine wp_aload_n_0 (pc' := 1) dX7_fear_0 rfl ?_
  refine wp_callVR (pc' := 4) (c_X7_present hn q xr ok) gX7_fear_X7_present rfl rfl hy_X7_present ⟨Nat.le_of_ble_eq_true rfl, Nat.le_of_ble_eq_true rfl⟩ ⟨rfl, rfl⟩ (Nat.le_of_ble_eq_true rfl) ⟨Nat.le_of_ble_eq_true rfl, Nat.le_of_ble_eq_true rfl⟩ (by omega) (ce7 rfl) rfl rfl dX7_fear_1 rfl (fun h1 q1 => ?_)
  refine wp_pop (pc' := 5) dX7_fear_4 rfl rfl ?_
  refine wp_iconst (pc' := 6) (0) dX7_fear_5 rfl (by decide) ?_
  refine wp_istore_n_1 (pc' := 7) dX7_fear_6 (by decide) rfl rfl ?_
  refine wp_iconst (pc' := 8) (0) dX7_fear_7 rfl (by decide) ?_
  refine wp_istore_n_2 (pc' := 9) dX7_fear_8 (by decide) rfl rfl ?_
  exact lp_X7_fear hn q.1.le q1.2 (XQ.sc rfl X (by rw [q1.1 1 (by decide)]) (fun k hk => q1.1 k (by unfold Kp at hk; omega))) 6 0 (by omega)
noncomputable def dst (R C : Nat) (hm : Nat → Nat) (g : Nat) : Nat → Nat := Classical.epsilon (fun D => IsD R C hm g D ∧ ∀ x, x < R * C → D x ≤ 54)
theorem dst_ok {R C g : Nat} {hm : Nat → Nat} (h : Sh R C) (hg : g < R * C) (h9 : ∀ y, y < R * C → hm y ≤ 9) : IsD R C hm g (dst R C hm g) ∧ ∀ x, x < R * C → dst R C hm g x ≤ 54 := Classical.epsilon_spec (p := fun D => IsD R C hm g D ∧ ∀ x, x < R * C → D x ≤ 54) (exDist h hg h9)
theorem dst_0 {R C g x : Nat} {hm : Nat → Nat} (h : Sh R C) (hg : g < R * C) (h9 : ∀ y, y < R * C → hm y ≤ 9) (h1 : ∀ y, y < R * C → 1 ≤ hm y) (hx : x < R * C) : dst R C hm g x = 0 ↔ x = g := by
  obtain ⟨d, _⟩ := dst_ok h hg h9
  constructor
  · intro z
    apply Classical.byContradiction
    intro e
    obtain ⟨y, hy, _, hle⟩ := d.1.2 x hx e
    have := h1 y hy
    omega
  · rintro rfl; exact d.1.1
theorem nxF_congr {f g : Nat → Bool} {df : Nat} : ∀ d y, (∀ z, y ≤ z → z < y + d → f z = g z) → nxF f df d y = nxF g df d y := by
  intro d
  induction d with
  | zero => intro y _; rfl
  | succ d ih =>
    intro y e
    simp only [nxF]
    rw [e y (by omega) (by omega), ih (y + 1) (fun z h1 h2 => e z (by omega) (by omega))]
noncomputable def aRoad (σ : Sg) (x y t : Int32) : Int32 := match ix x (σ.R * σ.C), ix y (σ.R * σ.C), ix t 2 with
  | some a, some b, some 0 => nI (dst σ.R σ.C (fun z => σ.hu (σ.ρ z)) b a)
  | some a, some b, some _ => nI (if a = b then a else nxF (nxP σ.R σ.C (fun z => σ.hu (σ.ρ z)) (dst σ.R σ.C (fun z => σ.hu (σ.ρ z)) b) a) a 16 0)
  | _, _, _ => -1
theorem c_X7_road (hn : 89 ≤ n) (X : XI h π σ) (x y t : Int32) : Ctr l D cy B yX7_road wsX7_road rmX7_road 0 0 n (rf0 π) h lg [.ref (B + 0), .int x, .int y, .int t] (XQ h lg (aRoad σ x y t) σ) := by
  obtain ⟨T, q, u, ok, xr, xp, xk⟩ := id X
  have hl := q.1.le
  have h9 : ∀ z, z < σ.R * σ.C → σ.hu (σ.ρ z) ≤ 9 := fun z hz => (u (σ.ρ z) (by have := ok.1 z (by omega); omega)).2.2
  have h1 : ∀ z, z < σ.R * σ.C → 1 ≤ σ.hu (σ.ρ z) := fun z hz => (u (σ.ρ z) (by have := ok.1 z (by omega); omega)).2.1
  cases e : ix x (σ.R * σ.C) with
  | none =>
    rw [show aRoad σ x y t = -1 by simp only [aRoad, e]]
    refine Ctr.of (cc := cX7_road) (nL := 4) (own := RX7) (rt := (some .int)) (ls := [some (.ref (B + 0)), some (.int x), some (.int y), some (.int t)]) (by decide) rfl rfl (Nat.le_of_ble_eq_true rfl) rfl ?_
    refine wp_aload_n_0 (pc' := 1) dX7_road_0 rfl ?_
    refine wp_iload_n_1 (pc' := 2) dX7_road_1 rfl ?_
    refine wp_callVu (pc' := 5) (c_X7_isPlace hn q _) gX7_road_X7_isPlace rfl rfl hy_X7_isPlace ⟨Nat.le_of_ble_eq_true rfl, Nat.le_of_ble_eq_true rfl⟩ ⟨rfl, rfl⟩ (Nat.le_of_ble_eq_true rfl) ⟨Nat.le_of_ble_eq_true rfl, Nat.le_of_ble_eq_true rfl⟩ (by omega) (ce7 rfl) rfl rfl dX7_road_2 rfl ?_
    rw [e]
    refine wp_if_eq (pc' := 8) (tgt := 23) dX7_road_5 rfl rfl (fun c5 => ?_) (fun c5 => by exfalso; exact c5 rfl)
    refine wp_iconst (pc' := 24) (-1) dX7_road_23 rfl (by decide) ?_
    refine wp_ireturn dX7_road_24 rfl rfl (Nat.le_refl _) (Nat.le_refl _) ?_
    exact XQ.id rfl X
  | some a =>
    cases e2 : ix y (σ.R * σ.C) with
    | none =>
      rw [show aRoad σ x y t = -1 by simp only [aRoad, e, e2]]
      refine Ctr.of (cc := cX7_road) (nL := 4) (own := RX7) (rt := (some .int)) (ls := [some (.ref (B + 0)), some (.int x), some (.int y), some (.int t)]) (by decide) rfl rfl (Nat.le_of_ble_eq_true rfl) rfl ?_
      refine wp_aload_n_0 (pc' := 1) dX7_road_0 rfl ?_
      refine wp_iload_n_1 (pc' := 2) dX7_road_1 rfl ?_
      refine wp_callVu (pc' := 5) (c_X7_isPlace hn q _) gX7_road_X7_isPlace rfl rfl hy_X7_isPlace ⟨Nat.le_of_ble_eq_true rfl, Nat.le_of_ble_eq_true rfl⟩ ⟨rfl, rfl⟩ (Nat.le_of_ble_eq_true rfl) ⟨Nat.le_of_ble_eq_true rfl, Nat.le_of_ble_eq_true rfl⟩ (by omega) (ce7 rfl) rfl rfl dX7_road_2 rfl ?_
      rw [e]
      refine wp_if_eq (pc' := 8) (tgt := 23) dX7_road_5 rfl rfl (fun c5 => by exfalso; exact absurd c5 (by first | exact bS | decide)) (fun c5 => ?_)
      refine wp_aload_n_0 (pc' := 9) dX7_road_8 rfl ?_
      refine wp_iload_n_2 (pc' := 10) dX7_road_9 rfl ?_
      refine wp_callVu (pc' := 13) (c_X7_isPlace hn q _) gX7_road_X7_isPlace rfl rfl hy_X7_isPlace ⟨Nat.le_of_ble_eq_true rfl, Nat.le_of_ble_eq_true rfl⟩ ⟨rfl, rfl⟩ (Nat.le_of_ble_eq_true rfl) ⟨Nat.le_of_ble_eq_true rfl, Nat.le_of_ble_eq_true rfl⟩ (by omega) (ce7 rfl) rfl rfl dX7_road_10 rfl ?_
      rw [e2]
      refine wp_if_eq (pc' := 16) (tgt := 23) dX7_road_13 rfl rfl (fun c13 => ?_) (fun c13 => by exfalso; exact c13 rfl)
      refine wp_iconst (pc' := 24) (-1) dX7_road_23 rfl (by decide) ?_
      refine wp_ireturn dX7_road_24 rfl rfl (Nat.le_refl _) (Nat.le_refl _) ?_
      exact XQ.id rfl X
    | some b =>
      cases e3 : ix t 2 with
      | none =>
        rw [show aRoad σ x y t = -1 by simp only [aRoad, e, e2, e3]]
        refine Ctr.of (cc := cX7_road) (nL := 4) (own := RX7) (rt := (some .int)) (ls := [some (.ref (B + 0)), some (.int x), some (.int y), some (.int t)]) (by decide) rfl rfl (Nat.le_of_ble_eq_true rfl) rfl ?_
        refine wp_aload_n_0 (pc' := 1) dX7_road_0 rfl ?_
        refine wp_iload_n_1 (pc' := 2) dX7_road_1 rfl ?_
        refine wp_callVu (pc' := 5) (c_X7_isPlace hn q _) gX7_road_X7_isPlace rfl rfl hy_X7_isPlace ⟨Nat.le_of_ble_eq_true rfl, Nat.le_of_ble_eq_true rfl⟩ ⟨rfl, rfl⟩ (Nat.le_of_ble_eq_true rfl) ⟨Nat.le_of_ble_eq_true rfl, Nat.le_of_ble_eq_true rfl⟩ (by omega) (ce7 rfl) rfl rfl dX7_road_2 rfl ?_
        rw [e]
        refine wp_if_eq (pc' := 8) (tgt := 23) dX7_road_5 rfl rfl (fun c5 => by exfalso; exact absurd c5 (by first | exact bS | decide)) (fun c5 => ?_)
        refine wp_aload_n_0 (pc' := 9) dX7_road_8 rfl ?_
        refine wp_iload_n_2 (pc' := 10) dX7_road_9 rfl ?_
        refine wp_callVu (pc' := 13) (c_X7_isPlace hn q _) gX7_road_X7_isPlace rfl rfl hy_X7_isPlace ⟨Nat.le_of_ble_eq_true rfl, Nat.le_of_ble_eq_true rfl⟩ ⟨rfl, rfl⟩ (Nat.le_of_ble_eq_true rfl) ⟨Nat.le_of_ble_eq_true rfl, Nat.le_of_ble_eq_true rfl⟩ (by omega) (ce7 rfl) rfl rfl dX7_road_10 rfl ?_
        rw [e2]
        refine wp_if_eq (pc' := 16) (tgt := 23) dX7_road_13 rfl rfl (fun c13 => by exfalso; exact absurd c13 (by first | exact bS | decide)) (fun c13 => ?_)
        refine wp_iload_n_3 (pc' := 17) dX7_road_16 rfl ?_
        refine wp_callSu (pc' := 20) (c_choice _) gX7_road_X7_isChoice rfl rfl hz_X7_isChoice ⟨Nat.le_of_ble_eq_true rfl, Nat.le_of_ble_eq_true rfl⟩ ⟨rfl, rfl⟩ (Nat.le_of_ble_eq_true rfl) ⟨Nat.le_of_ble_eq_true rfl, Nat.le_of_ble_eq_true rfl⟩ rfl dX7_road_17 rfl ?_
        rw [e3]
        refine wp_if_ne (pc' := 23) (tgt := 25) dX7_road_20 rfl rfl (fun c20 => by exfalso; exact c20 rfl) (fun c20 => ?_)
        refine wp_iconst (pc' := 24) (-1) dX7_road_23 rfl (by decide) ?_
        refine wp_ireturn dX7_road_24 rfl rfl (Nat.le_refl _) (Nat.le_refl _) ?_
        exact XQ.id rfl X
      | some c =>
        obtain ⟨rfl, z1⟩ := ix_some e
        obtain ⟨rfl, z2⟩ := ix_some e2
        have dd := dst_ok q.1 z2 h9
        rcases ix2 e3 with ⟨rfl, rfl⟩ | ⟨rfl, rfl⟩
        · rw [show aRoad σ (nI a) (nI b) 0 = nI (dst σ.R σ.C (fun z => σ.hu (σ.ρ z)) b a) by simp only [aRoad, e, e2, e3]]
          refine Ctr.of (cc := cX7_road) (nL := 4) (own := RX7) (rt := (some .int)) (ls := [some (.ref (B + 0)), some (.int (nI a)), some (.int (nI b)), some (.int 0)]) (by decide) rfl rfl (Nat.le_of_ble_eq_true rfl) rfl ?_
          refine wp_aload_n_0 (pc' := 1) dX7_road_0 rfl ?_
          refine wp_iload_n_1 (pc' := 2) dX7_road_1 rfl ?_
          refine wp_callVu (pc' := 5) (c_X7_isPlace hn q _) gX7_road_X7_isPlace rfl rfl hy_X7_isPlace ⟨Nat.le_of_ble_eq_true rfl, Nat.le_of_ble_eq_true rfl⟩ ⟨rfl, rfl⟩ (Nat.le_of_ble_eq_true rfl) ⟨Nat.le_of_ble_eq_true rfl, Nat.le_of_ble_eq_true rfl⟩ (by omega) (ce7 rfl) rfl rfl dX7_road_2 rfl ?_
          rw [e]
          refine wp_if_eq (pc' := 8) (tgt := 23) dX7_road_5 rfl rfl (fun c5 => by exfalso; exact absurd c5 (by first | exact bS | decide)) (fun c5 => ?_)
          refine wp_aload_n_0 (pc' := 9) dX7_road_8 rfl ?_
          refine wp_iload_n_2 (pc' := 10) dX7_road_9 rfl ?_
          refine wp_callVu (pc' := 13) (c_X7_isPlace hn q _) gX7_road_X7_isPlace rfl rfl hy_X7_isPlace ⟨Nat.le_of_ble_eq_true rfl, Nat.le_of_ble_eq_true rfl⟩ ⟨rfl, rfl⟩ (Nat.le_of_ble_eq_true rfl) ⟨Nat.le_of_ble_eq_true rfl, Nat.le_of_ble_eq_true rfl⟩ (by omega) (ce7 rfl) rfl rfl dX7_road_10 rfl ?_
          rw [e2]
          refine wp_if_eq (pc' := 16) (tgt := 23) dX7_road_13 rfl rfl (fun c13 => by exfalso; exact absurd c13 (by first | exact bS | decide)) (fun c13 => ?_)
          refine wp_iload_n_3 (pc' := 17) dX7_road_16 rfl ?_
          refine wp_callSu (pc' := 20) (c_choice _) gX7_road_X7_isChoice rfl rfl hz_X7_isChoice ⟨Nat.le_of_ble_eq_true rfl, Nat.le_of_ble_eq_true rfl⟩ ⟨rfl, rfl⟩ (Nat.le_of_ble_eq_true rfl) ⟨Nat.le_of_ble_eq_true rfl, Nat.le_of_ble_eq_true rfl⟩ rfl dX7_road_17 rfl ?_
          rw [e3]
          refine wp_if_ne (pc' := 23) (tgt := 25) dX7_road_20 rfl rfl (fun c20 => ?_) (fun c20 => by exfalso; exact absurd c20 (by first | exact bS | decide))
          refine wp_aload_n_0 (pc' := 26) dX7_road_25 rfl ?_
          refine wp_get_7_7 (pc' := 29) (by omega) rfl rfl me_X7_road_0 ic_X7_road_7 dX7_road_26 rfl ?_
          refine wp_aload_n_0 (pc' := 30) dX7_road_29 rfl ?_
          refine wp_get_7_2 (pc' := 33) (by omega) rfl rfl me_X7_road_1 ic_X7_road_7 dX7_road_30 rfl ?_
          refine wp_aload_n_0 (pc' := 34) dX7_road_33 rfl ?_
          refine wp_get_7_3 (pc' := 37) (by omega) rfl rfl me_X7_road_2 ic_X7_road_7 dX7_road_34 rfl ?_
          refine wp_get_5_0 (pc' := 40) (by omega) rfl rfl me_X7_road_3 ic_X7_road_5 dX7_road_37 rfl ?_
          refine wp_iload_n_2 (pc' := 41) dX7_road_40 rfl ?_
          refine wp_callVv (pc' := 44) (c_X6_measure hn q X.MK u z2 dd.1 dd.2) gX7_road_X6_measure rfl rfl hy_X6_measure ⟨Nat.le_of_ble_eq_true rfl, Nat.le_of_ble_eq_true rfl⟩ ⟨rfl, rfl⟩ (Nat.le_of_ble_eq_true rfl) ⟨Nat.le_of_ble_eq_true rfl, Nat.le_of_ble_eq_true rfl⟩ (by omega) (ce6 rfl) rfl rfl dX7_road_41 rfl (fun h41 q41 => ?_)
          obtain ⟨g0, L, g1, g2⟩ := q41
          refine wp_iload_n_3 (pc' := 45) dX7_road_44 rfl ?_
          refine wp_if_ne (pc' := 48) (tgt := 60) dX7_road_45 rfl rfl (fun c45 => by exfalso; exact c45 rfl) (fun c45 => ?_)
          refine wp_aload_n_0 (pc' := 49) dX7_road_48 rfl ?_
          refine wp_get_7_7 (pc' := 52) (by omega) rfl rfl me_X7_road_0 ic_X7_road_7 dX7_road_49 rfl ?_
          refine wp_get_6_0 (pc' := 55) (by omega) rfl rfl me_X7_road_4 ic_X7_road_6 dX7_road_52 rfl ?_
          refine wp_iload_n_1 (pc' := 56) dX7_road_55 rfl ?_
          refine wp_iald (pc' := 57) (N := 16) (by omega) rfl rfl (by first | exact vp_in_nI (by omega) (by omega) | assumption | (unfold vp_in; decide)) dX7_road_56 rfl ?_
          rw [nI_clamp (by omega), (g1 a (by omega)).1, g2 a z1]
          refine wp_goto (tgt := 79) dX7_road_57 rfl ?_
          refine wp_ireturn dX7_road_79 rfl rfl (Nat.le_refl _) (Nat.le_refl _) ?_
          exact XQ.sc rfl X (by rw [g0 1 (by decide)]) (fun k hk => g0 k (by unfold Kp at hk; omega))
        · rw [show aRoad σ (nI a) (nI b) 1 = nI (if a = b then a else nxF (nxP σ.R σ.C (fun z => σ.hu (σ.ρ z)) (dst σ.R σ.C (fun z => σ.hu (σ.ρ z)) b) a) a 16 0) by simp only [aRoad, e, e2, e3]]
          refine Ctr.of (cc := cX7_road) (nL := 4) (own := RX7) (rt := (some .int)) (ls := [some (.ref (B + 0)), some (.int (nI a)), some (.int (nI b)), some (.int 1)]) (by decide) rfl rfl (Nat.le_of_ble_eq_true rfl) rfl ?_
          refine wp_aload_n_0 (pc' := 1) dX7_road_0 rfl ?_
          refine wp_iload_n_1 (pc' := 2) dX7_road_1 rfl ?_
          refine wp_callVu (pc' := 5) (c_X7_isPlace hn q _) gX7_road_X7_isPlace rfl rfl hy_X7_isPlace ⟨Nat.le_of_ble_eq_true rfl, Nat.le_of_ble_eq_true rfl⟩ ⟨rfl, rfl⟩ (Nat.le_of_ble_eq_true rfl) ⟨Nat.le_of_ble_eq_true rfl, Nat.le_of_ble_eq_true rfl⟩ (by omega) (ce7 rfl) rfl rfl dX7_road_2 rfl ?_
          rw [e]
          refine wp_if_eq (pc' := 8) (tgt := 23) dX7_road_5 rfl rfl (fun c5 => by exfalso; exact absurd c5 (by first | exact bS | decide)) (fun c5 => ?_)
          refine wp_aload_n_0 (pc' := 9) dX7_road_8 rfl ?_
          refine wp_iload_n_2 (pc' := 10) dX7_road_9 rfl ?_
          refine wp_callVu (pc' := 13) (c_X7_isPlace hn q _) gX7_road_X7_isPlace rfl rfl hy_X7_isPlace ⟨Nat.le_of_ble_eq_true rfl, Nat.le_of_ble_eq_true rfl⟩ ⟨rfl, rfl⟩ (Nat.le_of_ble_eq_true rfl) ⟨Nat.le_of_ble_eq_true rfl, Nat.le_of_ble_eq_true rfl⟩ (by omega) (ce7 rfl) rfl rfl dX7_road_10 rfl ?_
          rw [e2]
          refine wp_if_eq (pc' := 16) (tgt := 23) dX7_road_13 rfl rfl (fun c13 => by exfalso; exact absurd c13 (by first | exact bS | decide)) (fun c13 => ?_)
          refine wp_iload_n_3 (pc' := 17) dX7_road_16 rfl ?_
          refine wp_callSu (pc' := 20) (c_choice _) gX7_road_X7_isChoice rfl rfl hz_X7_isChoice ⟨Nat.le_of_ble_eq_true rfl, Nat.le_of_ble_eq_true rfl⟩ ⟨rfl, rfl⟩ (Nat.le_of_ble_eq_true rfl) ⟨Nat.le_of_ble_eq_true rfl, Nat.le_of_ble_eq_true rfl⟩ rfl dX7_road_17 rfl ?_
          rw [e3]
          refine wp_if_ne (pc' := 23) (tgt := 25) dX7_road_20 rfl rfl (fun c20 => ?_) (fun c20 => by exfalso; exact absurd c20 (by first | exact bS | decide))
          refine wp_aload_n_0 (pc' := 26) dX7_road_25 rfl ?_
          refine wp_get_7_7 (pc' := 29) (by omega) rfl rfl me_X7_road_0 ic_X7_road_7 dX7_road_26 rfl ?_
          refine wp_aload_n_0 (pc' := 30) dX7_road_29 rfl ?_
          refine wp_get_7_2 (pc' := 33) (by omega) rfl rfl me_X7_road_1 ic_X7_road_7 dX7_road_30 rfl ?_
          refine wp_aload_n_0 (pc' := 34) dX7_road_33 rfl ?_
          refine wp_get_7_3 (pc' := 37) (by omega) rfl rfl me_X7_road_2 ic_X7_road_7 dX7_road_34 rfl ?_
          refine wp_get_5_0 (pc' := 40) (by omega) rfl rfl me_X7_road_3 ic_X7_road_5 dX7_road_37 rfl ?_
          refine wp_iload_n_2 (pc' := 41) dX7_road_40 rfl ?_
          refine wp_callVv (pc' := 44) (c_X6_measure hn q X.MK u z2 dd.1 dd.2) gX7_road_X6_measure rfl rfl hy_X6_measure ⟨Nat.le_of_ble_eq_true rfl, Nat.le_of_ble_eq_true rfl⟩ ⟨rfl, rfl⟩ (Nat.le_of_ble_eq_true rfl) ⟨Nat.le_of_ble_eq_true rfl, Nat.le_of_ble_eq_true rfl⟩ (by omega) (ce6 rfl) rfl rfl dX7_road_41 rfl (fun h41 q41 => ?_)
          obtain ⟨g0, L, g1, g2⟩ := q41
          have em : (if L a = 0 then a else nxF (nxP σ.R σ.C (fun z => σ.hu (σ.ρ z)) L a) a 16 0) = (if a = b then a else nxF (nxP σ.R σ.C (fun z => σ.hu (σ.ρ z)) (dst σ.R σ.C (fun z => σ.hu (σ.ρ z)) b) a) a 16 0) := by
            rw [g2 a z1]
            by_cases w : a = b
            · rw [if_pos w, if_pos ((dst_0 q.1 z2 h9 h1 z1).mpr w)]
            · rw [if_neg w, if_neg (fun w2 => w ((dst_0 q.1 z2 h9 h1 z1).mp w2))]
              refine nxF_congr 16 0 (fun z _ _ => ?_)
              unfold nxP
              cases w3 : nbr σ.R σ.C a z
              · rfl
              · rw [g2 z (nbr_iff.mp w3).1, g2 a z1]
          refine wp_iload_n_3 (pc' := 45) dX7_road_44 rfl ?_
          refine wp_if_ne (pc' := 48) (tgt := 60) dX7_road_45 rfl rfl (fun c45 => ?_) (fun c45 => by exfalso; exact absurd c45 (by first | exact bS | decide))
          refine wp_aload_n_0 (pc' := 61) dX7_road_60 rfl ?_
          refine wp_get_7_7 (pc' := 64) (by omega) rfl rfl me_X7_road_0 ic_X7_road_7 dX7_road_61 rfl ?_
          refine wp_aload_n_0 (pc' := 65) dX7_road_64 rfl ?_
          refine wp_get_7_2 (pc' := 68) (by omega) rfl rfl me_X7_road_1 ic_X7_road_7 dX7_road_65 rfl ?_
          refine wp_aload_n_0 (pc' := 69) dX7_road_68 rfl ?_
          refine wp_get_7_3 (pc' := 72) (by omega) rfl rfl me_X7_road_2 ic_X7_road_7 dX7_road_69 rfl ?_
          refine wp_get_5_0 (pc' := 75) (by omega) rfl rfl me_X7_road_3 ic_X7_road_5 dX7_road_72 rfl ?_
          refine wp_iload_n_1 (pc' := 76) dX7_road_75 rfl ?_
          refine wp_callVu (pc' := 79) (c_X6_next (h := h41) hn (q.of_eq (g0 11 (by decide))) (X.MK.of_eq (g0 19 (by decide))) (u.of_eq (g0 12 (by decide))) g1 z1) gX7_road_X6_next rfl rfl hy_X6_next ⟨Nat.le_of_ble_eq_true rfl, Nat.le_of_ble_eq_true rfl⟩ ⟨rfl, rfl⟩ (Nat.le_of_ble_eq_true rfl) ⟨Nat.le_of_ble_eq_true rfl, Nat.le_of_ble_eq_true rfl⟩ (by omega) (ce6 rfl) rfl rfl dX7_road_76 rfl ?_
          refine wp_ireturn dX7_road_79 rfl rfl (Nat.le_refl _) (Nat.le_refl _) ?_
          exact XQ.sc (congrArg nI em) X (by rw [g0 1 (by decide)]) (fun k hk => g0 k (by unfold Kp at hk; omega))
def aLost (σ : Sg) (w k : Int32) : Int32 := match ix w (σ.ρ 16), ix k 5 with
  | some a, some j => if kw σ.ρ a = 0 ∧ j < sw σ.ρ a then chQ σ.R σ.C σ.ρ (fun i => σ.ρ (19 + 7 * a + i)) j else -2
  | _, _ => -1
theorem c_X7_lost (hn : 89 ≤ n) (X : XI h π σ) (w k : Int32) : Ctr l D cy B yX7_lost wsX7_lost rmX7_lost 0 0 n (rf0 π) h lg [.ref (B + 0), .int w, .int k] (XQ h lg (aLost σ w k) σ) := by
  obtain ⟨T, q, u, ok, xr, xp, xk⟩ := id X
  have o2 := ok.2.1
  cases e : ix w (σ.ρ 16) with
  | none =>
    rw [show aLost σ w k = -1 by simp only [aLost, e]]
    refine Ctr.of (cc := cX7_lost) (nL := 3) (own := RX7) (rt := (some .int)) (ls := [some (.ref (B + 0)), some (.int w), some (.int k)]) (by decide) rfl rfl (Nat.le_of_ble_eq_true rfl) rfl ?_
    refine wp_aload_n_0 (pc' := 1) dX7_lost_0 rfl ?_
    refine wp_iload_n_1 (pc' := 2) dX7_lost_1 rfl ?_
    refine wp_callVu (pc' := 5) (c_X7_isWalk hn xr.2.1 ok.2.1 _) gX7_lost_X7_isWalk rfl rfl hy_X7_isWalk ⟨Nat.le_of_ble_eq_true rfl, Nat.le_of_ble_eq_true rfl⟩ ⟨rfl, rfl⟩ (Nat.le_of_ble_eq_true rfl) ⟨Nat.le_of_ble_eq_true rfl, Nat.le_of_ble_eq_true rfl⟩ (by omega) (ce7 rfl) rfl rfl dX7_lost_2 rfl ?_
    rw [e]
    refine wp_if_eq (pc' := 8) (tgt := 17) dX7_lost_5 rfl rfl (fun c5 => ?_) (fun c5 => by exfalso; exact c5 rfl)
    refine wp_iconst (pc' := 18) (-1) dX7_lost_17 rfl (by decide) ?_
    refine wp_ireturn dX7_lost_18 rfl rfl (Nat.le_refl _) (Nat.le_refl _) ?_
    exact XQ.id rfl X
  | some a =>
    cases e2 : ix k 5 with
    | none =>
      have z := ix_none.mp e2
      rw [show aLost σ w k = -1 by simp only [aLost, e, e2]]
      refine Ctr.of (cc := cX7_lost) (nL := 3) (own := RX7) (rt := (some .int)) (ls := [some (.ref (B + 0)), some (.int w), some (.int k)]) (by decide) rfl rfl (Nat.le_of_ble_eq_true rfl) rfl ?_
      refine wp_aload_n_0 (pc' := 1) dX7_lost_0 rfl ?_
      refine wp_iload_n_1 (pc' := 2) dX7_lost_1 rfl ?_
      refine wp_callVu (pc' := 5) (c_X7_isWalk hn xr.2.1 ok.2.1 _) gX7_lost_X7_isWalk rfl rfl hy_X7_isWalk ⟨Nat.le_of_ble_eq_true rfl, Nat.le_of_ble_eq_true rfl⟩ ⟨rfl, rfl⟩ (Nat.le_of_ble_eq_true rfl) ⟨Nat.le_of_ble_eq_true rfl, Nat.le_of_ble_eq_true rfl⟩ (by omega) (ce7 rfl) rfl rfl dX7_lost_2 rfl ?_
      rw [e]
      refine wp_if_eq (pc' := 8) (tgt := 17) dX7_lost_5 rfl rfl (fun c5 => by exfalso; exact absurd c5 (by first | exact bS | decide)) (fun c5 => ?_)
      refine wp_iload_n_2 (pc' := 9) dX7_lost_8 rfl ?_
      refine wp_if_lt (pc' := 12) (tgt := 17) dX7_lost_9 rfl rfl (fun c9 => ?_) (fun c9 => ?_)
      · skip -- 9 taken
        refine wp_iconst (pc' := 18) (-1) dX7_lost_17 rfl (by decide) ?_
        refine wp_ireturn dX7_lost_18 rfl rfl (Nat.le_refl _) (Nat.le_refl _) ?_
        exact XQ.id rfl X
      · skip -- 9 not taken
        refine wp_iload_n_2 (pc' := 13) dX7_lost_12 rfl ?_
        refine wp_iconst (pc' := 14) (5) dX7_lost_13 rfl (by decide) ?_
        refine wp_icmp_lt (pc' := 17) (tgt := 19) dX7_lost_14 rfl rfl (fun c14 => by exfalso; (simp (disch := omega) only [Int32.lt_iff_toInt_lt, Int32.le_iff_toInt_le, ← Int32.toInt_inj, nI_toInt, il_0, il_1, il_2, il_3, il_4, il_5, il_6, il_8, il_9, il_10, il_16, il_26, il_32, il_40, il_n4, il_n1, il_n2, il_11, il_48, il_57, il_59, il_44, il_126, il_200, il_9999, il_66666, il_10000, il_1000000, il_15, il_12, il_256, il_4096, il_53, il_52] at *; omega)) (fun c14 => ?_)
        refine wp_iconst (pc' := 18) (-1) dX7_lost_17 rfl (by decide) ?_
        refine wp_ireturn dX7_lost_18 rfl rfl (Nat.le_refl _) (Nat.le_refl _) ?_
        exact XQ.id rfl X
    | some j =>
      obtain ⟨rfl, z1⟩ := ix_some e
      obtain ⟨rfl, z2⟩ := ix_some e2
      obtain ⟨b1, b2, b3, b4⟩ := ok.2.2 a z1
      have es : sw σ.ρ a = σ.ρ (18 + 7 * a) := rfl
      have ek : kw σ.ρ a = σ.ρ (17 + 7 * a) := rfl
      rw [show aLost σ (nI a) (nI j) = if kw σ.ρ a = 0 ∧ j < sw σ.ρ a then chQ σ.R σ.C σ.ρ (fun i => σ.ρ (19 + 7 * a + i)) j else -2 by simp only [aLost, e, e2]]
      refine Ctr.of (cc := cX7_lost) (nL := 3) (own := RX7) (rt := (some .int)) (ls := [some (.ref (B + 0)), some (.int (nI a)), some (.int (nI j))]) (by decide) rfl rfl (Nat.le_of_ble_eq_true rfl) rfl ?_
      refine wp_aload_n_0 (pc' := 1) dX7_lost_0 rfl ?_
      refine wp_iload_n_1 (pc' := 2) dX7_lost_1 rfl ?_
      refine wp_callVu (pc' := 5) (c_X7_isWalk hn xr.2.1 ok.2.1 _) gX7_lost_X7_isWalk rfl rfl hy_X7_isWalk ⟨Nat.le_of_ble_eq_true rfl, Nat.le_of_ble_eq_true rfl⟩ ⟨rfl, rfl⟩ (Nat.le_of_ble_eq_true rfl) ⟨Nat.le_of_ble_eq_true rfl, Nat.le_of_ble_eq_true rfl⟩ (by omega) (ce7 rfl) rfl rfl dX7_lost_2 rfl ?_
      rw [e]
      refine wp_if_eq (pc' := 8) (tgt := 17) dX7_lost_5 rfl rfl (fun c5 => by exfalso; exact absurd c5 (by first | exact bS | decide)) (fun c5 => ?_)
      refine wp_iload_n_2 (pc' := 9) dX7_lost_8 rfl ?_
      refine wp_if_lt (pc' := 12) (tgt := 17) dX7_lost_9 rfl rfl (fun c9 => by exfalso; exact nI_pos (by omega) c9) (fun c9 => ?_)
      refine wp_iload_n_2 (pc' := 13) dX7_lost_12 rfl ?_
      refine wp_iconst (pc' := 14) (5) dX7_lost_13 rfl (by decide) ?_
      refine wp_icmp_lt (pc' := 17) (tgt := 19) dX7_lost_14 rfl rfl (fun c14 => ?_) (fun c14 => by exfalso; (simp (disch := omega) only [Int32.lt_iff_toInt_lt, Int32.le_iff_toInt_le, ← Int32.toInt_inj, nI_toInt, il_0, il_1, il_2, il_3, il_4, il_5, il_6, il_8, il_9, il_10, il_16, il_26, il_32, il_40, il_n4, il_n1, il_n2, il_11, il_48, il_57, il_59, il_44, il_126, il_200, il_9999, il_66666, il_10000, il_1000000, il_15, il_12, il_256, il_4096, il_53, il_52] at c14; omega))
      refine wp_aload_n_0 (pc' := 20) dX7_lost_19 rfl ?_
      refine wp_get_7_3 (pc' := 23) (by omega) rfl rfl me_X7_lost_0 ic_X7_lost_7 dX7_lost_20 rfl ?_
      refine wp_iload_n_1 (pc' := 24) dX7_lost_23 rfl ?_
      refine wp_callVu (pc' := 27) (c_kindOf hn st18 xr ok z1) gX7_lost_X5_kindOf rfl rfl hy_X5_kindOf ⟨Nat.le_of_ble_eq_true rfl, Nat.le_of_ble_eq_true rfl⟩ ⟨rfl, rfl⟩ (Nat.le_of_ble_eq_true rfl) ⟨Nat.le_of_ble_eq_true rfl, Nat.le_of_ble_eq_true rfl⟩ (by omega) (ce5 rfl) rfl rfl dX7_lost_24 rfl ?_
      refine wp_if_ne (pc' := 30) (tgt := 42) dX7_lost_27 rfl rfl (fun c27 => ?_) (fun c27 => ?_)
      · skip -- 27 taken
        refine wp_bipush (pc' := 44) (-2) dX7_lost_42 rfl (by decide) ?_
        refine wp_ireturn dX7_lost_44 rfl rfl (Nat.le_refl _) (Nat.le_refl _) ?_
        exact XQ.id (by rw [if_neg (fun z => c27 (by rw [z.1]; rfl))]) X
      · skip -- 27 not taken
        refine wp_aload_n_0 (pc' := 31) dX7_lost_30 rfl ?_
        refine wp_get_7_3 (pc' := 34) (by omega) rfl rfl me_X7_lost_0 ic_X7_lost_7 dX7_lost_31 rfl ?_
        refine wp_iload_n_1 (pc' := 35) dX7_lost_34 rfl ?_
        refine wp_callVu (pc' := 38) (c_sizeOf hn st18 xr ok z1) gX7_lost_X5_sizeOf rfl rfl hy_X5_sizeOf ⟨Nat.le_of_ble_eq_true rfl, Nat.le_of_ble_eq_true rfl⟩ ⟨rfl, rfl⟩ (Nat.le_of_ble_eq_true rfl) ⟨Nat.le_of_ble_eq_true rfl, Nat.le_of_ble_eq_true rfl⟩ (by omega) (ce5 rfl) rfl rfl dX7_lost_35 rfl ?_
        refine wp_iload_n_2 (pc' := 39) dX7_lost_38 rfl ?_
        refine wp_icmp_gt (pc' := 42) (tgt := 45) dX7_lost_39 rfl rfl (fun c39 => ?_) (fun c39 => ?_)
        · skip -- 39 taken
          rw [es] at c39
          have k0 : kw σ.ρ a = 0 := (nI_eq (by omega) (by omega)).mp (show nI (kw σ.ρ a) = nI 0 from c27)
          have j0 : j < sw σ.ρ a := by rw [es]; (simp (disch := omega) only [Int32.lt_iff_toInt_lt, Int32.le_iff_toInt_le, ← Int32.toInt_inj, nI_toInt, il_0, il_1, il_2, il_3, il_4, il_5, il_6, il_8, il_9, il_10, il_16, il_26, il_32, il_40, il_n4, il_n1, il_n2, il_11, il_48, il_57, il_59, il_44, il_126, il_200, il_9999, il_66666, il_10000, il_1000000, il_15, il_12, il_256, il_4096, il_53, il_52] at c39; omega)
          refine wp_aload_n_0 (pc' := 46) dX7_lost_45 rfl ?_
          refine wp_get_7_7 (pc' := 49) (by omega) rfl rfl me_X7_lost_1 ic_X7_lost_7 dX7_lost_46 rfl ?_
          refine wp_aload_n_0 (pc' := 50) dX7_lost_49 rfl ?_
          refine wp_callVR (pc' := 53) (c_X7_present hn q xr ok) gX7_lost_X7_present rfl rfl hy_X7_present ⟨Nat.le_of_ble_eq_true rfl, Nat.le_of_ble_eq_true rfl⟩ ⟨rfl, rfl⟩ (Nat.le_of_ble_eq_true rfl) ⟨Nat.le_of_ble_eq_true rfl, Nat.le_of_ble_eq_true rfl⟩ (by omega) (ce7 rfl) rfl rfl dX7_lost_50 rfl (fun h50 q50 => ?_)
          refine wp_aload_n_0 (pc' := 54) dX7_lost_53 rfl ?_
          refine wp_get_7_3 (pc' := 57) (by omega) rfl rfl me_X7_lost_0 ic_X7_lost_7 dX7_lost_54 rfl ?_
          refine wp_iload_n_1 (pc' := 58) dX7_lost_57 rfl ?_
          refine wp_iload_n_2 (pc' := 59) dX7_lost_58 rfl ?_
          refine wp_callVq (pc' := 62) (c_X6_chance hn (q.of_eq (q50.1 11 (by decide))) q50.2 (X.xr2 (fun a h1 h2 => q50.1 a (by omega))) ok z1 j0 z2) gX7_lost_X6_chance rfl rfl hy_X6_chance ⟨Nat.le_of_ble_eq_true rfl, Nat.le_of_ble_eq_true rfl⟩ ⟨rfl, rfl⟩ (Nat.le_of_ble_eq_true rfl) ⟨Nat.le_of_ble_eq_true rfl, Nat.le_of_ble_eq_true rfl⟩ (by omega) (ce6 rfl) rfl rfl dX7_lost_59 rfl (fun x59 h59 q59 => ?_)
          refine wp_ireturn dX7_lost_62 rfl rfl (Nat.le_refl _) (Nat.le_refl _) ?_
          exact XQ.sc (by rw [if_pos ⟨k0, j0⟩]; exact q59.2) X (by rw [q59.1 1 (by decide) (by decide), q50.1 1 (by decide)]) (fun k hk => by unfold Kp at hk; rw [q59.1 k (by omega) (by omega), q50.1 k (by omega)])
        · skip -- 39 not taken
          rw [es] at c39
          refine wp_bipush (pc' := 44) (-2) dX7_lost_42 rfl (by decide) ?_
          refine wp_ireturn dX7_lost_44 rfl rfl (Nat.le_refl _) (Nat.le_refl _) ?_
          exact XQ.id (by rw [es, if_neg (fun z => c39 (nI_lt z.2 (by omega)))]) X
noncomputable def kfst (R C : Nat) (mk : Nat → Nat) (g : Int32) : Option (Nat × Nat) := @ite _ (∃ p : Nat × Nat, KFirst R C mk g p.1 p.2) (Classical.propDecidable _) (some (Classical.epsilon (fun p : Nat × Nat => KFirst R C mk g p.1 p.2))) none
theorem KFirst.uniq {R C s s' c c' : Nat} {mk : Nat → Nat} {g : Int32} (k : KFirst R C mk g s c) (k' : KFirst R C mk g s' c') : s = s' ∧ c = c' := by
  obtain ⟨a1, a2, a3, a4, a5, a6⟩ := k
  obtain ⟨b1, b2, b3, b4, b5, b6⟩ := k'
  have e : s = s' := by
    rcases Nat.lt_trichotomy s s' with z | z | z
    · exact absurd a4 (b6 s c a1 z a3)
    · exact z
    · exact absurd b4 (a6 s' c' b1 z b3)
  subst e
  refine ⟨rfl, ?_⟩
  rcases Nat.lt_trichotomy c c' with z | z | z
  · exact absurd a4 (b5 c z)
  · exact z
  · exact absurd b4 (a5 c' z)
theorem kfst_some {R C s c : Nat} {mk : Nat → Nat} {g : Int32} (k : KFirst R C mk g s c) : kfst R C mk g = some (s, c) := by
  have ex : ∃ p : Nat × Nat, KFirst R C mk g p.1 p.2 := ⟨(s, c), k⟩
  unfold kfst
  rw [if_pos ex]
  have z := Classical.epsilon_spec (p := fun p : Nat × Nat => KFirst R C mk g p.1 p.2) ex
  obtain ⟨e1, e2⟩ := KFirst.uniq z k
  congr 1
  exact Prod.ext e1 e2
theorem kfst_none {R C : Nat} {mk : Nat → Nat} {g : Int32} (k : ∀ s c, 1 ≤ s → s ≤ 4 → c < 6 ^ s → ¬ KW R C mk g s c) : kfst R C mk g = none := by
  unfold kfst
  rw [if_neg]
  rintro ⟨p, z⟩
  exact k p.1 p.2 z.1 z.2.1 z.2.2.1 z.2.2.2.1
noncomputable def aKnown (σ : Sg) (x k : Int32) : Int32 := match ix x (σ.R * σ.C) with
  | none => -1
  | some a => if k.toInt < -1 ∨ 4 ≤ k.toInt then -1 else match kfst σ.R σ.C σ.ρ ((1 : Int32) <<< (nI a &&& 31)) with
    | none => -4
    | some (s, c) => if (s : Int) ≤ k.toInt then -4 else if k.toInt = -1 then nI s else nI (dg s c k.toInt.toNat)
theorem c_X7_known (hn : 89 ≤ n) (X : XI h π σ) (x k : Int32) : Ctr l D cy B yX7_known wsX7_known rmX7_known 0 0 n (rf0 π) h lg [.ref (B + 0), .int x, .int k] (XQ h lg (aKnown σ x k) σ) := by
  obtain ⟨T, q, u, ok, xr, xp, xk⟩ := id X
  have hl := q.1.le
  cases e : ix x (σ.R * σ.C) with
  | none =>
    rw [show aKnown σ x k = -1 by simp only [aKnown, e]]
    refine Ctr.of (cc := cX7_known) (nL := 4) (own := RX7) (rt := (some .int)) (ls := [some (.ref (B + 0)), some (.int x), some (.int k), none]) (by decide) rfl rfl (Nat.le_of_ble_eq_true rfl) rfl ?_
    refine wp_aload_n_0 (pc' := 1) dX7_known_0 rfl ?_
    refine wp_iload_n_1 (pc' := 2) dX7_known_1 rfl ?_
    refine wp_callVu (pc' := 5) (c_X7_isPlace hn q _) gX7_known_X7_isPlace rfl rfl hy_X7_isPlace ⟨Nat.le_of_ble_eq_true rfl, Nat.le_of_ble_eq_true rfl⟩ ⟨rfl, rfl⟩ (Nat.le_of_ble_eq_true rfl) ⟨Nat.le_of_ble_eq_true rfl, Nat.le_of_ble_eq_true rfl⟩ (by omega) (ce7 rfl) rfl rfl dX7_known_2 rfl ?_
    rw [e]
    refine wp_if_eq (pc' := 8) (tgt := 18) dX7_known_5 rfl rfl (fun c5 => ?_) (fun c5 => by exfalso; exact c5 rfl)
    refine wp_iconst (pc' := 19) (-1) dX7_known_18 rfl (by decide) ?_
    refine wp_ireturn dX7_known_19 rfl rfl (Nat.le_refl _) (Nat.le_refl _) ?_
    exact XQ.id rfl X
  | some a =>
    obtain ⟨rfl, z1⟩ := ix_some e
    by_cases z : k.toInt < -1 ∨ 4 ≤ k.toInt
    · rw [show aKnown σ (nI a) k = -1 by simp only [aKnown, e, z, if_true]]
      refine Ctr.of (cc := cX7_known) (nL := 4) (own := RX7) (rt := (some .int)) (ls := [some (.ref (B + 0)), some (.int (nI a)), some (.int k), none]) (by decide) rfl rfl (Nat.le_of_ble_eq_true rfl) rfl ?_
      refine wp_aload_n_0 (pc' := 1) dX7_known_0 rfl ?_
      refine wp_iload_n_1 (pc' := 2) dX7_known_1 rfl ?_
      refine wp_callVu (pc' := 5) (c_X7_isPlace hn q _) gX7_known_X7_isPlace rfl rfl hy_X7_isPlace ⟨Nat.le_of_ble_eq_true rfl, Nat.le_of_ble_eq_true rfl⟩ ⟨rfl, rfl⟩ (Nat.le_of_ble_eq_true rfl) ⟨Nat.le_of_ble_eq_true rfl, Nat.le_of_ble_eq_true rfl⟩ (by omega) (ce7 rfl) rfl rfl dX7_known_2 rfl ?_
      rw [e]
      refine wp_if_eq (pc' := 8) (tgt := 18) dX7_known_5 rfl rfl (fun c5 => by exfalso; exact absurd c5 (by first | exact bS | decide)) (fun c5 => ?_)
      refine wp_iload_n_2 (pc' := 9) dX7_known_8 rfl ?_
      refine wp_iconst (pc' := 10) (-1) dX7_known_9 rfl (by decide) ?_
      refine wp_icmp_lt (pc' := 13) (tgt := 18) dX7_known_10 rfl rfl (fun c10 => ?_) (fun c10 => ?_)
      · skip -- 10 taken
        refine wp_iconst (pc' := 19) (-1) dX7_known_18 rfl (by decide) ?_
        refine wp_ireturn dX7_known_19 rfl rfl (Nat.le_refl _) (Nat.le_refl _) ?_
        exact XQ.id rfl X
      · skip -- 10 not taken
        refine wp_iload_n_2 (pc' := 14) dX7_known_13 rfl ?_
        refine wp_iconst (pc' := 15) (4) dX7_known_14 rfl (by decide) ?_
        refine wp_icmp_lt (pc' := 18) (tgt := 20) dX7_known_15 rfl rfl (fun c15 => by exfalso; (simp (disch := omega) only [Int32.lt_iff_toInt_lt, Int32.le_iff_toInt_le, ← Int32.toInt_inj, nI_toInt, il_0, il_1, il_2, il_3, il_4, il_5, il_6, il_8, il_9, il_10, il_16, il_26, il_32, il_40, il_n4, il_n1, il_n2, il_11, il_48, il_57, il_59, il_44, il_126, il_200, il_9999, il_66666, il_10000, il_1000000, il_15, il_12, il_256, il_4096, il_53, il_52] at *; omega)) (fun c15 => ?_)
        refine wp_iconst (pc' := 19) (-1) dX7_known_18 rfl (by decide) ?_
        refine wp_ireturn dX7_known_19 rfl rfl (Nat.le_refl _) (Nat.le_refl _) ?_
        exact XQ.id rfl X
    · have fin : ∀ (v : Int32) h1, (∀ a, a ≠ 13 → a ≠ 87 → a ≠ 88 → h1 a = h a) → v = aKnown σ (nI a) k → XQ h lg (aKnown σ (nI a) k) σ (some (.int v)) (rf0 π) h1 lg := by
        intro v h1 f e9
        exact XQ.sc e9 X (by rw [f 1 (by decide) (by decide) (by decide)]) (fun k hk => f k (by unfold Kp at hk; omega) (by unfold Kp at hk; omega) (by unfold Kp at hk; omega))
      refine Ctr.of (cc := cX7_known) (nL := 4) (own := RX7) (rt := (some .int)) (ls := [some (.ref (B + 0)), some (.int (nI a)), some (.int k), none]) (by decide) rfl rfl (Nat.le_of_ble_eq_true rfl) rfl ?_
      refine wp_aload_n_0 (pc' := 1) dX7_known_0 rfl ?_
      refine wp_iload_n_1 (pc' := 2) dX7_known_1 rfl ?_
      refine wp_callVu (pc' := 5) (c_X7_isPlace hn q _) gX7_known_X7_isPlace rfl rfl hy_X7_isPlace ⟨Nat.le_of_ble_eq_true rfl, Nat.le_of_ble_eq_true rfl⟩ ⟨rfl, rfl⟩ (Nat.le_of_ble_eq_true rfl) ⟨Nat.le_of_ble_eq_true rfl, Nat.le_of_ble_eq_true rfl⟩ (by omega) (ce7 rfl) rfl rfl dX7_known_2 rfl ?_
      rw [e]
      refine wp_if_eq (pc' := 8) (tgt := 18) dX7_known_5 rfl rfl (fun c5 => by exfalso; exact absurd c5 (by first | exact bS | decide)) (fun c5 => ?_)
      refine wp_iload_n_2 (pc' := 9) dX7_known_8 rfl ?_
      refine wp_iconst (pc' := 10) (-1) dX7_known_9 rfl (by decide) ?_
      refine wp_icmp_lt (pc' := 13) (tgt := 18) dX7_known_10 rfl rfl (fun c10 => by exfalso; (simp (disch := omega) only [Int32.lt_iff_toInt_lt, Int32.le_iff_toInt_le, ← Int32.toInt_inj, nI_toInt, il_0, il_1, il_2, il_3, il_4, il_5, il_6, il_8, il_9, il_10, il_16, il_26, il_32, il_40, il_n4, il_n1, il_n2, il_11, il_48, il_57, il_59, il_44, il_126, il_200, il_9999, il_66666, il_10000, il_1000000, il_15, il_12, il_256, il_4096, il_53, il_52] at *; omega)) (fun c10 => ?_)
      refine wp_iload_n_2 (pc' := 14) dX7_known_13 rfl ?_
      refine wp_iconst (pc' := 15) (4) dX7_known_14 rfl (by decide) ?_
      refine wp_icmp_lt (pc' := 18) (tgt := 20) dX7_known_15 rfl rfl (fun c15 => ?_) (fun c15 => by exfalso; (simp (disch := omega) only [Int32.lt_iff_toInt_lt, Int32.le_iff_toInt_le, ← Int32.toInt_inj, nI_toInt, il_0, il_1, il_2, il_3, il_4, il_5, il_6, il_8, il_9, il_10, il_16, il_26, il_32, il_40, il_n4, il_n1, il_n2, il_11, il_48, il_57, il_59, il_44, il_126, il_200, il_9999, il_66666, il_10000, il_1000000, il_15, il_12, il_256, il_4096, il_53, il_52] at *; omega))
      refine wp_aload_n_0 (pc' := 21) dX7_known_20 rfl ?_
      refine wp_get_7_8 (pc' := 24) (by omega) rfl rfl me_X7_known_0 ic_X7_known_7 dX7_known_21 rfl ?_
      refine wp_aload_n_0 (pc' := 25) dX7_known_24 rfl ?_
      refine wp_callVR (pc' := 28) (c_X7_present hn q xr ok) gX7_known_X7_present rfl rfl hy_X7_present ⟨Nat.le_of_ble_eq_true rfl, Nat.le_of_ble_eq_true rfl⟩ ⟨rfl, rfl⟩ (Nat.le_of_ble_eq_true rfl) ⟨Nat.le_of_ble_eq_true rfl, Nat.le_of_ble_eq_true rfl⟩ (by omega) (ce7 rfl) rfl rfl dX7_known_25 rfl (fun h25 q25 => ?_)
      refine wp_iconst (pc' := 29) (1) dX7_known_28 rfl (by decide) ?_
      refine wp_iload_n_1 (pc' := 30) dX7_known_29 rfl ?_
      refine wp_ishl (pc' := 31) dX7_known_30 rfl ?_
      refine wp_callVq (pc' := 34) (c_X4_spell hn (q.of_eq (q25.1 11 (by decide))) q25.2) gX7_known_X4_spell rfl rfl hy_X4_spell ⟨Nat.le_of_ble_eq_true rfl, Nat.le_of_ble_eq_true rfl⟩ ⟨rfl, rfl⟩ (Nat.le_of_ble_eq_true rfl) ⟨Nat.le_of_ble_eq_true rfl, Nat.le_of_ble_eq_true rfl⟩ (by omega) (ce4 rfl) rfl rfl dX7_known_31 rfl (fun x31 h31 q31 => ?_)
      obtain ⟨g0, g1⟩ := q31
      have gf : ∀ a, a ≠ 13 → a ≠ 87 → a ≠ 88 → h31 a = h a := fun a z1 z2 z3 => by rw [g0 a z2 z3, q25.1 a z1]
      rcases g1 with ⟨rfl, g2⟩ | ⟨s, c, rfl, g2, g3⟩
      · refine wp_istore_n_3 (pc' := 35) dX7_known_34 (by decide) rfl rfl ?_
        refine wp_iload_n_3 (pc' := 36) dX7_known_35 rfl ?_
        refine wp_if_eq (pc' := 39) (tgt := 44) dX7_known_36 rfl rfl (fun c36 => ?_) (fun c36 => absurd rfl c36)
        refine wp_bipush (pc' := 46) (-4) dX7_known_44 rfl (by decide) ?_
        refine wp_ireturn dX7_known_46 rfl rfl (Nat.le_refl _) (Nat.le_refl _) ?_
        exact fin _ _ gf (by simp only [aKnown, e, z, if_false, kfst_none g2])
      have ea : aKnown σ (nI a) k = if (s : Int) ≤ k.toInt then -4 else if k.toInt = -1 then nI s else nI (dg s c k.toInt.toNat) := by simp only [aKnown, e, z, if_false, kfst_some g2]
      have s1 := g2.1
      have s4 := g2.2.1
      refine wp_istore_n_3 (pc' := 35) dX7_known_34 (by decide) rfl rfl ?_
      refine wp_iload_n_3 (pc' := 36) dX7_known_35 rfl ?_
      refine wp_if_eq (pc' := 39) (tgt := 44) dX7_known_36 rfl rfl (fun c36 => by exfalso; (simp (disch := omega) only [Int32.lt_iff_toInt_lt, Int32.le_iff_toInt_le, ← Int32.toInt_inj, nI_toInt, il_0, il_1, il_2, il_3, il_4, il_5, il_6, il_8, il_9, il_10, il_16, il_26, il_32, il_40, il_n4, il_n1, il_n2, il_11, il_48, il_57, il_59, il_44, il_126, il_200, il_9999, il_66666, il_10000, il_1000000, il_15, il_12, il_256, il_4096, il_53, il_52] at c36; omega)) (fun c36 => ?_)
      refine wp_iload_n_2 (pc' := 40) dX7_known_39 rfl ?_
      refine wp_iload_n_3 (pc' := 41) dX7_known_40 rfl ?_
      refine wp_icmp_lt (pc' := 44) (tgt := 47) dX7_known_41 rfl rfl (fun c41 => ?_) (fun c41 => ?_)
      · skip -- 41 taken
        refine wp_iload_n_2 (pc' := 48) dX7_known_47 rfl ?_
        refine wp_iconst (pc' := 49) (-1) dX7_known_48 rfl (by decide) ?_
        refine wp_icmp_ne (pc' := 52) (tgt := 56) dX7_known_49 rfl rfl (fun c49 => ?_) (fun c49 => ?_)
        · skip -- 49 taken
          obtain ⟨j, hj, rfl⟩ : ∃ j, j < s ∧ k = nI j := by
            have z9 : ¬ k < 0 := by
              intro w
              apply c49
              apply Int32.toInt_inj.mp
              rw [il_n1]
              (simp (disch := omega) only [Int32.lt_iff_toInt_lt, Int32.le_iff_toInt_le, ← Int32.toInt_inj, nI_toInt, il_0, il_1, il_2, il_3, il_4, il_5, il_6, il_8, il_9, il_10, il_16, il_26, il_32, il_40, il_n4, il_n1, il_n2, il_11, il_48, il_57, il_59, il_44, il_126, il_200, il_9999, il_66666, il_10000, il_1000000, il_15, il_12, il_256, il_4096, il_53, il_52] at *; omega)
            obtain ⟨j, hj, rfl⟩ := nI_of z9
            exact ⟨j, by (simp (disch := omega) only [Int32.lt_iff_toInt_lt, Int32.le_iff_toInt_le, ← Int32.toInt_inj, nI_toInt, il_0, il_1, il_2, il_3, il_4, il_5, il_6, il_8, il_9, il_10, il_16, il_26, il_32, il_40, il_n4, il_n1, il_n2, il_11, il_48, il_57, il_59, il_44, il_126, il_200, il_9999, il_66666, il_10000, il_1000000, il_15, il_12, il_256, il_4096, il_53, il_52] at c41; omega), rfl⟩
          refine wp_aload_n_0 (pc' := 57) dX7_known_56 rfl ?_
          refine wp_get_7_8 (pc' := 60) (by omega) rfl rfl me_X7_known_0 ic_X7_known_7 dX7_known_57 rfl ?_
          refine wp_get_4_0 (pc' := 63) (by omega) rfl rfl me_X7_known_1 ic_X7_known_4 dX7_known_60 rfl ?_
          refine wp_iload_n_2 (pc' := 64) dX7_known_63 rfl ?_
          refine wp_iald (pc' := 65) (N := 4) (by omega) rfl rfl (by first | exact vp_in_nI (by omega) (by omega) | assumption | (unfold vp_in; decide)) dX7_known_64 rfl ?_
          rw [nI_clamp (by omega), g3 j hj]
          refine wp_ireturn dX7_known_65 rfl rfl (Nat.le_refl _) (Nat.le_refl _) ?_
          refine fin _ _ gf ?_
          rw [ea, nI_toInt (by omega), if_neg (by omega), if_neg (by omega)]
          rfl
        · skip -- 49 not taken
          refine wp_iload_n_3 (pc' := 53) dX7_known_52 rfl ?_
          refine wp_goto (tgt := 65) dX7_known_53 rfl ?_
          refine wp_ireturn dX7_known_65 rfl rfl (Nat.le_refl _) (Nat.le_refl _) ?_
          refine fin _ _ gf ?_
          subst c49
          rw [ea, if_neg (by rw [il_n1]; omega), if_pos (by decide)]
      · skip -- 41 not taken
        refine wp_bipush (pc' := 46) (-4) dX7_known_44 rfl (by decide) ?_
        refine wp_ireturn dX7_known_46 rfl rfl (Nat.le_refl _) (Nat.le_refl _) ?_
        refine fin _ _ gf ?_
        rw [ea, if_pos (by (simp (disch := omega) only [Int32.lt_iff_toInt_lt, Int32.le_iff_toInt_le, ← Int32.toInt_inj, nI_toInt, il_0, il_1, il_2, il_3, il_4, il_5, il_6, il_8, il_9, il_10, il_16, il_26, il_32, il_40, il_n4, il_n1, il_n2, il_11, il_48, il_57, il_59, il_44, il_126, il_200, il_9999, il_66666, il_10000, il_1000000, il_15, il_12, il_256, il_4096, il_53, il_52] at *; omega))]
end VP5

