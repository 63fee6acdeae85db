abbrev rmX8_beside : Room := { frames := 1, cells := 0, slots := 0, locals := 24 }
theorem hy_X8_beside : yX8_beside.cls = RX8 ∧ yX8_beside.cls ≠ "java/lang/invoke/MethodHandle" ∧ yX8_beside.cls ≠ "java/lang/invoke/VarHandle" ∧ (parseMethodDescriptor yX8_beside.desc).map (fun d => d.parameters.length) = some 1 := by decide +kernel
theorem hz_X8_beside : yX8_beside.cls ≠ "java/lang/invoke/MethodHandle" ∧ yX8_beside.cls ≠ "java/lang/invoke/VarHandle" ∧ (parseMethodDescriptor yX8_beside.desc).map (fun d => d.parameters.length) = some 1 := by decide +kernel
abbrev rmX8_lost : Room := { frames := 2, cells := 0, slots := 0, locals := 47 }
theorem hy_X8_lost : yX8_lost.cls = RX8 ∧ yX8_lost.cls ≠ "java/lang/invoke/MethodHandle" ∧ yX8_lost.cls ≠ "java/lang/invoke/VarHandle" ∧ (parseMethodDescriptor yX8_lost.desc).map (fun d => d.parameters.length) = some 2 := by decide +kernel
theorem hz_X8_lost : yX8_lost.cls ≠ "java/lang/invoke/MethodHandle" ∧ yX8_lost.cls ≠ "java/lang/invoke/VarHandle" ∧ (parseMethodDescriptor yX8_lost.desc).map (fun d => d.parameters.length) = some 2 := by decide +kernel
theorem me_X8_lost_0 : Cond.fieldLink RX8 46 "DrawnByLostModel" "likely" "[J" ∈ wsX8_lost := by decide +kernel
theorem me_X8_lost_1 : Cond.fieldLink RX8 19 "DrawnByLostModel" "now" "[I" ∈ wsX8_lost := by decide +kernel
theorem me_X8_lost_2 : Cond.fieldLink RX8 34 "DrawnByLostModel" "marks" "[I" ∈ wsX8_lost := by decide +kernel
theorem me_X8_lost_3 : Cond.constantLong RX8 199 (12) ∈ wsX8_lost := by decide +kernel
theorem me_X8_lost_4 : Cond.constantLong RX8 204 (100000) ∈ wsX8_lost := by decide +kernel
theorem me_X8_lost_5 : Cond.constantLong RX8 105 (4) ∈ wsX8_lost := by decide +kernel
theorem ic_X8_lost_8 : ∀ w ∈ wsX80, w ∈ wsX8_lost := by decide +kernel
-- the reference's calls: lost
section VM9
variable {l : Launch} {D : va_G} {cy : CY} {B n : Nat} {h : Hp} {lg : Lg} {π : Nat → Nat} {σ : Sg}
theorem nb_pos_all : ∀ q ∈ shL, ∀ x, x < q.1 * q.2 → 0 < cnt (nbr q.1 q.2 x) := by decide +kernel
theorem nb_pos {R C x : Nat} (h : Sh R C) (hx : x < R * C) : 0 < cnt (nbr R C x) := nb_pos_all (R, C) h.mem x hx
theorem nbr_apt {R C x y : Nat} (hy : y < R * C) : nbr R C x y = true ↔ apt C x y = 1 := by
  rw [nbr_iff, apt1]
  exact ⟨fun z => z.2, fun z => ⟨hy, z⟩⟩
theorem lp_X8_beside {R C x : Nat} {post : PO} (hn : 105 ≤ n) (q : ShM h R C) (hx : x < R * C) (K : post (some (.int (nI (cnt (nbr R C x))))) (rf0 π) h lg) :
    ∀ d y : Nat, y + d = R * C → WP l D cy B cX8_beside 4 RX8 wsX8_beside rmX8_beside (some .int) (QE0 D cy B n 0 0 (post)) EX0 n (rf0 π) h lg 0 0 4 [some (.ref (B + 89)), some (.int (nI x)), some (.int (nI (cnB (nbr R C x) y))), some (.int (nI y))] [] := by
  have hl := q.1.le
  intro d
  induction d with
  | zero =>
    intro y hy
    have : y = R * C := by omega
    subst this
    have e : cnt (nbr R C x) = cnB (nbr R C x) (R * C) := sumN_ext hl (fun i z1 z2 => by
      have : nbr R C x i = false := by unfold nbr; rw [decide_eq_false (by omega)]; rfl
      rw [this]; rfl)
    rw [e] at K
    refine wp_iload_n_3 (pc' := 5) dX8_beside_4 rfl ?_
    refine wp_aload_n_0 (pc' := 6) dX8_beside_5 rfl ?_
    refine wp_callVu (pc' := 9) (c_X8_places hn q) gX8_beside_X8_places rfl rfl hy_X8_places ⟨Nat.le_of_ble_eq_true rfl, Nat.le_of_ble_eq_true rfl⟩ ⟨rfl, rfl⟩ (Nat.le_of_ble_eq_true rfl) ⟨Nat.le_of_ble_eq_true rfl, Nat.le_of_ble_eq_true rfl⟩ (by omega) (ce8 rfl) rfl rfl dX8_beside_6 rfl ?_
    refine wp_icmp_ge (pc' := 12) (tgt := 36) dX8_beside_9 rfl rfl (fun c9 => ?_) (fun c9 => by exfalso; exact c9 (nI_le (Nat.le_refl _) (by omega)))
    refine wp_iload_n_2 (pc' := 37) dX8_beside_36 rfl ?_
    refine wp_ireturn dX8_beside_37 rfl rfl (Nat.le_refl _) (Nat.le_refl _) ?_
    exact K
  | succ d ih =>
    intro y hy
    have al := apt_lt C x y (by omega) (by omega)
    have na := nbr_apt (R := R) (C := C) (x := x) (y := y) (by omega)
    refine wp_iload_n_3 (pc' := 5) dX8_beside_4 rfl ?_
    refine wp_aload_n_0 (pc' := 6) dX8_beside_5 rfl ?_
    refine wp_callVu (pc' := 9) (c_X8_places hn q) gX8_beside_X8_places rfl rfl hy_X8_places ⟨Nat.le_of_ble_eq_true rfl, Nat.le_of_ble_eq_true rfl⟩ ⟨rfl, rfl⟩ (Nat.le_of_ble_eq_true rfl) ⟨Nat.le_of_ble_eq_true rfl, Nat.le_of_ble_eq_true rfl⟩ (by omega) (ce8 rfl) rfl rfl dX8_beside_6 rfl ?_
    refine wp_icmp_ge (pc' := 12) (tgt := 36) dX8_beside_9 rfl rfl (fun c9 => by exfalso; exact nI_ge (by omega) (by omega) c9) (fun c9 => ?_)
    refine wp_iload_n_2 (pc' := 13) dX8_beside_12 rfl ?_
    refine wp_aload_n_0 (pc' := 14) dX8_beside_13 rfl ?_
    refine wp_iload_n_1 (pc' := 15) dX8_beside_14 rfl ?_
    refine wp_iload_n_3 (pc' := 16) dX8_beside_15 rfl ?_
    refine wp_callVu (pc' := 19) (c_X8_apart hn q (by omega) (by omega)) gX8_beside_X8_apart rfl rfl hy_X8_apart ⟨Nat.le_of_ble_eq_true rfl, Nat.le_of_ble_eq_true rfl⟩ ⟨rfl, rfl⟩ (Nat.le_of_ble_eq_true rfl) ⟨Nat.le_of_ble_eq_true rfl, Nat.le_of_ble_eq_true rfl⟩ (by omega) (ce8 rfl) rfl rfl dX8_beside_16 rfl ?_
    refine wp_iconst (pc' := 20) (1) dX8_beside_19 rfl (by decide) ?_
    refine wp_icmp_ne (pc' := 23) (tgt := 27) dX8_beside_20 rfl rfl (fun c20 => ?_) (fun c20 => ?_)
    · skip -- 20 taken
      refine wp_iconst (pc' := 28) (0) dX8_beside_27 rfl (by decide) ?_
      refine wp_iadd (pc' := 29) dX8_beside_28 rfl ?_
      first | rw [nI_1] | rw [show (0 : Int32) = nI 0 from rfl, nI_add]
      refine wp_istore_n_2 (pc' := 30) dX8_beside_29 (by decide) rfl rfl ?_
      refine wp_iinc_3 (pc' := 33) (v := nI (y + 1)) dX8_beside_30 (by first | rfl | exact nI_1 _) (by decide) rfl rfl ?_
      refine wp_goto (tgt := 4) dX8_beside_33 rfl ?_
      have e : nbr R C x y = false := by
        rw [Bool.eq_false_iff]
        intro z
        exact c20 (by rw [na.mp z]; rfl)
      have z := ih (y + 1) (by omega)
      rw [cnB_s, e] at z
      exact z
    · skip -- 20 not taken
      refine wp_iconst (pc' := 24) (1) dX8_beside_23 rfl (by decide) ?_
      refine wp_goto (tgt := 28) dX8_beside_24 rfl ?_
      refine wp_iadd (pc' := 29) dX8_beside_28 rfl ?_
      first | rw [nI_1] | rw [show (0 : Int32) = nI 0 from rfl, nI_add]
      refine wp_istore_n_2 (pc' := 30) dX8_beside_29 (by decide) rfl rfl ?_
      refine wp_iinc_3 (pc' := 33) (v := nI (y + 1)) dX8_beside_30 (by first | rfl | exact nI_1 _) (by decide) rfl rfl ?_
      refine wp_goto (tgt := 4) dX8_beside_33 rfl ?_
      have e : nbr R C x y = true := na.mpr ((nI_eq (by omega) (by omega)).mp (show nI (apt C x y) = nI 1 from c20))
      have z := ih (y + 1) (by omega)
      rw [cnB_s, e] at z
      exact z
theorem c_X8_beside {R C x : Nat} (hn : 105 ≤ n) (q : ShM h R C) (hx : x < R * C) : Ctr l D cy B yX8_beside wsX8_beside rmX8_beside 0 0 n (rf0 π) h lg [.ref (B + 89), .int (nI x)] (uI (nI (cnt (nbr R C x))) (rf0 π) h lg) := by
  have hl := q.1.le
  refine Ctr.of (cc := cX8_beside) (nL := 4) (own := RX8) (rt := (some .int)) (ls := [some (.ref (B + 89)), some (.int (nI x)), none, none]) (by decide) rfl rfl (Nat.le_of_ble_eq_true rfl) rfl ?_
  refine wp_iconst (pc' := 1) (0) dX8_beside_0 rfl (by decide) ?_
  refine wp_istore_n_2 (pc' := 2) dX8_beside_1 (by decide) rfl rfl ?_
  refine wp_iconst (pc' := 3) (0) dX8_beside_2 rfl (by decide) ?_
  refine wp_istore_n_3 (pc' := 4) dX8_beside_3 (by decide) rfl rfl ?_
  exact lp_X8_beside hn q hx (uI_of rfl) (R * C) 0 (by omega)
theorem lu_at (f : Lg) (i : Nat) (v : Int64) : vp_updL f i v i = v := by simp [vp_updL]
theorem lu_off {f : Lg} {i j : Nat} {v : Int64} (h : j ≠ i) : vp_updL f i v j = f j := by simp [vp_updL, h]
theorem lp0_X8_lost {R C : Nat} {w k : Int32} {al : Int64} {ρ t : Nat → Nat} {s : Nat} {post : PO} (hn : 105 ≤ n) (q : ShM h R C) (nr : NR h 93 ρ) (h5 : ∀ i, i < 16 → ρ i ≤ 5) (tk : TK h 0 s t) (hs : 0 < s) (t5 : t 0 ≤ 5)
    (K : ∀ lg', (∀ x, x < R * C → lg' x = lI (one (atB R C ρ (t 0) x))) → ∀ a5, WP l D cy B cX8_lost 8 RX8 wsX8_lost rmX8_lost (some .int) (QE0 D cy B n 0 0 (post)) EX0 n (rf0 π) h lg' 0 0 101 [some (.ref (B + 89)), some (.int w), some (.int k), some (.long al), none, a5, none, none] []) :
    ∀ d x : Nat, x + d = R * C → ∀ lg', (∀ i, i < x → lg' i = lI (one (atB R C ρ (t 0) i))) → WP l D cy B cX8_lost 8 RX8 wsX8_lost rmX8_lost (some .int) (QE0 D cy B n 0 0 (post)) EX0 n (rf0 π) h lg' 0 0 58 [some (.ref (B + 89)), some (.int w), some (.int k), some (.long al), none, some (.int (nI x)), none, none] [] := by
  have hl := q.1.le
  intro d
  induction d with
  | zero =>
    intro x hx lg' e
    have : x = R * C := by omega
    subst this
    refine wp_iload_5 (pc' := 60) dX8_lost_58 rfl ?_
    refine wp_aload_n_0 (pc' := 61) dX8_lost_60 rfl ?_
    refine wp_callVu (pc' := 64) (c_X8_places hn q) gX8_lost_X8_places rfl rfl hy_X8_places ⟨Nat.le_of_ble_eq_true rfl, Nat.le_of_ble_eq_true rfl⟩ ⟨rfl, rfl⟩ (Nat.le_of_ble_eq_true rfl) ⟨Nat.le_of_ble_eq_true rfl, Nat.le_of_ble_eq_true rfl⟩ (by omega) (ce8 rfl) rfl rfl dX8_lost_61 rfl ?_
    refine wp_icmp_ge (pc' := 67) (tgt := 101) dX8_lost_64 rfl rfl (fun c64 => ?_) (fun c64 => by exfalso; exact c64 (nI_le (Nat.le_refl _) (by omega)))
    exact K lg' e _
  | succ d ih =>
    intro x hx lg' e
    have x5 := h5 x (by omega)
    have fin : ∀ v, v = lI (one (atB R C ρ (t 0) x)) → WP l D cy B cX8_lost 8 RX8 wsX8_lost rmX8_lost (some .int) (QE0 D cy B n 0 0 (post)) EX0 n (rf0 π) h (vp_updL lg' x v) 0 0 58 [some (.ref (B + 89)), some (.int w), some (.int k), some (.long al), none, some (.int (nI (x + 1))), none, none] [] := by
      intro v hv
      refine ih (x + 1) (by omega) _ (fun i hi => ?_)
      by_cases ei : i = x
      · subst ei; rw [lu_at]; exact hv
      · rw [lu_off ei]; exact e i (by omega)
    refine wp_iload_5 (pc' := 60) dX8_lost_58 rfl ?_
    refine wp_aload_n_0 (pc' := 61) dX8_lost_60 rfl ?_
    refine wp_callVu (pc' := 64) (c_X8_places hn q) gX8_lost_X8_places rfl rfl hy_X8_places ⟨Nat.le_of_ble_eq_true rfl, Nat.le_of_ble_eq_true rfl⟩ ⟨rfl, rfl⟩ (Nat.le_of_ble_eq_true rfl) ⟨Nat.le_of_ble_eq_true rfl, Nat.le_of_ble_eq_true rfl⟩ (by omega) (ce8 rfl) rfl rfl dX8_lost_61 rfl ?_
    refine wp_icmp_ge (pc' := 67) (tgt := 101) dX8_lost_64 rfl rfl (fun c64 => by exfalso; exact nI_ge (by omega) (by omega) c64) (fun c64 => ?_)
    refine wp_aload_n_0 (pc' := 68) dX8_lost_67 rfl ?_
    refine wp_get_8_19 (pc' := 71) (by omega) rfl rfl me_X8_lost_0 ic_X8_lost_8 dX8_lost_68 rfl ?_
    refine wp_iload_5 (pc' := 73) dX8_lost_71 rfl ?_
    refine wp_aload_n_0 (pc' := 74) dX8_lost_73 rfl ?_
    refine wp_get_8_4 (pc' := 77) (by omega) rfl rfl me_X8_lost_1 ic_X8_lost_8 dX8_lost_74 rfl ?_
    refine wp_iload_5 (pc' := 79) dX8_lost_77 rfl ?_
    refine wp_iald (pc' := 80) (N := 52) (by omega) rfl rfl (by first | exact vp_in_nI (by omega) (by omega) | assumption | (unfold vp_in; decide)) dX8_lost_79 rfl ?_
    rw [nI_clamp (by omega), nr x (by omega)]
    refine wp_aload_n_0 (pc' := 81) dX8_lost_80 rfl ?_
    refine wp_get_8_15 (pc' := 84) (by omega) rfl rfl me_X8_lost_2 ic_X8_lost_8 dX8_lost_81 rfl ?_
    refine wp_iconst (pc' := 85) (0) dX8_lost_84 rfl (by decide) ?_
    refine wp_iald (pc' := 86) (N := 5) (by omega) rfl rfl (by first | exact vp_in_nI (by omega) (by omega) | assumption | (unfold vp_in; decide)) dX8_lost_85 rfl ?_
    rw [show (0 : Int32).toNatClampNeg = 0 from rfl, tk.2.2 0 hs]
    refine wp_icmp_ne (pc' := 89) (tgt := 93) dX8_lost_86 rfl rfl (fun c86 => ?_) (fun c86 => ?_)
    · skip -- 86 taken
      refine wp_lconst (pc' := 94) (0) dX8_lost_93 rfl (by decide) ?_
      refine wp_last (pc' := 95) (N := 32) (by omega) rfl rfl (by first | exact vp_in_nI (by omega) (by omega) | assumption | (unfold vp_in; decide)) dX8_lost_94 rfl ?_
      refine wp_iinc_5 (pc' := 98) (v := nI (x + 1)) dX8_lost_95 (by first | rfl | exact nI_1 _) (by decide) rfl rfl ?_
      refine wp_goto (tgt := 58) dX8_lost_98 rfl ?_
      rw [nI_clamp (by omega)]
      refine fin _ ?_
      rw [show atB R C ρ (t 0) x = false by unfold atB; rw [decide_eq_false (p := ρ x = t 0) (fun z => c86 (by rw [z]))]; simp]
      rfl
    · skip -- 86 not taken
      refine wp_lconst (pc' := 90) (1) dX8_lost_89 rfl (by decide) ?_
      refine wp_goto (tgt := 94) dX8_lost_90 rfl ?_
      refine wp_last (pc' := 95) (N := 32) (by omega) rfl rfl (by first | exact vp_in_nI (by omega) (by omega) | assumption | (unfold vp_in; decide)) dX8_lost_94 rfl ?_
      refine wp_iinc_5 (pc' := 98) (v := nI (x + 1)) dX8_lost_95 (by first | rfl | exact nI_1 _) (by decide) rfl rfl ?_
      refine wp_goto (tgt := 58) dX8_lost_98 rfl ?_
      rw [nI_clamp (by omega)]
      refine fin _ ?_
      rw [show atB R C ρ (t 0) x = true by unfold atB; rw [decide_eq_true (p := ρ x = t 0) ((nI_eq (by omega) (by omega)).mp c86), decide_eq_true (p := x < R * C) (by omega)]; rfl]
      rfl
def lsF (R C : Nat) (g : Nat → Bool) (od : Nat → Nat) (y x : Nat) : Nat := one (nbr R C x y && g y) * shr R C od x
theorem shr_b (c : Nat) : 12 / c ≤ 12 := Nat.div_le_self 12 c
theorem lp3_X8_lost {R C y k : Nat} {w m : Int32} {al : Int64} {ρ t od : Nat → Nat} {s : Nat} {post : PO} (hn : 105 ≤ n) (q : ShM h R C) (nr : NR h 93 ρ) (h5 : ∀ i, i < 16 → ρ i ≤ 5) (tk : TK h 0 s t) (hk : k < s) (hs5 : s ≤ 5) (t5 : t k ≤ 5) (hy : y < R * C) (hg : ρ y = t k) (lg0 : Lg) (hod : ∀ x, x < R * C → lg0 x = lI (od x))
    (K : ∀ lg', (∀ i, i ≠ 16 + y → lg' i = lg0 i) → lg' (16 + y) = lI (sumN (R * C) (lsF R C (atB R C ρ (t k)) od y)) → ∀ a7, WP l D cy B cX8_lost 8 RX8 wsX8_lost rmX8_lost (some .int) (QE0 D cy B n 0 0 (post)) EX0 n (rf0 π) h lg' 0 0 221 [some (.ref (B + 89)), some (.int w), some (.int m), some (.long al), none, some (.int (nI k)), some (.int (nI y)), a7] []) :
    ∀ d x : Nat, x + d = R * C → ∀ lg', (∀ i, i ≠ 16 + y → lg' i = lg0 i) → lg' (16 + y) = lI (sumN x (lsF R C (atB R C ρ (t k)) od y)) → WP l D cy B cX8_lost 8 RX8 wsX8_lost rmX8_lost (some .int) (QE0 D cy B n 0 0 (post)) EX0 n (rf0 π) h lg' 0 0 142 [some (.ref (B + 89)), some (.int w), some (.int m), some (.long al), none, some (.int (nI k)), some (.int (nI y)), some (.int (nI x))] [] := by
  have hl := q.1.le
  have y5 := h5 y (by omega)
  have gy : atB R C ρ (t k) y = true := by unfold atB; rw [decide_eq_true (p := ρ y = t k) hg, decide_eq_true hy]; rfl
  intro d
  induction d with
  | zero =>
    intro x hx lg' e0 e1
    have : x = R * C := by omega
    subst this
    refine wp_iload_7 (pc' := 144) dX8_lost_142 rfl ?_
    refine wp_aload_n_0 (pc' := 145) dX8_lost_144 rfl ?_
    refine wp_callVu (pc' := 148) (c_X8_places hn q) gX8_lost_X8_places rfl rfl hy_X8_places ⟨Nat.le_of_ble_eq_true rfl, Nat.le_of_ble_eq_true rfl⟩ ⟨rfl, rfl⟩ (Nat.le_of_ble_eq_true rfl) ⟨Nat.le_of_ble_eq_true rfl, Nat.le_of_ble_eq_true rfl⟩ (by omega) (ce8 rfl) rfl rfl dX8_lost_145 rfl ?_
    refine wp_icmp_ge (pc' := 151) (tgt := 221) dX8_lost_148 rfl rfl (fun c148 => ?_) (fun c148 => by exfalso; exact c148 (nI_le (Nat.le_refl _) (by omega)))
    exact K lg' e0 e1 _
  | succ d ih =>
    intro x hx lg' e0 e1
    have np := nb_pos (R := R) (C := C) q.1 (show x < R * C by omega)
    have cl := cnt_le16 (nbr R C x)
    have sb := shr_b (cnt (nbr R C x))
    have ap := apt_lt C x y (by omega) (by omega)
    have na := nbr_apt (R := R) (C := C) (x := x) (y := y) hy
    have fin : ∀ v, v = lI (sumN (x + 1) (lsF R C (atB R C ρ (t k)) od y)) → WP l D cy B cX8_lost 8 RX8 wsX8_lost rmX8_lost (some .int) (QE0 D cy B n 0 0 (post)) EX0 n (rf0 π) h (vp_updL lg' (16 + y) v) 0 0 142 [some (.ref (B + 89)), some (.int w), some (.int m), some (.long al), none, some (.int (nI k)), some (.int (nI y)), some (.int (nI (x + 1)))] [] := by
      intro v hv
      exact ih (x + 1) (by omega) _ (fun i hi => by rw [lu_off hi]; exact e0 i hi) (by rw [lu_at]; exact hv)
    refine wp_iload_7 (pc' := 144) dX8_lost_142 rfl ?_
    refine wp_aload_n_0 (pc' := 145) dX8_lost_144 rfl ?_
    refine wp_callVu (pc' := 148) (c_X8_places hn q) gX8_lost_X8_places rfl rfl hy_X8_places ⟨Nat.le_of_ble_eq_true rfl, Nat.le_of_ble_eq_true rfl⟩ ⟨rfl, rfl⟩ (Nat.le_of_ble_eq_true rfl) ⟨Nat.le_of_ble_eq_true rfl, Nat.le_of_ble_eq_true rfl⟩ (by omega) (ce8 rfl) rfl rfl dX8_lost_145 rfl ?_
    refine wp_icmp_ge (pc' := 151) (tgt := 221) dX8_lost_148 rfl rfl (fun c148 => by exfalso; exact nI_ge (by omega) (by omega) c148) (fun c148 => ?_)
    refine wp_aload_n_0 (pc' := 152) dX8_lost_151 rfl ?_
    refine wp_get_8_4 (pc' := 155) (by omega) rfl rfl me_X8_lost_1 ic_X8_lost_8 dX8_lost_152 rfl ?_
    refine wp_iload_6 (pc' := 157) dX8_lost_155 rfl ?_
    refine wp_iald (pc' := 158) (N := 52) (by omega) rfl rfl (by first | exact vp_in_nI (by omega) (by omega) | assumption | (unfold vp_in; decide)) dX8_lost_157 rfl ?_
    rw [nI_clamp (by omega), nr y (by omega)]
    refine wp_aload_n_0 (pc' := 159) dX8_lost_158 rfl ?_
    refine wp_get_8_15 (pc' := 162) (by omega) rfl rfl me_X8_lost_2 ic_X8_lost_8 dX8_lost_159 rfl ?_
    refine wp_iload_5 (pc' := 164) dX8_lost_162 rfl ?_
    refine wp_iald (pc' := 165) (N := 5) (by omega) rfl rfl (by first | exact vp_in_nI (by omega) (by omega) | assumption | (unfold vp_in; decide)) dX8_lost_164 rfl ?_
    rw [nI_clamp (by omega), tk.2.2 k hk]
    refine wp_icmp_ne (pc' := 168) (tgt := 221) dX8_lost_165 rfl rfl (fun c165 => by exfalso; exact c165 (by rw [hg])) (fun c165 => ?_)
    refine wp_aload_n_0 (pc' := 169) dX8_lost_168 rfl ?_
    refine wp_get_8_19 (pc' := 172) (by omega) rfl rfl me_X8_lost_0 ic_X8_lost_8 dX8_lost_169 rfl ?_
    refine wp_bipush (pc' := 174) (16) dX8_lost_172 rfl (by decide) ?_
    refine wp_iload_6 (pc' := 176) dX8_lost_174 rfl ?_
    refine wp_iadd (pc' := 177) dX8_lost_176 rfl ?_
    rw [show (16 : Int32) = nI 16 from rfl, nI_add]
    refine wp_dup2 (pc' := 178) dX8_lost_177 rfl rfl rfl ?_
    refine wp_lald (pc' := 179) (N := 32) (by omega) rfl rfl (by first | exact vp_in_nI (by omega) (by omega) | assumption | (unfold vp_in; decide)) dX8_lost_178 rfl ?_
    rw [nI_clamp (by omega), e1]
    refine wp_aload_n_0 (pc' := 180) dX8_lost_179 rfl ?_
    refine wp_iload_7 (pc' := 182) dX8_lost_180 rfl ?_
    refine wp_iload_6 (pc' := 184) dX8_lost_182 rfl ?_
    refine wp_callVu (pc' := 187) (c_X8_apart hn q (by omega) (by omega)) gX8_lost_X8_apart rfl rfl hy_X8_apart ⟨Nat.le_of_ble_eq_true rfl, Nat.le_of_ble_eq_true rfl⟩ ⟨rfl, rfl⟩ (Nat.le_of_ble_eq_true rfl) ⟨Nat.le_of_ble_eq_true rfl, Nat.le_of_ble_eq_true rfl⟩ (by omega) (ce8 rfl) rfl rfl dX8_lost_184 rfl ?_
    refine wp_iconst (pc' := 188) (1) dX8_lost_187 rfl (by decide) ?_
    refine wp_icmp_ne (pc' := 191) (tgt := 212) dX8_lost_188 rfl rfl (fun c188 => ?_) (fun c188 => ?_)
    · skip -- 188 taken
      refine wp_lconst (pc' := 213) (0) dX8_lost_212 rfl (by decide) ?_
      refine wp_ladd (pc' := 214) dX8_lost_213 rfl ?_
      refine wp_last (pc' := 215) (N := 32) (by omega) rfl rfl (by first | exact vp_in_nI (by omega) (by omega) | assumption | (unfold vp_in; decide)) dX8_lost_214 rfl ?_
      refine wp_iinc_7 (pc' := 218) (v := nI (x + 1)) dX8_lost_215 (by first | rfl | exact nI_1 _) (by decide) rfl rfl ?_
      refine wp_goto (tgt := 142) dX8_lost_218 rfl ?_
      rw [nI_clamp (by omega)]
      refine fin _ ?_
      have e : nbr R C x y = false := by
        rw [Bool.eq_false_iff]
        intro z
        exact c188 (by rw [na.mp z]; rfl)
      rw [show (0 : Int64) = lI 0 from rfl, lI_add]
      simp only [sumN, lsF]
      rw [e]
      simp [one]
    · skip -- 188 not taken
      refine wp_aload_n_0 (pc' := 192) dX8_lost_191 rfl ?_
      refine wp_get_8_19 (pc' := 195) (by omega) rfl rfl me_X8_lost_0 ic_X8_lost_8 dX8_lost_192 rfl ?_
      refine wp_iload_7 (pc' := 197) dX8_lost_195 rfl ?_
      refine wp_lald (pc' := 198) (N := 32) (by omega) rfl rfl (by first | exact vp_in_nI (by omega) (by omega) | assumption | (unfold vp_in; decide)) dX8_lost_197 rfl ?_
      rw [nI_clamp (by omega), e0 x (by omega), hod x (by omega)]
      refine wp_bipush (pc' := 200) (12) dX8_lost_198 rfl (by decide) ?_
      refine wp_aload_n_0 (pc' := 201) dX8_lost_200 rfl ?_
      refine wp_iload_7 (pc' := 203) dX8_lost_201 rfl ?_
      refine wp_callVu (pc' := 206) (c_X8_beside hn q (by omega)) gX8_lost_X8_beside rfl rfl hy_X8_beside ⟨Nat.le_of_ble_eq_true rfl, Nat.le_of_ble_eq_true rfl⟩ ⟨rfl, rfl⟩ (Nat.le_of_ble_eq_true rfl) ⟨Nat.le_of_ble_eq_true rfl, Nat.le_of_ble_eq_true rfl⟩ (by omega) (ce8 rfl) rfl rfl dX8_lost_203 rfl ?_
      refine wp_idiv (pc' := 207) dX8_lost_206 rfl (nI_ne0 (by omega) (by omega)) ?_
      rw [show (12 : Int32) = nI 12 from rfl, pk_div (by omega) (by omega) (by omega)]
      refine wp_i2l (pc' := 208) dX8_lost_207 rfl ?_
      rw [nI_long (by omega)]
      refine wp_lmul (pc' := 209) dX8_lost_208 rfl ?_
      rw [lI_mul]
      refine wp_goto (tgt := 213) dX8_lost_209 rfl ?_
      refine wp_ladd (pc' := 214) dX8_lost_213 rfl ?_
      refine wp_last (pc' := 215) (N := 32) (by omega) rfl rfl (by first | exact vp_in_nI (by omega) (by omega) | assumption | (unfold vp_in; decide)) dX8_lost_214 rfl ?_
      refine wp_iinc_7 (pc' := 218) (v := nI (x + 1)) dX8_lost_215 (by first | rfl | exact nI_1 _) (by decide) rfl rfl ?_
      refine wp_goto (tgt := 142) dX8_lost_218 rfl ?_
      rw [nI_clamp (by omega)]
      refine fin _ ?_
      have e : nbr R C x y = true := na.mpr ((nI_eq (by omega) (by omega)).mp (show nI (apt C x y) = nI 1 from c188))
      rw [lI_add]
      simp only [sumN, lsF]
      rw [e, gy]
      simp [one, shr]
theorem laP_no {R C y : Nat} {g : Nat → Bool} {od : Nat → Nat} (h : g y = false) (p : Nat) : laP R C g od p y = 0 := by
  unfold laP
  rw [sumN_congr (g := fun _ => 0) (fun i _ => by rw [h]; simp [one]), sumN_zero]
theorem lp2_X8_lost {R C k : Nat} {w m : Int32} {al : Int64} {ρ t od : Nat → Nat} {s : Nat} {post : PO} (hn : 105 ≤ n) (q : ShM h R C) (nr : NR h 93 ρ) (h5 : ∀ i, i < 16 → ρ i ≤ 5) (tk : TK h 0 s t) (hk : k < s) (hs5 : s ≤ 5) (t5 : t k ≤ 5) (lg0 : Lg) (hod : ∀ x, x < R * C → lg0 x = lI (od x))
    (K : ∀ lg', (∀ i, i < R * C → lg' (16 + i) = lI (laP R C (atB R C ρ (t k)) od (R * C) i)) → ∀ a6 a7, WP l D cy B cX8_lost 8 RX8 wsX8_lost rmX8_lost (some .int) (QE0 D cy B n 0 0 (post)) EX0 n (rf0 π) h lg' 0 0 227 [some (.ref (B + 89)), some (.int w), some (.int m), some (.long al), none, some (.int (nI k)), a6, a7] []) :
    ∀ d y : Nat, y + d = R * C → ∀ lg' a7, (∀ i, i < 16 → lg' i = lg0 i) → (∀ i, i < y → lg' (16 + i) = lI (laP R C (atB R C ρ (t k)) od (R * C) i)) → WP l D cy B cX8_lost 8 RX8 wsX8_lost rmX8_lost (some .int) (QE0 D cy B n 0 0 (post)) EX0 n (rf0 π) h lg' 0 0 119 [some (.ref (B + 89)), some (.int w), some (.int m), some (.long al), none, some (.int (nI k)), some (.int (nI y)), a7] [] := by
  have hl := q.1.le
  intro d
  induction d with
  | zero =>
    intro y hy lg' a7 e0 e1
    have : y = R * C := by omega
    subst this
    refine wp_iload_6 (pc' := 121) dX8_lost_119 rfl ?_
    refine wp_aload_n_0 (pc' := 122) dX8_lost_121 rfl ?_
    refine wp_callVu (pc' := 125) (c_X8_places hn q) gX8_lost_X8_places rfl rfl hy_X8_places ⟨Nat.le_of_ble_eq_true rfl, Nat.le_of_ble_eq_true rfl⟩ ⟨rfl, rfl⟩ (Nat.le_of_ble_eq_true rfl) ⟨Nat.le_of_ble_eq_true rfl, Nat.le_of_ble_eq_true rfl⟩ (by omega) (ce8 rfl) rfl rfl dX8_lost_122 rfl ?_
    refine wp_icmp_ge (pc' := 128) (tgt := 227) dX8_lost_125 rfl rfl (fun c125 => ?_) (fun c125 => by exfalso; exact c125 (nI_le (Nat.le_refl _) (by omega)))
    exact K lg' e1 _ _
  | succ d ih =>
    intro y hy lg' a7 e0 e1
    have y5 := h5 y (by omega)
    have tail : ∀ lg2 b7, (∀ i, i ≠ 16 + y → lg2 i = lg' i) → lg2 (16 + y) = lI (laP R C (atB R C ρ (t k)) od (R * C) y) → WP l D cy B cX8_lost 8 RX8 wsX8_lost rmX8_lost (some .int) (QE0 D cy B n 0 0 (post)) EX0 n (rf0 π) h lg2 0 0 221 [some (.ref (B + 89)), some (.int w), some (.int m), some (.long al), none, some (.int (nI k)), some (.int (nI y)), b7] [] := by
      intro lg2 b7 f0 f1
      refine wp_iinc_6 (pc' := 224) (v := nI (y + 1)) dX8_lost_221 (by first | rfl | exact nI_1 _) (by decide) rfl rfl ?_
      refine wp_goto (tgt := 119) dX8_lost_224 rfl ?_
      refine ih (y + 1) (by omega) lg2 _ (fun i hi => by rw [f0 i (by omega)]; exact e0 i hi) (fun i hi => ?_)
      by_cases ei : i = y
      · subst ei; exact f1
      · rw [f0 _ (by omega)]; exact e1 i (by omega)
    by_cases hg : ρ y = t k
    · skip
      refine wp_iload_6 (pc' := 121) dX8_lost_119 rfl ?_
      refine wp_aload_n_0 (pc' := 122) dX8_lost_121 rfl ?_
      refine wp_callVu (pc' := 125) (c_X8_places hn q) gX8_lost_X8_places rfl rfl hy_X8_places ⟨Nat.le_of_ble_eq_true rfl, Nat.le_of_ble_eq_true rfl⟩ ⟨rfl, rfl⟩ (Nat.le_of_ble_eq_true rfl) ⟨Nat.le_of_ble_eq_true rfl, Nat.le_of_ble_eq_true rfl⟩ (by omega) (ce8 rfl) rfl rfl dX8_lost_122 rfl ?_
      refine wp_icmp_ge (pc' := 128) (tgt := 227) dX8_lost_125 rfl rfl (fun c125 => by exfalso; exact nI_ge (by omega) (by omega) c125) (fun c125 => ?_)
      refine wp_aload_n_0 (pc' := 129) dX8_lost_128 rfl ?_
      refine wp_get_8_19 (pc' := 132) (by omega) rfl rfl me_X8_lost_0 ic_X8_lost_8 dX8_lost_129 rfl ?_
      refine wp_bipush (pc' := 134) (16) dX8_lost_132 rfl (by decide) ?_
      refine wp_iload_6 (pc' := 136) dX8_lost_134 rfl ?_
      refine wp_iadd (pc' := 137) dX8_lost_136 rfl ?_
      rw [show (16 : Int32) = nI 16 from rfl, nI_add]
      refine wp_lconst (pc' := 138) (0) dX8_lost_137 rfl (by decide) ?_
      refine wp_last (pc' := 139) (N := 32) (by omega) rfl rfl (by first | exact vp_in_nI (by omega) (by omega) | assumption | (unfold vp_in; decide)) dX8_lost_138 rfl ?_
      rw [nI_clamp (by omega)]
      refine wp_iconst (pc' := 140) (0) dX8_lost_139 rfl (by decide) ?_
      refine wp_istore_7 (pc' := 142) dX8_lost_140 (by decide) rfl rfl ?_
      exact lp3_X8_lost (od := od) hn q nr h5 tk hk hs5 t5 (by omega) hg lg' (fun x hx => by rw [e0 x (by omega)]; exact hod x hx) (fun lg2 f0 f1 b7 => tail lg2 b7 f0 f1) (R * C) 0 (by omega) _ (fun i hi => lu_off hi) (by rw [lu_at]; rfl)
    · have gy : atB R C ρ (t k) y = false := by unfold atB; rw [decide_eq_false (p := ρ y = t k) hg]; simp
      refine wp_iload_6 (pc' := 121) dX8_lost_119 rfl ?_
      refine wp_aload_n_0 (pc' := 122) dX8_lost_121 rfl ?_
      refine wp_callVu (pc' := 125) (c_X8_places hn q) gX8_lost_X8_places rfl rfl hy_X8_places ⟨Nat.le_of_ble_eq_true rfl, Nat.le_of_ble_eq_true rfl⟩ ⟨rfl, rfl⟩ (Nat.le_of_ble_eq_true rfl) ⟨Nat.le_of_ble_eq_true rfl, Nat.le_of_ble_eq_true rfl⟩ (by omega) (ce8 rfl) rfl rfl dX8_lost_122 rfl ?_
      refine wp_icmp_ge (pc' := 128) (tgt := 227) dX8_lost_125 rfl rfl (fun c125 => by exfalso; exact nI_ge (by omega) (by omega) c125) (fun c125 => ?_)
      refine wp_aload_n_0 (pc' := 129) dX8_lost_128 rfl ?_
      refine wp_get_8_19 (pc' := 132) (by omega) rfl rfl me_X8_lost_0 ic_X8_lost_8 dX8_lost_129 rfl ?_
      refine wp_bipush (pc' := 134) (16) dX8_lost_132 rfl (by decide) ?_
      refine wp_iload_6 (pc' := 136) dX8_lost_134 rfl ?_
      refine wp_iadd (pc' := 137) dX8_lost_136 rfl ?_
      rw [show (16 : Int32) = nI 16 from rfl, nI_add]
      refine wp_lconst (pc' := 138) (0) dX8_lost_137 rfl (by decide) ?_
      refine wp_last (pc' := 139) (N := 32) (by omega) rfl rfl (by first | exact vp_in_nI (by omega) (by omega) | assumption | (unfold vp_in; decide)) dX8_lost_138 rfl ?_
      rw [nI_clamp (by omega)]
      refine wp_iconst (pc' := 140) (0) dX8_lost_139 rfl (by decide) ?_
      refine wp_istore_7 (pc' := 142) dX8_lost_140 (by decide) rfl rfl ?_
      refine wp_iload_7 (pc' := 144) dX8_lost_142 rfl ?_
      refine wp_aload_n_0 (pc' := 145) dX8_lost_144 rfl ?_
      refine wp_callVu (pc' := 148) (c_X8_places hn q) gX8_lost_X8_places rfl rfl hy_X8_places ⟨Nat.le_of_ble_eq_true rfl, Nat.le_of_ble_eq_true rfl⟩ ⟨rfl, rfl⟩ (Nat.le_of_ble_eq_true rfl) ⟨Nat.le_of_ble_eq_true rfl, Nat.le_of_ble_eq_true rfl⟩ (by omega) (ce8 rfl) rfl rfl dX8_lost_145 rfl ?_
      refine wp_icmp_ge (pc' := 151) (tgt := 221) dX8_lost_148 rfl rfl (fun c148 => by exfalso; exact nI_ge (a := 0) (by omega) (by omega) c148) (fun c148 => ?_)
      refine wp_aload_n_0 (pc' := 152) dX8_lost_151 rfl ?_
      refine wp_get_8_4 (pc' := 155) (by omega) rfl rfl me_X8_lost_1 ic_X8_lost_8 dX8_lost_152 rfl ?_
      refine wp_iload_6 (pc' := 157) dX8_lost_155 rfl ?_
      refine wp_iald (pc' := 158) (N := 52) (by omega) rfl rfl (by first | exact vp_in_nI (by omega) (by omega) | assumption | (unfold vp_in; decide)) dX8_lost_157 rfl ?_
      rw [nI_clamp (by omega), nr y (by omega)]
      refine wp_aload_n_0 (pc' := 159) dX8_lost_158 rfl ?_
      refine wp_get_8_15 (pc' := 162) (by omega) rfl rfl me_X8_lost_2 ic_X8_lost_8 dX8_lost_159 rfl ?_
      refine wp_iload_5 (pc' := 164) dX8_lost_162 rfl ?_
      refine wp_iald (pc' := 165) (N := 5) (by omega) rfl rfl (by first | exact vp_in_nI (by omega) (by omega) | assumption | (unfold vp_in; decide)) dX8_lost_164 rfl ?_
      rw [nI_clamp (by omega), tk.2.2 k hk]
      refine wp_icmp_ne (pc' := 168) (tgt := 221) dX8_lost_165 rfl rfl (fun c165 => ?_) (fun c165 => by exfalso; exact hg ((nI_eq (by omega) (by omega)).mp c165))
      exact tail _ _ (fun i hi => lu_off hi) (by rw [lu_at, laP_no gy]; rfl)
theorem lp4_X8_lost {R C k : Nat} {w m : Int32} {al : Int64} {nw : Nat → Nat} {post : PO} (hn : 105 ≤ n) (q : ShM h R C)
    (K : ∀ lg', (∀ i, i < R * C → lg' i = lI (nw i)) → ∀ a6 a7, WP l D cy B cX8_lost 8 RX8 wsX8_lost rmX8_lost (some .int) (QE0 D cy B n 0 0 (post)) EX0 n (rf0 π) h lg' 0 0 262 [some (.ref (B + 89)), some (.int w), some (.int m), some (.long al), none, some (.int (nI k)), a6, a7] []) :
    ∀ d y : Nat, y + d = R * C → ∀ lg' a7, (∀ i, i < R * C → lg' (16 + i) = lI (nw i)) → (∀ i, i < y → lg' i = lI (nw i)) → WP l D cy B cX8_lost 8 RX8 wsX8_lost rmX8_lost (some .int) (QE0 D cy B n 0 0 (post)) EX0 n (rf0 π) h lg' 0 0 230 [some (.ref (B + 89)), some (.int w), some (.int m), some (.long al), none, some (.int (nI k)), some (.int (nI y)), a7] [] := by
  have hl := q.1.le
  intro d
  induction d with
  | zero =>
    intro y hy lg' a7 e0 e1
    have : y = R * C := by omega
    subst this
    refine wp_iload_6 (pc' := 232) dX8_lost_230 rfl ?_
    refine wp_aload_n_0 (pc' := 233) dX8_lost_232 rfl ?_
    refine wp_callVu (pc' := 236) (c_X8_places hn q) gX8_lost_X8_places rfl rfl hy_X8_places ⟨Nat.le_of_ble_eq_true rfl, Nat.le_of_ble_eq_true rfl⟩ ⟨rfl, rfl⟩ (Nat.le_of_ble_eq_true rfl) ⟨Nat.le_of_ble_eq_true rfl, Nat.le_of_ble_eq_true rfl⟩ (by omega) (ce8 rfl) rfl rfl dX8_lost_233 rfl ?_
    refine wp_icmp_ge (pc' := 239) (tgt := 262) dX8_lost_236 rfl rfl (fun c236 => ?_) (fun c236 => by exfalso; exact c236 (nI_le (Nat.le_refl _) (by omega)))
    exact K lg' e1 _ _
  | succ d ih =>
    intro y hy lg' a7 e0 e1
    refine wp_iload_6 (pc' := 232) dX8_lost_230 rfl ?_
    refine wp_aload_n_0 (pc' := 233) dX8_lost_232 rfl ?_
    refine wp_callVu (pc' := 236) (c_X8_places hn q) gX8_lost_X8_places rfl rfl hy_X8_places ⟨Nat.le_of_ble_eq_true rfl, Nat.le_of_ble_eq_true rfl⟩ ⟨rfl, rfl⟩ (Nat.le_of_ble_eq_true rfl) ⟨Nat.le_of_ble_eq_true rfl, Nat.le_of_ble_eq_true rfl⟩ (by omega) (ce8 rfl) rfl rfl dX8_lost_233 rfl ?_
    refine wp_icmp_ge (pc' := 239) (tgt := 262) dX8_lost_236 rfl rfl (fun c236 => by exfalso; exact nI_ge (by omega) (by omega) c236) (fun c236 => ?_)
    refine wp_aload_n_0 (pc' := 240) dX8_lost_239 rfl ?_
    refine wp_get_8_19 (pc' := 243) (by omega) rfl rfl me_X8_lost_0 ic_X8_lost_8 dX8_lost_240 rfl ?_
    refine wp_iload_6 (pc' := 245) dX8_lost_243 rfl ?_
    refine wp_aload_n_0 (pc' := 246) dX8_lost_245 rfl ?_
    refine wp_get_8_19 (pc' := 249) (by omega) rfl rfl me_X8_lost_0 ic_X8_lost_8 dX8_lost_246 rfl ?_
    refine wp_bipush (pc' := 251) (16) dX8_lost_249 rfl (by decide) ?_
    refine wp_iload_6 (pc' := 253) dX8_lost_251 rfl ?_
    refine wp_iadd (pc' := 254) dX8_lost_253 rfl ?_
    rw [show (16 : Int32) = nI 16 from rfl, nI_add]
    refine wp_lald (pc' := 255) (N := 32) (by omega) rfl rfl (by first | exact vp_in_nI (by omega) (by omega) | assumption | (unfold vp_in; decide)) dX8_lost_254 rfl ?_
    rw [nI_clamp (by omega), e0 y (by omega)]
    refine wp_last (pc' := 256) (N := 32) (by omega) rfl rfl (by first | exact vp_in_nI (by omega) (by omega) | assumption | (unfold vp_in; decide)) dX8_lost_255 rfl ?_
    rw [nI_clamp (by omega)]
    refine wp_iinc_6 (pc' := 259) (v := nI (y + 1)) dX8_lost_256 (by first | rfl | exact nI_1 _) (by decide) rfl rfl ?_
    refine wp_goto (tgt := 230) dX8_lost_259 rfl ?_
    refine ih (y + 1) (by omega) _ _ (fun i hi => by rw [lu_off (by omega)]; exact e0 i hi) (fun i hi => ?_)
    by_cases ei : i = y
    · subst ei; rw [lu_at]
    · rw [lu_off ei]; exact e1 i (by omega)
theorem lp1_X8_lost {R C m : Nat} {w : Int32} {ρ t : Nat → Nat} {s : Nat} {post : PO} (hn : 105 ≤ n) (q : ShM h R C) (nr : NR h 93 ρ) (h5 : ∀ i, i < 16 → ρ i ≤ 5) (tk : TK h 0 s t) (hm : m < s) (hs5 : s ≤ 5) (t5 : ∀ i, i < s → t i ≤ 5)
    (K : ∀ lg', (∀ x, x < R * C → lg' x = lI (odP R C ρ t m x)) → ∀ a5 a6 a7, WP l D cy B cX8_lost 8 RX8 wsX8_lost rmX8_lost (some .int) (QE0 D cy B n 0 0 (post)) EX0 n (rf0 π) h lg' 0 0 268 [some (.ref (B + 89)), some (.int w), some (.int (nI m)), some (.long (lI (R * C * 12 ^ m))), none, a5, a6, a7] []) :
    ∀ d k : Nat, k + d = m → ∀ lg' a6 a7, (∀ x, x < R * C → lg' x = lI (odP R C ρ t k x)) → WP l D cy B cX8_lost 8 RX8 wsX8_lost rmX8_lost (some .int) (QE0 D cy B n 0 0 (post)) EX0 n (rf0 π) h lg' 0 0 104 [some (.ref (B + 89)), some (.int w), some (.int (nI m)), some (.long (lI (R * C * 12 ^ k))), none, some (.int (nI (k + 1))), a6, a7] [] := by
  have hl := q.1.le
  intro d
  induction d with
  | zero =>
    intro k hk lg' a6 a7 e
    have : k = m := by omega
    subst this
    refine wp_iload_5 (pc' := 106) dX8_lost_104 rfl ?_
    refine wp_iload_n_2 (pc' := 107) dX8_lost_106 rfl ?_
    refine wp_icmp_gt (pc' := 110) (tgt := 268) dX8_lost_107 rfl rfl (fun c107 => ?_) (fun c107 => by exfalso; exact c107 (nI_lt (by omega) (by omega)))
    exact K lg' e _ _ _
  | succ d ih =>
    intro k hk lg' a6 a7 e
    refine wp_iload_5 (pc' := 106) dX8_lost_104 rfl ?_
    refine wp_iload_n_2 (pc' := 107) dX8_lost_106 rfl ?_
    refine wp_icmp_gt (pc' := 110) (tgt := 268) dX8_lost_107 rfl rfl (fun c107 => by exfalso; exact nI_nlt (by omega) (by omega) c107) (fun c107 => ?_)
    refine wp_lload_n_3 (pc' := 111) dX8_lost_110 rfl ?_
    refine wp_ldc2 (pc' := 114) (v := (12)) me_X8_lost_3 dX8_lost_111 rfl ?_
    refine wp_lmul (pc' := 115) dX8_lost_114 rfl ?_
    rw [show (12 : Int64) = lI 12 from rfl, lI_mul, show R * C * 12 ^ k * 12 = R * C * 12 ^ (k + 1) by rw [Nat.pow_succ, Nat.mul_assoc]]
    refine wp_lstore_n_3 (pc' := 116) dX8_lost_115 (by decide) rfl rfl ?_
    refine wp_iconst (pc' := 117) (0) dX8_lost_116 rfl (by decide) ?_
    refine wp_istore_6 (pc' := 119) dX8_lost_117 (by decide) rfl rfl ?_
    refine lp2_X8_lost (k := k + 1) (od := odP R C ρ t k) hn q nr h5 tk (by omega) hs5 (t5 (k + 1) (by omega)) lg' e (fun lg2 f b6 b7 => ?_) (R * C) 0 (by omega) lg' _ (fun _ _ => rfl) (fun i hi => by omega)
    refine wp_iconst (pc' := 228) (0) dX8_lost_227 rfl (by decide) ?_
    refine wp_istore_6 (pc' := 230) dX8_lost_228 (by decide) rfl rfl ?_
    refine lp4_X8_lost (nw := odP R C ρ t (k + 1)) hn q (fun lg3 g b8 b9 => ?_) (R * C) 0 (by omega) lg2 _ f (fun i hi => by omega)
    refine wp_iinc_5 (pc' := 265) (v := nI (k + 1 + 1)) dX8_lost_262 (by first | rfl | exact nI_1 _) (by decide) rfl rfl ?_
    refine wp_goto (tgt := 104) dX8_lost_265 rfl ?_
    exact ih (k + 1) (by omega) lg3 _ _ g
theorem lp5_X8_lost {R C m : Nat} {w k : Int32} {f : Nat → Nat} {post : PO} (hn : 105 ≤ n) (q : ShM h R C) (hm : m ≤ 4) (hf : ∀ x, x < R * C → lg x = lI (f x))
    (K : post (some (.int ((100000 : Int64) * lI (sumN (R * C) f) / lI (R * C * 12 ^ m)).toInt32)) (rf0 π) h lg) :
    ∀ d x : Nat, x + d = R * C → WP l D cy B cX8_lost 8 RX8 wsX8_lost rmX8_lost (some .int) (QE0 D cy B n 0 0 (post)) EX0 n (rf0 π) h lg 0 0 274 [some (.ref (B + 89)), some (.int w), some (.int k), some (.long (lI (R * C * 12 ^ m))), none, some (.long (lI (sumN x f))), none, some (.int (nI x))] [] := by
  have hl := q.1.le
  have hp := q.1.pos
  intro d
  induction d with
  | zero =>
    intro x hx
    have : x = R * C := by omega
    subst this
    have p0 : 0 < R * C * 12 ^ m := Nat.mul_pos (by omega) (Nat.pow_pos (by decide))
    have p1 : R * C * 12 ^ m ≤ 16 * 12 ^ 4 := Nat.mul_le_mul hl (Nat.pow_le_pow_right (by decide) hm)
    refine wp_iload_7 (pc' := 276) dX8_lost_274 rfl ?_
    refine wp_aload_n_0 (pc' := 277) dX8_lost_276 rfl ?_
    refine wp_callVu (pc' := 280) (c_X8_places hn q) gX8_lost_X8_places rfl rfl hy_X8_places ⟨Nat.le_of_ble_eq_true rfl, Nat.le_of_ble_eq_true rfl⟩ ⟨rfl, rfl⟩ (Nat.le_of_ble_eq_true rfl) ⟨Nat.le_of_ble_eq_true rfl, Nat.le_of_ble_eq_true rfl⟩ (by omega) (ce8 rfl) rfl rfl dX8_lost_277 rfl ?_
    refine wp_icmp_ge (pc' := 283) (tgt := 301) dX8_lost_280 rfl rfl (fun c280 => ?_) (fun c280 => by exfalso; exact c280 (nI_le (Nat.le_refl _) (by omega)))
    refine wp_ldc2 (pc' := 304) (v := (100000)) me_X8_lost_4 dX8_lost_301 rfl ?_
    refine wp_lload_5 (pc' := 306) dX8_lost_304 rfl ?_
    refine wp_lmul (pc' := 307) dX8_lost_306 rfl ?_
    refine wp_lload_n_3 (pc' := 308) dX8_lost_307 rfl ?_
    refine wp_ldiv (pc' := 309) dX8_lost_308 rfl (lI_ne0 p0 (by omega)) ?_
    refine wp_l2i (pc' := 310) dX8_lost_309 rfl ?_
    refine wp_ireturn dX8_lost_310 rfl rfl (Nat.le_refl _) (Nat.le_refl _) ?_
    exact K
  | succ d ih =>
    intro x hx
    refine wp_iload_7 (pc' := 276) dX8_lost_274 rfl ?_
    refine wp_aload_n_0 (pc' := 277) dX8_lost_276 rfl ?_
    refine wp_callVu (pc' := 280) (c_X8_places hn q) gX8_lost_X8_places rfl rfl hy_X8_places ⟨Nat.le_of_ble_eq_true rfl, Nat.le_of_ble_eq_true rfl⟩ ⟨rfl, rfl⟩ (Nat.le_of_ble_eq_true rfl) ⟨Nat.le_of_ble_eq_true rfl, Nat.le_of_ble_eq_true rfl⟩ (by omega) (ce8 rfl) rfl rfl dX8_lost_277 rfl ?_
    refine wp_icmp_ge (pc' := 283) (tgt := 301) dX8_lost_280 rfl rfl (fun c280 => by exfalso; exact nI_ge (by omega) (by omega) c280) (fun c280 => ?_)
    refine wp_lload_5 (pc' := 285) dX8_lost_283 rfl ?_
    refine wp_aload_n_0 (pc' := 286) dX8_lost_285 rfl ?_
    refine wp_get_8_19 (pc' := 289) (by omega) rfl rfl me_X8_lost_0 ic_X8_lost_8 dX8_lost_286 rfl ?_
    refine wp_iload_7 (pc' := 291) dX8_lost_289 rfl ?_
    refine wp_lald (pc' := 292) (N := 32) (by omega) rfl rfl (by first | exact vp_in_nI (by omega) (by omega) | assumption | (unfold vp_in; decide)) dX8_lost_291 rfl ?_
    rw [nI_clamp (by omega), hf x (by omega)]
    refine wp_ladd (pc' := 293) dX8_lost_292 rfl ?_
    rw [lI_add]
    refine wp_lstore_5 (pc' := 295) dX8_lost_293 (by decide) rfl rfl ?_
    refine wp_iinc_7 (pc' := 298) (v := nI (x + 1)) dX8_lost_295 (by first | rfl | exact nI_1 _) (by decide) rfl rfl ?_
    refine wp_goto (tgt := 274) dX8_lost_298 rfl ?_
    exact ih (x + 1) (by omega)
theorem odP_sup {R C : Nat} {mk t : Nat → Nat} : ∀ i x, R * C ≤ x → odP R C mk t i x = 0 := by
  intro i x hx
  cases i with
  | zero =>
    show one (atB R C mk (t 0) x) = 0
    rw [atB_sup R C mk (t 0) x hx]; rfl
  | succ i => exact laP_no (atB_sup R C mk (t (i + 1)) x hx) _
theorem c_X8_lost (hn : 105 ≤ n) (X : MI h σ) (w k : Int32) : Ctr l D cy B yX8_lost wsX8_lost rmX8_lost 0 0 n (rf0 π) h lg [.ref (B + 89), .int w, .int k] (ZQ π h (aLost σ w k) σ) := by
  obtain ⟨T, q, hm, ok, nr, xp, xk⟩ := id X
  have hl := q.1.le
  have o2 := ok.2.1
  cases e : ix w (σ.ρ 16) with
  | none =>
    rw [show aLost σ w k = -1 by simp only [aLost, e]]
    refine Ctr.of (cc := cX8_lost) (nL := 8) (own := RX8) (rt := (some .int)) (ls := [some (.ref (B + 89)), some (.int w), some (.int k), none, none, none, none, none]) (by decide) rfl rfl (Nat.le_of_ble_eq_true rfl) rfl ?_
    refine wp_aload_n_0 (pc' := 1) dX8_lost_0 rfl ?_
    refine wp_iload_n_1 (pc' := 2) dX8_lost_1 rfl ?_
    refine wp_callVu (pc' := 5) (c_X8_isWalk hn (nr 16 (by omega)) ok.2.1 _) gX8_lost_X8_isWalk rfl rfl hy_X8_isWalk ⟨Nat.le_of_ble_eq_true rfl, Nat.le_of_ble_eq_true rfl⟩ ⟨rfl, rfl⟩ (Nat.le_of_ble_eq_true rfl) ⟨Nat.le_of_ble_eq_true rfl, Nat.le_of_ble_eq_true rfl⟩ (by omega) (ce8 rfl) rfl rfl dX8_lost_2 rfl ?_
    rw [e]
    refine wp_if_eq (pc' := 8) (tgt := 20) dX8_lost_5 rfl rfl (fun c5 => ?_) (fun c5 => by exfalso; exact c5 rfl)
    refine wp_iconst (pc' := 21) (-1) dX8_lost_20 rfl (by decide) ?_
    refine wp_ireturn dX8_lost_21 rfl rfl (Nat.le_refl _) (Nat.le_refl _) ?_
    exact ZQ.id rfl X
  | some a =>
    cases e2 : ix k 5 with
    | none =>
      rw [show aLost σ w k = -1 by simp only [aLost, e, e2]]
      refine Ctr.of (cc := cX8_lost) (nL := 8) (own := RX8) (rt := (some .int)) (ls := [some (.ref (B + 89)), some (.int w), some (.int k), none, none, none, none, none]) (by decide) rfl rfl (Nat.le_of_ble_eq_true rfl) rfl ?_
      refine wp_aload_n_0 (pc' := 1) dX8_lost_0 rfl ?_
      refine wp_iload_n_1 (pc' := 2) dX8_lost_1 rfl ?_
      refine wp_callVu (pc' := 5) (c_X8_isWalk hn (nr 16 (by omega)) ok.2.1 _) gX8_lost_X8_isWalk rfl rfl hy_X8_isWalk ⟨Nat.le_of_ble_eq_true rfl, Nat.le_of_ble_eq_true rfl⟩ ⟨rfl, rfl⟩ (Nat.le_of_ble_eq_true rfl) ⟨Nat.le_of_ble_eq_true rfl, Nat.le_of_ble_eq_true rfl⟩ (by omega) (ce8 rfl) rfl rfl dX8_lost_2 rfl ?_
      rw [e]
      refine wp_if_eq (pc' := 8) (tgt := 20) dX8_lost_5 rfl rfl (fun c5 => by exfalso; exact absurd c5 bS) (fun c5 => ?_)
      refine wp_iload_n_2 (pc' := 9) dX8_lost_8 rfl ?_
      refine wp_i2l (pc' := 10) dX8_lost_9 rfl ?_
      refine wp_lconst (pc' := 11) (0) dX8_lost_10 rfl (by decide) ?_
      refine wp_ldc2 (pc' := 14) (v := (4)) me_X8_lost_5 dX8_lost_11 rfl ?_
      refine wp_callSu (pc' := 17) (c_in_rg k (lo := 0) (hi := 4) (by omega) (by omega)) gX8_lost_X8_in rfl rfl hz_X8_in ⟨Nat.le_of_ble_eq_true rfl, Nat.le_of_ble_eq_true rfl⟩ ⟨rfl, rfl⟩ (Nat.le_of_ble_eq_true rfl) ⟨Nat.le_of_ble_eq_true rfl, Nat.le_of_ble_eq_true rfl⟩ rfl dX8_lost_14 rfl ?_
      rw [rg_ix, e2]
      refine wp_if_ne (pc' := 20) (tgt := 22) dX8_lost_17 rfl rfl (fun c17 => by exfalso; exact c17 rfl) (fun c17 => ?_)
      refine wp_iconst (pc' := 21) (-1) dX8_lost_20 rfl (by decide) ?_
      refine wp_ireturn dX8_lost_21 rfl rfl (Nat.le_refl _) (Nat.le_refl _) ?_
      exact ZQ.id rfl X
    | some j =>
      obtain ⟨rfl, hw⟩ := ix_some e
      obtain ⟨rfl, z2⟩ := ix_some e2
      obtain ⟨w5, hk3, hs2, hs5⟩ := ok.w hw
      rw [show aLost σ (nI a) (nI j) = if kw σ.ρ a = 0 ∧ j < sw σ.ρ a then chQ σ.R σ.C σ.ρ (fun i => σ.ρ (19 + 7 * a + i)) j else -2 by simp only [aLost, e, e2]]
      refine Ctr.of (cc := cX8_lost) (nL := 8) (own := RX8) (rt := (some .int)) (ls := [some (.ref (B + 89)), some (.int (nI a)), some (.int (nI j)), none, none, none, none, none]) (by decide) rfl rfl (Nat.le_of_ble_eq_true rfl) rfl ?_
      refine wp_aload_n_0 (pc' := 1) dX8_lost_0 rfl ?_
      refine wp_iload_n_1 (pc' := 2) dX8_lost_1 rfl ?_
      refine wp_callVu (pc' := 5) (c_X8_isWalk hn (nr 16 (by omega)) ok.2.1 _) gX8_lost_X8_isWalk rfl rfl hy_X8_isWalk ⟨Nat.le_of_ble_eq_true rfl, Nat.le_of_ble_eq_true rfl⟩ ⟨rfl, rfl⟩ (Nat.le_of_ble_eq_true rfl) ⟨Nat.le_of_ble_eq_true rfl, Nat.le_of_ble_eq_true rfl⟩ (by omega) (ce8 rfl) rfl rfl dX8_lost_2 rfl ?_
      rw [e]
      refine wp_if_eq (pc' := 8) (tgt := 20) dX8_lost_5 rfl rfl (fun c5 => by exfalso; exact absurd c5 bS) (fun c5 => ?_)
      refine wp_iload_n_2 (pc' := 9) dX8_lost_8 rfl ?_
      refine wp_i2l (pc' := 10) dX8_lost_9 rfl ?_
      refine wp_lconst (pc' := 11) (0) dX8_lost_10 rfl (by decide) ?_
      refine wp_ldc2 (pc' := 14) (v := (4)) me_X8_lost_5 dX8_lost_11 rfl ?_
      refine wp_callSu (pc' := 17) (c_in_rg (nI j) (lo := 0) (hi := 4) (by omega) (by omega)) gX8_lost_X8_in rfl rfl hz_X8_in ⟨Nat.le_of_ble_eq_true rfl, Nat.le_of_ble_eq_true rfl⟩ ⟨rfl, rfl⟩ (Nat.le_of_ble_eq_true rfl) ⟨Nat.le_of_ble_eq_true rfl, Nat.le_of_ble_eq_true rfl⟩ rfl dX8_lost_14 rfl ?_
      rw [rg_ix, e2]
      refine wp_if_ne (pc' := 20) (tgt := 22) dX8_lost_17 rfl rfl (fun c17 => ?_) (fun c17 => by exfalso; exact absurd c17 bS)
      refine wp_aload_n_0 (pc' := 23) dX8_lost_22 rfl ?_
      refine wp_iload_n_1 (pc' := 24) dX8_lost_23 rfl ?_
      refine wp_callVu (pc' := 27) (c_X8_kindOf hn nr w5) gX8_lost_X8_kindOf rfl rfl hy_X8_kindOf ⟨Nat.le_of_ble_eq_true rfl, Nat.le_of_ble_eq_true rfl⟩ ⟨rfl, rfl⟩ (Nat.le_of_ble_eq_true rfl) ⟨Nat.le_of_ble_eq_true rfl, Nat.le_of_ble_eq_true rfl⟩ (by omega) (ce8 rfl) rfl rfl dX8_lost_24 rfl ?_
      refine wp_if_ne (pc' := 30) (tgt := 41) dX8_lost_27 rfl rfl (fun c27 => ?_) (fun c27 => ?_)
      · skip -- 27 taken
        refine wp_bipush (pc' := 43) (-2) dX8_lost_41 rfl (by decide) ?_
        refine wp_ireturn dX8_lost_43 rfl rfl (Nat.le_refl _) (Nat.le_refl _) ?_
        exact ZQ.id (by rw [if_neg (fun z => c27 (by rw [z.1]; rfl))]) X
      · skip -- 27 not taken
        have k0 : kw σ.ρ a = 0 := (nI_eq (by omega) (by omega)).mp (show nI (kw σ.ρ a) = nI 0 from c27)
        refine wp_iload_n_2 (pc' := 31) dX8_lost_30 rfl ?_
        refine wp_iconst (pc' := 32) (1) dX8_lost_31 rfl (by decide) ?_
        refine wp_iadd (pc' := 33) dX8_lost_32 rfl ?_
        rw [nI_1]
        refine wp_aload_n_0 (pc' := 34) dX8_lost_33 rfl ?_
        refine wp_iload_n_1 (pc' := 35) dX8_lost_34 rfl ?_
        refine wp_callVu (pc' := 38) (c_X8_marksOf hn nr w5) gX8_lost_X8_marksOf rfl rfl hy_X8_marksOf ⟨Nat.le_of_ble_eq_true rfl, Nat.le_of_ble_eq_true rfl⟩ ⟨rfl, rfl⟩ (Nat.le_of_ble_eq_true rfl) ⟨Nat.le_of_ble_eq_true rfl, Nat.le_of_ble_eq_true rfl⟩ (by omega) (ce8 rfl) rfl rfl dX8_lost_35 rfl ?_
        refine wp_icmp_le (pc' := 41) (tgt := 44) dX8_lost_38 rfl rfl (fun c38 => ?_) (fun c38 => ?_)
        · skip -- 38 taken
          have j0 : j < sw σ.ρ a := by (simp (disch := omega) only [Int32.lt_iff_toInt_lt, Int32.le_iff_toInt_le, ← Int32.toInt_inj, nI_toInt, il_0, il_1, il_2, il_3, il_4, il_5, il_6, il_8, il_9, il_10, il_16, il_26, il_32, il_40, il_n4, il_n1, il_n2, il_11, il_48, il_57, il_59, il_44, il_126, il_200, il_9999, il_66666, il_10000, il_1000000, il_15, il_12, il_256, il_4096, il_53, il_52] at c38; omega)
          rw [if_pos ⟨k0, j0⟩]
          refine wp_aload_n_0 (pc' := 45) dX8_lost_44 rfl ?_
          refine wp_iload_n_1 (pc' := 46) dX8_lost_45 rfl ?_
          refine wp_callVv (pc' := 49) (c_X8_take hn nr ok hw) gX8_lost_X8_take rfl rfl hy_X8_take ⟨Nat.le_of_ble_eq_true rfl, Nat.le_of_ble_eq_true rfl⟩ ⟨rfl, rfl⟩ (Nat.le_of_ble_eq_true rfl) ⟨Nat.le_of_ble_eq_true rfl, Nat.le_of_ble_eq_true rfl⟩ (by omega) (ce8 rfl) rfl rfl dX8_lost_46 rfl (fun h46 q46 => ?_)
          obtain ⟨f1, tk⟩ := q46
          rw [k0] at tk
          have te : ∀ i, tm σ.ρ a i = σ.ρ (19 + 7 * a + i) := fun i => by unfold tm; rw [if_neg (by omega)]
          have tt : tm σ.ρ a = fun i => σ.ρ (19 + 7 * a + i) := funext te
          refine wp_aload_n_0 (pc' := 50) dX8_lost_49 rfl ?_
          refine wp_callVu (pc' := 53) (c_X8_places hn (f1.sh q)) gX8_lost_X8_places rfl rfl hy_X8_places ⟨Nat.le_of_ble_eq_true rfl, Nat.le_of_ble_eq_true rfl⟩ ⟨rfl, rfl⟩ (Nat.le_of_ble_eq_true rfl) ⟨Nat.le_of_ble_eq_true rfl, Nat.le_of_ble_eq_true rfl⟩ (by omega) (ce8 rfl) rfl rfl dX8_lost_50 rfl ?_
          refine wp_i2l (pc' := 54) dX8_lost_53 rfl ?_
          rw [nI_long (by omega)]
          refine wp_lstore_n_3 (pc' := 55) dX8_lost_54 (by decide) rfl rfl ?_
          refine wp_iconst (pc' := 56) (0) dX8_lost_55 rfl (by decide) ?_
          refine wp_istore_5 (pc' := 58) dX8_lost_56 (by decide) rfl rfl ?_
          refine lp0_X8_lost hn (f1.sh q) (f1.nr nr) ok.1 tk (by omega) (tm_le ok hw (by omega)) (fun lg1 g a5 => ?_) (σ.R * σ.C) 0 (by omega) _ (fun i hi => by omega)
          refine wp_iconst (pc' := 102) (1) dX8_lost_101 rfl (by decide) ?_
          refine wp_istore_5 (pc' := 104) dX8_lost_102 (by decide) rfl rfl ?_
          have z := lp1_X8_lost (l := l) (D := D) (cy := cy) (B := B) (n := n) (h := h46) (π := π) (R := σ.R) (C := σ.C) (m := j) (w := nI a) (ρ := σ.ρ) (t := tm σ.ρ a) (s := sw σ.ρ a) (post := ZQ π h (chQ σ.R σ.C σ.ρ (fun i => σ.ρ (19 + 7 * a + i)) j) σ) hn (f1.sh q) (f1.nr nr) ok.1 tk j0 hs5 (fun i hi => tm_le ok hw hi) (fun lg2 g2 b5 b6 b7 => ?_) j 0 (by omega) lg1 none none g
          · rw [Nat.pow_zero, Nat.mul_one] at z
            exact z
          refine wp_lconst (pc' := 269) (0) dX8_lost_268 rfl (by decide) ?_
          refine wp_lstore_5 (pc' := 271) dX8_lost_269 (by decide) rfl rfl ?_
          refine wp_iconst (pc' := 272) (0) dX8_lost_271 rfl (by decide) ?_
          refine wp_istore_7 (pc' := 274) dX8_lost_272 (by decide) rfl rfl ?_
          refine lp5_X8_lost (f := odP σ.R σ.C σ.ρ (tm σ.ρ a) j) hn (f1.sh q) (by omega) g2 (ZQ.mf ?_ X f1) (σ.R * σ.C) 0 (by omega)
          unfold chQ
          rw [sumN_ext hl (fun i h1 _ => odP_sup j i h1), tt]
        · skip -- 38 not taken
          refine wp_bipush (pc' := 43) (-2) dX8_lost_41 rfl (by decide) ?_
          refine wp_ireturn dX8_lost_43 rfl rfl (Nat.le_refl _) (Nat.le_refl _) ?_
          exact ZQ.id (by rw [if_neg (fun z => c38 (nI_le (by omega) (by omega)))]) X
end VM9

