abbrev rmX8_first : Room := { frames := 4, cells := 0, slots := 0, locals := 94 }
theorem hy_X8_first : yX8_first.cls = RX8 ∧ yX8_first.cls ≠ "java/lang/invoke/MethodHandle" ∧ yX8_first.cls ≠ "java/lang/invoke/VarHandle" ∧ (parseMethodDescriptor yX8_first.desc).map (fun d => d.parameters.length) = some 2 := by decide +kernel
theorem hz_X8_first : yX8_first.cls ≠ "java/lang/invoke/MethodHandle" ∧ yX8_first.cls ≠ "java/lang/invoke/VarHandle" ∧ (parseMethodDescriptor yX8_first.desc).map (fun d => d.parameters.length) = some 2 := by decide +kernel
abbrev rmX8_known : Room := { frames := 4, cells := 0, slots := 0, locals := 94 }
theorem hy_X8_known : yX8_known.cls = RX8 ∧ yX8_known.cls ≠ "java/lang/invoke/MethodHandle" ∧ yX8_known.cls ≠ "java/lang/invoke/VarHandle" ∧ (parseMethodDescriptor yX8_known.desc).map (fun d => d.parameters.length) = some 2 := by decide +kernel
theorem hz_X8_known : yX8_known.cls ≠ "java/lang/invoke/MethodHandle" ∧ yX8_known.cls ≠ "java/lang/invoke/VarHandle" ∧ (parseMethodDescriptor yX8_known.desc).map (fun d => d.parameters.length) = some 2 := by decide +kernel
theorem me_X8_first_0 : Cond.fieldLink RX8 37 "DrawnByLostModel" "onward" "[I" ∈ wsX8_first := by decide +kernel
theorem me_X8_first_1 : Cond.fieldLink RX8 161 "DrawnByLostModel" "many" "I" ∈ wsX8_first := by decide +kernel
theorem me_X8_known_0 : Cond.fieldLink RX8 34 "DrawnByLostModel" "marks" "[I" ∈ wsX8_known := by decide +kernel
theorem me_X8_known_1 : Cond.fieldLink RX8 161 "DrawnByLostModel" "many" "I" ∈ wsX8_known := by decide +kernel
theorem me_X8_known_2 : Cond.constantLong RX8 191 (-1) ∈ wsX8_known := by decide +kernel
theorem me_X8_known_3 : Cond.constantLong RX8 93 (3) ∈ wsX8_known := by decide +kernel
theorem me_X8_known_4 : Cond.fieldLink RX8 158 "DrawnByLostModel" "kind" "I" ∈ wsX8_known := by decide +kernel
theorem ic_X8_first_8 : ∀ w ∈ wsX80, w ∈ wsX8_first := by decide +kernel
theorem ic_X8_known_8 : ∀ w ∈ wsX80, w ∈ wsX8_known := by decide +kernel
-- the reference's calls: first, known
section VM8
variable {l : Launch} {D : va_G} {cy : CY} {B n : Nat} {h : Hp} {lg : Lg} {π : Nat → Nat} {σ : Sg}
theorem lowO_ffO {f : Nat → Bool} {P : Nat} (hP : P ≤ 16) (hf : Sup P f) : lowO f = ffO f P 0 := by
  cases e : ffO f P 0 with
  | none => exact lowO_none (fun y _ => by
      by_cases q : y < P
      · exact ffO_nspec P 0 e y (by omega) (by omega)
      · exact hf y (by omega))
  | some z =>
    obtain ⟨h1, h2, h3, h4⟩ := ffO_spec P 0 z e
    exact lowO_some (by omega) h3 (fun y hy => h4 y (by omega) hy)
theorem lpi_X8_first {R C κ j xp : Nat} {w k : Int32} {at_ : Int32} {g : Nat → Nat} {F : Nat → Bool} {post : PO} (hn : 105 ≤ n) (q : ShM h R C) (hk : h 89 13 = nI κ) (hκ : κ ≤ 3) (hj : j < 5) (hg : ∀ x, x < R * C → h 99 (16 * j + x) = nI (g x) ∧ g x < 2 ^ 31) (hat : j ≠ 0 → at_ = nI xp) (hxp : xp < 16) (hF : ∀ x, x < R * C → (F x = true ↔ 0 < g x ∧ (j = 0 ∨ go κ C xp x = true)))
    (K : ∀ x6, WP l D cy B cX8_first 7 RX8 wsX8_first rmX8_first (some .int) (QE0 D cy B n 0 0 (post)) EX0 n (rf0 π) h lg 0 0 108 [some (.ref (B + 89)), some (.int w), some (.int k), some (.int at_), some (.int (nI j)), some (.int (enc (ffO F (R * C) 0))), x6] []) :
    ∀ d : Nat, d ≤ R * C → ∀ x6 : Int32, x6 = nI d - 1 → WP l D cy B cX8_first 7 RX8 wsX8_first rmX8_first (some .int) (QE0 D cy B n 0 0 (post)) EX0 n (rf0 π) h lg 0 0 57 [some (.ref (B + 89)), some (.int w), some (.int k), some (.int at_), some (.int (nI j)), some (.int (enc (ffO F (R * C - d) d))), some (.int x6)] [] := by
  have hl := q.1.le
  intro d
  induction d with
  | zero =>
    intro hd x6 hx6
    subst hx6
    refine wp_iload_6 (pc' := 59) dX8_first_57 rfl ?_
    refine wp_if_lt (pc' := 62) (tgt := 108) dX8_first_59 rfl rfl (fun c59 => ?_) (fun c59 => by exfalso; exact c59 (by decide))
    exact K _
  | succ d ih =>
    intro hd x6 hx6
    subst hx6
    rw [nI_pred]
    obtain ⟨g1, g2⟩ := hg d (by omega)
    have f1 := hF d (by omega)
    have z := ih (by omega) _ rfl
    have ec : R * C - d = (R * C - (d + 1)) + 1 := by omega
    rw [ec, show ffO F (R * C - (d + 1) + 1) d = if F d = true then some d else ffO F (R * C - (d + 1)) (d + 1) from rfl] at z
    refine wp_iload_6 (pc' := 59) dX8_first_57 rfl ?_
    refine wp_if_lt (pc' := 62) (tgt := 108) dX8_first_59 rfl rfl (fun c59 => by exfalso; exact nI_pos (by omega) c59) (fun c59 => ?_)
    refine wp_aload_n_0 (pc' := 63) dX8_first_62 rfl ?_
    refine wp_get_8_16 (pc' := 66) (by omega) rfl rfl me_X8_first_0 ic_X8_first_8 dX8_first_63 rfl ?_
    refine wp_bipush (pc' := 68) (16) dX8_first_66 rfl (by decide) ?_
    refine wp_iload_4 (pc' := 70) dX8_first_68 rfl ?_
    refine wp_imul (pc' := 71) dX8_first_70 rfl ?_
    refine wp_iload_6 (pc' := 73) dX8_first_71 rfl ?_
    refine wp_iadd (pc' := 74) dX8_first_73 rfl ?_
    rw [ix16]
    refine wp_iald (pc' := 75) (N := 80) (by omega) rfl rfl (by first | exact vp_in_nI (by omega) (by omega) | assumption | (unfold vp_in; decide)) dX8_first_74 rfl ?_
    rw [nI_clamp (by omega), g1]
    refine wp_if_le (pc' := 78) (tgt := 98) dX8_first_75 rfl rfl (fun c75 => ?_) (fun c75 => ?_)
    · skip -- 75 taken
      refine wp_iload_5 (pc' := 100) dX8_first_98 rfl ?_
      refine wp_istore_5 (pc' := 102) dX8_first_100 (by decide) rfl rfl ?_
      refine wp_iinc_6 (pc' := 105) dX8_first_102 (dec_m1 _) (by decide) rfl rfl ?_
      refine wp_goto (tgt := 57) dX8_first_105 rfl ?_
      rw [if_neg (fun w => nI_nle (f1.mp w).1 g2 c75)] at z
      exact z
    · skip -- 75 not taken
      have gp : 0 < g d := by
        rcases Nat.eq_zero_or_pos (g d) with v | v
        · exfalso; rw [v] at c75; exact c75 (by decide)
        · exact v
      refine wp_iload_4 (pc' := 80) dX8_first_78 rfl ?_
      refine wp_if_eq (pc' := 83) (tgt := 93) dX8_first_80 rfl rfl (fun c80 => ?_) (fun c80 => ?_)
      · skip -- 80 taken
        have j0 : j = 0 := (nI_eq (by omega) (by omega)).mp (show nI j = nI 0 from c80)
        refine wp_iload_6 (pc' := 95) dX8_first_93 rfl ?_
        refine wp_goto (tgt := 100) dX8_first_95 rfl ?_
        refine wp_istore_5 (pc' := 102) dX8_first_100 (by decide) rfl rfl ?_
        refine wp_iinc_6 (pc' := 105) dX8_first_102 (dec_m1 _) (by decide) rfl rfl ?_
        refine wp_goto (tgt := 57) dX8_first_105 rfl ?_
        rw [if_pos (f1.mpr ⟨gp, Or.inl j0⟩)] at z
        exact z
      · skip -- 80 not taken
        have j1 : j ≠ 0 := fun w => c80 (by rw [w]; rfl)
        have ea := hat j1
        subst ea
        refine wp_aload_n_0 (pc' := 84) dX8_first_83 rfl ?_
        refine wp_iload_n_3 (pc' := 85) dX8_first_84 rfl ?_
        refine wp_iload_6 (pc' := 87) dX8_first_85 rfl ?_
        refine wp_callVu (pc' := 90) (c_X8_goes hn q hk hκ (by omega) (by omega)) gX8_first_X8_goes rfl rfl hy_X8_goes ⟨Nat.le_of_ble_eq_true rfl, Nat.le_of_ble_eq_true rfl⟩ ⟨rfl, rfl⟩ (Nat.le_of_ble_eq_true rfl) ⟨Nat.le_of_ble_eq_true rfl, Nat.le_of_ble_eq_true rfl⟩ (by omega) (ce8 rfl) rfl rfl dX8_first_87 rfl ?_
        refine wp_if_eq (pc' := 93) (tgt := 98) dX8_first_90 rfl rfl (fun c90 => ?_) (fun c90 => ?_)
        · skip -- 90 taken
          refine wp_iload_5 (pc' := 100) dX8_first_98 rfl ?_
          refine wp_istore_5 (pc' := 102) dX8_first_100 (by decide) rfl rfl ?_
          refine wp_iinc_6 (pc' := 105) dX8_first_102 (dec_m1 _) (by decide) rfl rfl ?_
          refine wp_goto (tgt := 57) dX8_first_105 rfl ?_
          rw [if_neg (fun w => by
            rcases (f1.mp w).2 with v | v
            · exact j1 v
            · rw [v] at c90; exact absurd c90 (by decide))] at z
          exact z
        · skip -- 90 not taken
          refine wp_iload_6 (pc' := 95) dX8_first_93 rfl ?_
          refine wp_goto (tgt := 100) dX8_first_95 rfl ?_
          refine wp_istore_5 (pc' := 102) dX8_first_100 (by decide) rfl rfl ?_
          refine wp_iinc_6 (pc' := 105) dX8_first_102 (dec_m1 _) (by decide) rfl rfl ?_
          refine wp_goto (tgt := 57) dX8_first_105 rfl ?_
          rw [if_pos (f1.mpr ⟨gp, Or.inr (b2i_ne0.mp c90)⟩)] at z
          exact z
theorem fxO_s {κ R C : Nat} {mk t : Nat → Nat} {s k x : Nat} (h : fxO κ R C mk t s k = some x) : fxO κ R C mk t s (k + 1) = lowO (fun y => rch κ R C (fun z => decide (z = x)) y && bw κ R C mk t s (s - 1 - (k + 1)) y) := by
  simp only [fxO]; rw [h]; rfl
theorem fxO_bw {κ R C : Nat} {mk t : Nat → Nat} {s k x : Nat} (h : fxO κ R C mk t s k = some x) : bw κ R C mk t s (s - 1 - k) x = true := by
  cases k with
  | zero => exact (lowO_lt h).2
  | succ k =>
    simp only [fxO] at h
    obtain ⟨y, _, h2⟩ := Option.bind_eq_some_iff.mp h
    have := (lowO_lt h2).2
    simp only [Bool.and_eq_true] at this
    exact this.2
theorem fxO_ex {κ R C : Nat} {mk t : Nat → Nat} {s : Nat} (hl : R * C ≤ 16) (h0 : fxO κ R C mk t s 0 ≠ none) : ∀ k, k < s → ∃ x, fxO κ R C mk t s k = some x := by
  intro k
  induction k with
  | zero =>
    intro _
    cases e : fxO κ R C mk t s 0 with
    | none => exact absurd e h0
    | some x => exact ⟨x, rfl⟩
  | succ k ih =>
    intro hk
    obtain ⟨x, hx⟩ := ih (by omega)
    have b := fxO_bw hx
    rw [show s - 1 - k = s - 1 - (k + 1) + 1 by omega, bw_s, Bool.and_eq_true, rch_iff] at b
    obtain ⟨⟨b1, y, b2, b3, b4⟩, _⟩ := b
    rw [fxO_s hx]
    cases e : lowO (fun y => rch κ R C (fun z => decide (z = x)) y && bw κ R C mk t s (s - 1 - (k + 1)) y) with
    | some v => exact ⟨v, rfl⟩
    | none =>
      exfalso
      unfold lowO at e
      rw [List.find?_eq_none] at e
      have := e y (List.mem_range.mpr (by omega))
      rw [rch_pt b1, b3, go_comm, b4, decide_eq_true b2] at this
      exact this rfl
theorem lpo_X8_first {R C w k : Nat} {ρ : Nat → Nat} {post : PO} (hn : 105 ≤ n) (q : ShM h R C) (ok : RowOK ρ) (hw : w < ρ 16) (hk : k < sw ρ w) (tk : TK h (kw ρ w) (sw ρ w) (tm ρ w)) (on : ∀ k x, k < sw ρ w → x < R * C → h 99 (16 * k + x) = nI (cb (kw ρ w) R C ρ (tm ρ w) (sw ρ w) (sw ρ w - 1 - k) x)) (h0 : fxO (kw ρ w) R C ρ (tm ρ w) (sw ρ w) 0 ≠ none)
    (K : post (some (.int (enc (fxO (kw ρ w) R C ρ (tm ρ w) (sw ρ w) k)))) (rf0 π) h lg) :
    ∀ d j : Nat, j + d = k + 1 → ∀ at_ a5 a6, (j = 0 → at_ = -4) → (∀ i, j = i + 1 → at_ = enc (fxO (kw ρ w) R C ρ (tm ρ w) (sw ρ w) i)) → WP l D cy B cX8_first 7 RX8 wsX8_first rmX8_first (some .int) (QE0 D cy B n 0 0 (post)) EX0 n (rf0 π) h lg 0 0 39 [some (.ref (B + 89)), some (.int (nI w)), some (.int (nI k)), some (.int at_), some (.int (nI j)), a5, a6] [] := by
  have hl := q.1.le
  obtain ⟨w5, hk3, hs2, hs5⟩ := ok.w hw
  intro d
  induction d with
  | zero =>
    intro j hj at_ a5 a6 i0 i1
    have ea := i1 k (by omega)
    subst ea
    have ej : j = k + 1 := by omega
    subst ej
    refine wp_iload_4 (pc' := 41) dX8_first_39 rfl ?_
    refine wp_iload_n_2 (pc' := 42) dX8_first_41 rfl ?_
    refine wp_icmp_gt (pc' := 45) (tgt := 117) dX8_first_42 rfl rfl (fun c42 => ?_) (fun c42 => by exfalso; exact c42 (nI_lt (by omega) (by omega)))
    refine wp_iload_n_3 (pc' := 118) dX8_first_117 rfl ?_
    refine wp_ireturn dX8_first_118 rfl rfl (Nat.le_refl _) (Nat.le_refl _) ?_
    exact K
  | succ d ih =>
    intro j hj at_ a5 a6 i0 i1
    have tail : ∀ x6, WP l D cy B cX8_first 7 RX8 wsX8_first rmX8_first (some .int) (QE0 D cy B n 0 0 (post)) EX0 n (rf0 π) h lg 0 0 108 [some (.ref (B + 89)), some (.int (nI w)), some (.int (nI k)), some (.int at_), some (.int (nI j)), some (.int (enc (fxO (kw ρ w) R C ρ (tm ρ w) (sw ρ w) j))), x6] [] := by
      intro x6
      refine wp_iload_5 (pc' := 110) dX8_first_108 rfl ?_
      refine wp_istore_n_3 (pc' := 111) dX8_first_110 (by decide) rfl rfl ?_
      refine wp_iinc_4 (pc' := 114) (v := nI (j + 1)) dX8_first_111 (by first | rfl | exact nI_1 _) (by decide) rfl rfl ?_
      refine wp_goto (tgt := 39) dX8_first_114 rfl ?_
      exact ih (j + 1) (by omega) _ _ _ (fun z => by omega) (fun i hi => by rw [show i = j by omega])
    have hgg : ∀ x, x < R * C → h 99 (16 * j + x) = nI (cb (kw ρ w) R C ρ (tm ρ w) (sw ρ w) (sw ρ w - 1 - j) x) ∧ cb (kw ρ w) R C ρ (tm ρ w) (sw ρ w) (sw ρ w - 1 - j) x < 2 ^ 31 := fun x hx => ⟨on j x (by omega) hx, cb_b hl ρ (tm ρ w) (sw ρ w) (by omega)⟩
    cases j with
    | zero =>
      rw [show fxO (kw ρ w) R C ρ (tm ρ w) (sw ρ w) 0 = ffO (bw (kw ρ w) R C ρ (tm ρ w) (sw ρ w) (sw ρ w - 1)) (R * C) 0 from lowO_ffO hl (bw_sup _ _ _ _ _ _ _)] at tail
      refine wp_iload_4 (pc' := 41) dX8_first_39 rfl ?_
      refine wp_iload_n_2 (pc' := 42) dX8_first_41 rfl ?_
      refine wp_icmp_gt (pc' := 45) (tgt := 117) dX8_first_42 rfl rfl (fun c42 => by exfalso; exact nI_nlt (by omega) (by omega) c42) (fun c42 => ?_)
      refine wp_bipush (pc' := 47) (-4) dX8_first_45 rfl (by decide) ?_
      refine wp_istore_5 (pc' := 49) dX8_first_47 (by decide) rfl rfl ?_
      refine wp_aload_n_0 (pc' := 50) dX8_first_49 rfl ?_
      refine wp_callVu (pc' := 53) (c_X8_places hn q) gX8_first_X8_places rfl rfl hy_X8_places ⟨Nat.le_of_ble_eq_true rfl, Nat.le_of_ble_eq_true rfl⟩ ⟨rfl, rfl⟩ (Nat.le_of_ble_eq_true rfl) ⟨Nat.le_of_ble_eq_true rfl, Nat.le_of_ble_eq_true rfl⟩ (by omega) (ce8 rfl) rfl rfl dX8_first_50 rfl ?_
      refine wp_iconst (pc' := 54) (1) dX8_first_53 rfl (by decide) ?_
      refine wp_isub (pc' := 55) dX8_first_54 rfl ?_
      refine wp_istore_6 (pc' := 57) dX8_first_55 (by decide) rfl rfl ?_
      rw [show (-4 : Int32) = enc (ffO (bw (kw ρ w) R C ρ (tm ρ w) (sw ρ w) (sw ρ w - 1)) (R * C - R * C) (R * C)) by rw [Nat.sub_self]; rfl]
      exact lpi_X8_first (xp := 0) hn q tk.1 hk3 (by omega) hgg (fun z => absurd rfl z) (by omega) (fun x hx => ⟨fun z => ⟨bw_iff.mp z, Or.inl rfl⟩, fun z => bw_iff.mpr z.1⟩) tail (R * C) (Nat.le_refl _) _ rfl
    | succ i =>
      obtain ⟨xp, hxp⟩ := fxO_ex hl h0 i (by omega)
      have xl := fxO_lt hxp
      have ea := i1 i rfl
      rw [hxp] at ea
      have sup : Sup (R * C) (fun y => rch (kw ρ w) R C (fun z => decide (z = xp)) y && bw (kw ρ w) R C ρ (tm ρ w) (sw ρ w) (sw ρ w - 1 - (i + 1)) y) := fun y hy => by
        show (_ && bw _ _ _ _ _ _ _ y) = false
        rw [bw_sup _ _ _ _ _ _ _ y hy, Bool.and_false]
      rw [fxO_s hxp, lowO_ffO hl sup] at tail
      refine wp_iload_4 (pc' := 41) dX8_first_39 rfl ?_
      refine wp_iload_n_2 (pc' := 42) dX8_first_41 rfl ?_
      refine wp_icmp_gt (pc' := 45) (tgt := 117) dX8_first_42 rfl rfl (fun c42 => by exfalso; exact nI_nlt (by omega) (by omega) c42) (fun c42 => ?_)
      refine wp_bipush (pc' := 47) (-4) dX8_first_45 rfl (by decide) ?_
      refine wp_istore_5 (pc' := 49) dX8_first_47 (by decide) rfl rfl ?_
      refine wp_aload_n_0 (pc' := 50) dX8_first_49 rfl ?_
      refine wp_callVu (pc' := 53) (c_X8_places hn q) gX8_first_X8_places rfl rfl hy_X8_places ⟨Nat.le_of_ble_eq_true rfl, Nat.le_of_ble_eq_true rfl⟩ ⟨rfl, rfl⟩ (Nat.le_of_ble_eq_true rfl) ⟨Nat.le_of_ble_eq_true rfl, Nat.le_of_ble_eq_true rfl⟩ (by omega) (ce8 rfl) rfl rfl dX8_first_50 rfl ?_
      refine wp_iconst (pc' := 54) (1) dX8_first_53 rfl (by decide) ?_
      refine wp_isub (pc' := 55) dX8_first_54 rfl ?_
      refine wp_istore_6 (pc' := 57) dX8_first_55 (by decide) rfl rfl ?_
      rw [show (-4 : Int32) = enc (ffO (fun y => rch (kw ρ w) R C (fun z => decide (z = xp)) y && bw (kw ρ w) R C ρ (tm ρ w) (sw ρ w) (sw ρ w - 1 - (i + 1)) y) (R * C - R * C) (R * C)) by rw [Nat.sub_self]; rfl]
      refine lpi_X8_first (xp := xp) hn q tk.1 hk3 (by omega) hgg (fun _ => ea) (by omega) (fun x hx => ?_) tail (R * C) (Nat.le_refl _) _ rfl
      rw [Bool.and_eq_true, rch_pt xl, decide_eq_true hx, Bool.true_and, bw_iff]
      exact ⟨fun z => ⟨z.2, Or.inr z.1⟩, fun z => ⟨by rcases z.2 with v | v; exact absurd v (by omega); exact v, z.1⟩⟩
theorem c_X8_first (hn : 105 ≤ n) (X : MI h σ) (w k : Int32) : Ctr l D cy B yX8_first wsX8_first rmX8_first 0 0 n (rf0 π) h lg [.ref (B + 89), .int w, .int k] (ZQ π h (aFirst σ w k) σ) := by
  obtain ⟨T, q, hm, ok, nr, xp, xk⟩ := id X
  have hl := q.1.le
  have o2 := ok.2.1
  cases e : ix w (σ.ρ 16) with
  | none =>
    rw [show aFirst σ w k = -1 by simp only [aFirst, e]]
    refine Ctr.of (cc := cX8_first) (nL := 7) (own := RX8) (rt := (some .int)) (ls := [some (.ref (B + 89)), some (.int w), some (.int k), none, none, none, none]) (by decide) rfl rfl (Nat.le_of_ble_eq_true rfl) rfl ?_
    refine wp_aload_n_0 (pc' := 1) dX8_first_0 rfl ?_
    refine wp_iload_n_1 (pc' := 2) dX8_first_1 rfl ?_
    refine wp_callVu (pc' := 5) (c_X8_isWalk hn (nr 16 (by omega)) ok.2.1 _) gX8_first_X8_isWalk rfl rfl hy_X8_isWalk ⟨Nat.le_of_ble_eq_true rfl, Nat.le_of_ble_eq_true rfl⟩ ⟨rfl, rfl⟩ (Nat.le_of_ble_eq_true rfl) ⟨Nat.le_of_ble_eq_true rfl, Nat.le_of_ble_eq_true rfl⟩ (by omega) (ce8 rfl) rfl rfl dX8_first_2 rfl ?_
    rw [e]
    refine wp_if_eq (pc' := 8) (tgt := 12) dX8_first_5 rfl rfl (fun c5 => ?_) (fun c5 => by exfalso; exact c5 rfl)
    refine wp_iconst (pc' := 13) (-1) dX8_first_12 rfl (by decide) ?_
    refine wp_ireturn dX8_first_13 rfl rfl (Nat.le_refl _) (Nat.le_refl _) ?_
    exact ZQ.id rfl X
  | some a =>
    obtain ⟨rfl, hw⟩ := ix_some e
    obtain ⟨w5, hk3, hs2, hs5⟩ := ok.w hw
    have es : sw σ.ρ a = σ.ρ (18 + 7 * a) := rfl
    rw [show aFirst σ (nI a) k = if k.toInt < 0 then -1 else if k.toInt < (σ.ρ (18 + 7 * a) : Int) then enc (fxO (kw σ.ρ a) σ.R σ.C σ.ρ (tm σ.ρ a) (sw σ.ρ a) k.toInt.toNat) else -4 by simp only [aFirst, e], ← es]
    by_cases k0 : k < 0
    · refine Ctr.of (cc := cX8_first) (nL := 7) (own := RX8) (rt := (some .int)) (ls := [some (.ref (B + 89)), some (.int (nI a)), some (.int k), none, none, none, none]) (by decide) rfl rfl (Nat.le_of_ble_eq_true rfl) rfl ?_
      refine wp_aload_n_0 (pc' := 1) dX8_first_0 rfl ?_
      refine wp_iload_n_1 (pc' := 2) dX8_first_1 rfl ?_
      refine wp_callVu (pc' := 5) (c_X8_isWalk hn (nr 16 (by omega)) ok.2.1 _) gX8_first_X8_isWalk rfl rfl hy_X8_isWalk ⟨Nat.le_of_ble_eq_true rfl, Nat.le_of_ble_eq_true rfl⟩ ⟨rfl, rfl⟩ (Nat.le_of_ble_eq_true rfl) ⟨Nat.le_of_ble_eq_true rfl, Nat.le_of_ble_eq_true rfl⟩ (by omega) (ce8 rfl) rfl rfl dX8_first_2 rfl ?_
      rw [e]
      refine wp_if_eq (pc' := 8) (tgt := 12) dX8_first_5 rfl rfl (fun c5 => by exfalso; exact absurd c5 bS) (fun c5 => ?_)
      refine wp_iload_n_2 (pc' := 9) dX8_first_8 rfl ?_
      refine wp_if_ge (pc' := 12) (tgt := 14) dX8_first_9 rfl rfl (fun c9 => by exfalso; exact absurd k0 (Int32.not_lt.mpr c9)) (fun c9 => ?_)
      refine wp_iconst (pc' := 13) (-1) dX8_first_12 rfl (by decide) ?_
      refine wp_ireturn dX8_first_13 rfl rfl (Nat.le_refl _) (Nat.le_refl _) ?_
      exact ZQ.id (by rw [if_pos (by (simp (disch := omega) only [Int32.lt_iff_toInt_lt, Int32.le_iff_toInt_le, ← Int32.toInt_inj, nI_toInt, il_0, il_1, il_2, il_3, il_4, il_5, il_6, il_8, il_9, il_10, il_16, il_26, il_32, il_40, il_n4, il_n1, il_n2, il_11, il_48, il_57, il_59, il_44, il_126, il_200, il_9999, il_66666, il_10000, il_1000000, il_15, il_12, il_256, il_4096, il_53, il_52] at *; omega))]) X
    · obtain ⟨kk, hkk, rfl⟩ := nI_of k0
      have wz : waysN σ.R σ.C σ.ρ σ.ρ a = 0 → fxO (kw σ.ρ a) σ.R σ.C σ.ρ (tm σ.ρ a) (sw σ.ρ a) 0 = none := by
        intro z
        refine lowO_none (fun y _ => ?_)
        rw [Bool.eq_false_iff, ne_eq, bw_iff]
        intro v
        have yl : y < σ.R * σ.C := (bw_sup _ _ _ _ _ _ _).lt (bw_iff.mpr v)
        have := sumN_pos.mpr ⟨y, yl, v⟩
        rw [ways_same _ _ _ _ _ (by omega)] at this
        unfold waysN at z
        omega
      have wp : waysN σ.R σ.C σ.ρ σ.ρ a ≠ 0 → fxO (kw σ.ρ a) σ.R σ.C σ.ρ (tm σ.ρ a) (sw σ.ρ a) 0 ≠ none := by
        intro z v
        have w9 : 0 < sumN (σ.R * σ.C) (cb (kw σ.ρ a) σ.R σ.C σ.ρ (tm σ.ρ a) (sw σ.ρ a) (sw σ.ρ a - 1)) := by
          rw [ways_same _ _ _ _ _ (by omega)]
          unfold waysN at z
          omega
        obtain ⟨y, y1, y2⟩ := sumN_pos.mp w9
        have v2 : lowO (bw (kw σ.ρ a) σ.R σ.C σ.ρ (tm σ.ρ a) (sw σ.ρ a) (sw σ.ρ a - 1)) = none := v
        unfold lowO at v2
        rw [List.find?_eq_none] at v2
        exact v2 y (List.mem_range.mpr (by omega)) (bw_iff.mpr y2)
      rw [nI_toInt hkk, if_neg (by omega), Int.toNat_natCast]
      have wb := waysN_b (mk := σ.ρ) hl ok hw
      refine Ctr.of (cc := cX8_first) (nL := 7) (own := RX8) (rt := (some .int)) (ls := [some (.ref (B + 89)), some (.int (nI a)), some (.int (nI kk)), none, none, none, none]) (by decide) rfl rfl (Nat.le_of_ble_eq_true rfl) rfl ?_
      refine wp_aload_n_0 (pc' := 1) dX8_first_0 rfl ?_
      refine wp_iload_n_1 (pc' := 2) dX8_first_1 rfl ?_
      refine wp_callVu (pc' := 5) (c_X8_isWalk hn (nr 16 (by omega)) ok.2.1 _) gX8_first_X8_isWalk rfl rfl hy_X8_isWalk ⟨Nat.le_of_ble_eq_true rfl, Nat.le_of_ble_eq_true rfl⟩ ⟨rfl, rfl⟩ (Nat.le_of_ble_eq_true rfl) ⟨Nat.le_of_ble_eq_true rfl, Nat.le_of_ble_eq_true rfl⟩ (by omega) (ce8 rfl) rfl rfl dX8_first_2 rfl ?_
      rw [e]
      refine wp_if_eq (pc' := 8) (tgt := 12) dX8_first_5 rfl rfl (fun c5 => by exfalso; exact absurd c5 bS) (fun c5 => ?_)
      refine wp_iload_n_2 (pc' := 9) dX8_first_8 rfl ?_
      refine wp_if_ge (pc' := 12) (tgt := 14) dX8_first_9 rfl rfl (fun c9 => ?_) (fun c9 => by exfalso; exact k0 (Int32.not_le.mp c9))
      refine wp_aload_n_0 (pc' := 15) dX8_first_14 rfl ?_
      refine wp_iload_n_1 (pc' := 16) dX8_first_15 rfl ?_
      refine wp_callVq (pc' := 19) (c_X8_waysOf hn q nr ok hw) gX8_first_X8_waysOf rfl rfl hy_X8_waysOf ⟨Nat.le_of_ble_eq_true rfl, Nat.le_of_ble_eq_true rfl⟩ ⟨rfl, rfl⟩ (Nat.le_of_ble_eq_true rfl) ⟨Nat.le_of_ble_eq_true rfl, Nat.le_of_ble_eq_true rfl⟩ (by omega) (ce8 rfl) rfl rfl dX8_first_16 rfl (fun x16 h16 q16 => ?_)
      obtain ⟨g0, g1, g2, g3⟩ := q16
      subst g0
      refine wp_if_eq (pc' := 22) (tgt := 30) dX8_first_19 rfl rfl (fun c19 => ?_) (fun c19 => ?_)
      · skip -- 19 taken
        refine wp_bipush (pc' := 32) (-4) dX8_first_30 rfl (by decide) ?_
        refine wp_ireturn dX8_first_32 rfl rfl (Nat.le_refl _) (Nat.le_refl _) ?_
        refine ZQ.mf ?_ X g1
        have z := fxO_none (wz ((nI_eq wb (by omega)).mp (show nI (waysN σ.R σ.C σ.ρ σ.ρ a) = nI 0 from c19))) kk
        rw [Nat.zero_add] at z
        rw [z]
        split <;> rfl
      · skip -- 19 not taken
        refine wp_iload_n_2 (pc' := 23) dX8_first_22 rfl ?_
        refine wp_aload_n_0 (pc' := 24) dX8_first_23 rfl ?_
        refine wp_get_8_14 (pc' := 27) (by omega) rfl me_X8_first_1 ic_X8_first_8 dX8_first_24 rfl ?_
        rw [g2.2.1]
        refine wp_icmp_lt (pc' := 30) (tgt := 33) dX8_first_27 rfl rfl (fun c27 => ?_) (fun c27 => ?_)
        · skip -- 27 taken
          have kl : kk < sw σ.ρ a := by (simp (disch := omega) only [Int32.lt_iff_toInt_lt, Int32.le_iff_toInt_le, ← Int32.toInt_inj, nI_toInt, il_0, il_1, il_2, il_3, il_4, il_5, il_6, il_8, il_9, il_10, il_16, il_26, il_32, il_40, il_n4, il_n1, il_n2, il_11, il_48, il_57, il_59, il_44, il_126, il_200, il_9999, il_66666, il_10000, il_1000000, il_15, il_12, il_256, il_4096, il_53, il_52] at c27; omega)
          rw [if_pos (show (kk : Int) < (sw σ.ρ a : Int) by omega)]
          refine wp_bipush (pc' := 35) (-4) dX8_first_33 rfl (by decide) ?_
          refine wp_istore_n_3 (pc' := 36) dX8_first_35 (by decide) rfl rfl ?_
          refine wp_iconst (pc' := 37) (0) dX8_first_36 rfl (by decide) ?_
          refine wp_istore_4 (pc' := 39) dX8_first_37 (by decide) rfl rfl ?_
          exact lpo_X8_first hn (g1.sh q) ok hw kl g2 g3 (wp (fun z => c19 (by rw [z]; rfl))) (ZQ.mf rfl X g1) (kk + 1) 0 (by omega) _ _ _ (fun _ => rfl) (fun i hi => by omega)
        · skip -- 27 not taken
          refine wp_bipush (pc' := 32) (-4) dX8_first_30 rfl (by decide) ?_
          refine wp_ireturn dX8_first_32 rfl rfl (Nat.le_refl _) (Nat.le_refl _) ?_
          exact ZQ.mf (by rw [if_neg (fun z => c27 (nI_lt (by omega) (by omega)))]) X g1
theorem dg_div (s c d : Nat) (hd : d < s) : c / 6 ^ (s - (d + 1)) % 6 = dg s c d := by
  unfold dg
  rw [show s - (d + 1) = s - 1 - d by omega]
theorem lp1_X8_known {s c : Nat} {x k a3 : Int32} {post : PO} (hn : 105 ≤ n) (H0 : Hp) (hs : s ≤ 4) (hc : c < 6 ^ s)
    (K : ∀ h', (∀ a, a ≠ 98 → h' a = H0 a) → (∀ j, j < s → h' 98 j = nI (dg s c j)) → ∀ a5 a6, WP l D cy B cX8_known 7 RX8 wsX8_known rmX8_known (some .int) (QE0 D cy B n 0 0 (post)) EX0 n (rf0 π) h' lg 0 0 100 [some (.ref (B + 89)), some (.int x), some (.int k), some (.int a3), some (.int (nI c)), a5, a6] []) :
    ∀ d : Nat, d ≤ s → ∀ r, r = c / 6 ^ (s - d) → ∀ x6 : Int32, x6 = nI d - 1 → ∀ h', (∀ a, a ≠ 98 → h' a = H0 a) → (∀ j, d ≤ j → j < s → h' 98 j = nI (dg s c j)) → WP l D cy B cX8_known 7 RX8 wsX8_known rmX8_known (some .int) (QE0 D cy B n 0 0 (post)) EX0 n (rf0 π) h' lg 0 0 70 [some (.ref (B + 89)), some (.int x), some (.int k), some (.int a3), some (.int (nI c)), some (.int (nI r)), some (.int x6)] [] := by
  have pl := p6_le s hs
  intro d
  induction d with
  | zero =>
    intro hd r hr x6 hx h' e0 e1
    subst hr
    subst hx
    refine wp_iload_6 (pc' := 72) dX8_known_70 rfl ?_
    refine wp_if_lt (pc' := 75) (tgt := 100) dX8_known_72 rfl rfl (fun c72 => ?_) (fun c72 => by exfalso; exact c72 (by decide))
    exact K h' e0 (fun j hj => e1 j (by omega) hj) _ _
  | succ d ih =>
    intro hd r hr x6 hx h' e0 e1
    subst hr
    subst hx
    rw [nI_pred]
    have dl := Nat.div_le_self c (6 ^ (s - (d + 1)))
    refine wp_iload_6 (pc' := 72) dX8_known_70 rfl ?_
    refine wp_if_lt (pc' := 75) (tgt := 100) dX8_known_72 rfl rfl (fun c72 => by exfalso; exact nI_pos (by omega) c72) (fun c72 => ?_)
    refine wp_aload_n_0 (pc' := 76) dX8_known_75 rfl ?_
    refine wp_get_8_15 (pc' := 79) (by omega) rfl rfl me_X8_known_0 ic_X8_known_8 dX8_known_76 rfl ?_
    refine wp_iload_6 (pc' := 81) dX8_known_79 rfl ?_
    refine wp_iload_5 (pc' := 83) dX8_known_81 rfl ?_
    refine wp_bipush (pc' := 85) (6) dX8_known_83 rfl (by decide) ?_
    refine wp_irem (pc' := 86) dX8_known_85 rfl (by decide) ?_
    rw [show (6 : Int32) = nI 6 from rfl, pk_rem (by omega) (by omega) (by omega), dg_div s c d (by omega)]
    refine wp_iast (pc' := 87) (N := 5) (by omega) rfl rfl (by first | exact vp_in_nI (by omega) (by omega) | assumption | (unfold vp_in; decide)) dX8_known_86 rfl ?_
    refine wp_iload_5 (pc' := 89) dX8_known_87 rfl ?_
    refine wp_bipush (pc' := 91) (6) dX8_known_89 rfl (by decide) ?_
    refine wp_idiv (pc' := 92) dX8_known_91 rfl (by decide) ?_
    rw [show (6 : Int32) = nI 6 from rfl, pk_div (by omega) (by omega) (by omega), Nat.div_div_eq_div_mul, ← Nat.pow_succ, show (s - (d + 1)).succ = s - d by omega]
    refine wp_istore_5 (pc' := 94) dX8_known_92 (by decide) rfl rfl ?_
    refine wp_iinc_6 (pc' := 97) dX8_known_94 (dec_m1 _) (by decide) rfl rfl ?_
    refine wp_goto (tgt := 70) dX8_known_97 rfl ?_
    rw [nI_clamp (by omega)]
    refine ih (by omega) _ rfl _ rfl _ (fun a ha => by rw [hup_cell ha]; exact e0 a ha) (fun j h1 h2 => ?_)
    by_cases e : j = d
    · subst e; rw [hup_at]
    · rw [hup_off e]; exact e1 j (by omega) h2
def vK (s c : Nat) (k : Int32) : Int32 := if (s : Int) ≤ k.toInt then -4 else if k.toInt = -1 then nI s else nI (dg s c k.toInt.toNat)
theorem lp2_X8_known {R C s x : Nat} {k : Int32} {ρ : Nat → Nat} {post : PO} (hn : 105 ≤ n) (H0 : Hp) (q0 : ShM H0 R C) (nr0 : NR H0 93 ρ) (h5 : ∀ i, i < 16 → ρ i ≤ 5) (hs : s ≤ 4) (h1 : 1 ≤ s) (hk : -1 ≤ k.toInt ∧ k.toInt < 4)
    (K1 : ∀ h' c, MF h' H0 → c < 6 ^ s → KW R C ρ ((1 : Int32) <<< (nI x &&& 31)) s c → (∀ c', c' < c → ¬ KW R C ρ ((1 : Int32) <<< (nI x &&& 31)) s c') → post (some (.int (vK s c k))) (rf0 π) h' lg)
    (K2 : ∀ h' a5 a6, MF h' H0 → h' 89 13 = 0 → h' 89 14 = nI s → (∀ c', c' < 6 ^ s → ¬ KW R C ρ ((1 : Int32) <<< (nI x &&& 31)) s c') → WP l D cy B cX8_known 7 RX8 wsX8_known rmX8_known (some .int) (QE0 D cy B n 0 0 (post)) EX0 n (rf0 π) h' lg 0 0 147 [some (.ref (B + 89)), some (.int (nI x)), some (.int k), some (.int (nI (6 ^ s))), some (.int (nI (6 ^ s))), a5, a6] []) :
    ∀ d c : Nat, c + d = 6 ^ s → ∀ h' a5 a6, MF h' H0 → h' 89 13 = 0 → h' 89 14 = nI s → (∀ c', c' < c → ¬ KW R C ρ ((1 : Int32) <<< (nI x &&& 31)) s c') → WP l D cy B cX8_known 7 RX8 wsX8_known rmX8_known (some .int) (QE0 D cy B n 0 0 (post)) EX0 n (rf0 π) h' lg 0 0 52 [some (.ref (B + 89)), some (.int (nI x)), some (.int k), some (.int (nI (6 ^ s))), some (.int (nI c)), a5, a6] [] := by
  have pl := p6_le s hs
  intro d
  induction d with
  | zero =>
    intro c hc h' a5 a6 f m13 m14 no
    have : c = 6 ^ s := by omega
    subst this
    refine wp_iload_4 (pc' := 54) dX8_known_52 rfl ?_
    refine wp_iload_n_3 (pc' := 55) dX8_known_54 rfl ?_
    refine wp_icmp_ge (pc' := 58) (tgt := 147) dX8_known_55 rfl rfl (fun c55 => ?_) (fun c55 => by exfalso; exact c55 (nI_le (Nat.le_refl _) (by omega)))
    exact K2 h' _ _ f m13 m14 no
  | succ d ih =>
    intro c hc h' a5 a6 f m13 m14 no
    have q := f.sh q0
    have nr := f.nr nr0
    refine wp_iload_4 (pc' := 54) dX8_known_52 rfl ?_
    refine wp_iload_n_3 (pc' := 55) dX8_known_54 rfl ?_
    refine wp_icmp_ge (pc' := 58) (tgt := 147) dX8_known_55 rfl rfl (fun c55 => by exfalso; exact nI_ge (by omega) (by omega) c55) (fun c55 => ?_)
    refine wp_iload_4 (pc' := 60) dX8_known_58 rfl ?_
    refine wp_istore_5 (pc' := 62) dX8_known_60 (by decide) rfl rfl ?_
    refine wp_aload_n_0 (pc' := 63) dX8_known_62 rfl ?_
    refine wp_get_8_14 (pc' := 66) (by omega) rfl me_X8_known_1 ic_X8_known_8 dX8_known_63 rfl ?_
    rw [m14]
    refine wp_iconst (pc' := 67) (1) dX8_known_66 rfl (by decide) ?_
    refine wp_isub (pc' := 68) dX8_known_67 rfl ?_
    refine wp_istore_6 (pc' := 70) dX8_known_68 (by decide) rfl rfl ?_
    refine lp1_X8_known (s := s) (c := c) hn h' hs (by omega) (fun h2 e0 e1 b5 b6 => ?_) s (Nat.le_refl _) _ (by rw [Nat.sub_self, Nat.pow_zero, Nat.div_one]) _ rfl h' (fun _ _ => rfl) (fun j z1 z2 => by omega)
    have f2 : MF h2 H0 := MF.tr (MF.hi (fun a ha => e0 a (by omega))) f
    have tk : TK h2 0 s (dg s c) := ⟨by rw [e0 89 (by decide), m13]; rfl, by rw [e0 89 (by decide)]; exact m14, e1⟩
    refine wp_aload_n_0 (pc' := 101) dX8_known_100 rfl ?_
    refine wp_callVq (pc' := 104) (c_X8_endsOf hn (f2.sh q0) tk (f2.nr nr0) (by omega) h1 (by omega) h5 (fun i hi => dg_le s c i)) gX8_known_X8_endsOf rfl rfl hy_X8_endsOf ⟨Nat.le_of_ble_eq_true rfl, Nat.le_of_ble_eq_true rfl⟩ ⟨rfl, rfl⟩ (Nat.le_of_ble_eq_true rfl) ⟨Nat.le_of_ble_eq_true rfl, Nat.le_of_ble_eq_true rfl⟩ (by omega) (ce8 rfl) rfl rfl dX8_known_101 rfl (fun x101 h101 q101 => ?_)
    obtain ⟨g0, g1⟩ := q101
    subst g0
    have f3 : MF h101 H0 := MF.tr (MF.hi (fun a ha => g1 a (by omega))) f2
    refine wp_iconst (pc' := 105) (1) dX8_known_104 rfl (by decide) ?_
    refine wp_iload_n_1 (pc' := 106) dX8_known_105 rfl ?_
    refine wp_ishl (pc' := 107) dX8_known_106 rfl ?_
    refine wp_icmp_ne (pc' := 110) (tgt := 141) dX8_known_107 rfl rfl (fun c107 => ?_) (fun c107 => ?_)
    · skip -- 107 taken
      refine wp_iinc_4 (pc' := 144) (v := nI (c + 1)) dX8_known_141 (by first | rfl | exact nI_1 _) (by decide) rfl rfl ?_
      refine wp_goto (tgt := 52) dX8_known_144 rfl ?_
      refine ih (c + 1) (by omega) _ _ _ f3 (by rw [g1 89 (by decide), e0 89 (by decide)]; exact m13) (by rw [g1 89 (by decide), e0 89 (by decide)]; exact m14) (fun c' hc' => ?_)
      by_cases e : c' = c
      · subst e; exact c107
      · exact no c' (by omega)
    · skip -- 107 not taken
      have k1 := K1 h101 c f3 (by omega) c107 no
      unfold vK at k1
      refine wp_iload_n_2 (pc' := 111) dX8_known_110 rfl ?_
      refine wp_if_ge (pc' := 114) (tgt := 121) dX8_known_111 rfl rfl (fun c111 => ?_) (fun c111 => ?_)
      · skip -- 111 taken
        refine wp_iload_n_2 (pc' := 122) dX8_known_121 rfl ?_
        refine wp_aload_n_0 (pc' := 123) dX8_known_122 rfl ?_
        refine wp_get_8_14 (pc' := 126) (by omega) rfl me_X8_known_1 ic_X8_known_8 dX8_known_123 rfl ?_
        rw [g1 89 (by decide), e0 89 (by decide), m14]
        refine wp_icmp_ge (pc' := 129) (tgt := 138) dX8_known_126 rfl rfl (fun c126 => ?_) (fun c126 => ?_)
        · skip -- 126 taken
          refine wp_bipush (pc' := 140) (-4) dX8_known_138 rfl (by decide) ?_
          refine wp_ireturn dX8_known_140 rfl rfl (Nat.le_refl _) (Nat.le_refl _) ?_
          rw [if_pos (by (simp (disch := omega) only [Int32.lt_iff_toInt_lt, Int32.le_iff_toInt_le, ← Int32.toInt_inj, nI_toInt, il_0, il_1, il_2, il_3, il_4, il_5, il_6, il_8, il_9, il_10, il_16, il_26, il_32, il_40, il_n4, il_n1, il_n2, il_11, il_48, il_57, il_59, il_44, il_126, il_200, il_9999, il_66666, il_10000, il_1000000, il_15, il_12, il_256, il_4096, il_53, il_52] at *; omega))] at k1
          exact k1
        · skip -- 126 not taken
          obtain ⟨j, hj, rfl⟩ : ∃ j, j < s ∧ k = nI j := by
            have z : ¬ k < 0 := Int32.not_lt.mpr c111
            obtain ⟨j, hj, rfl⟩ := nI_of z
            exact ⟨j, by (simp (disch := omega) only [Int32.lt_iff_toInt_lt, Int32.le_iff_toInt_le, ← Int32.toInt_inj, nI_toInt, il_0, il_1, il_2, il_3, il_4, il_5, il_6, il_8, il_9, il_10, il_16, il_26, il_32, il_40, il_n4, il_n1, il_n2, il_11, il_48, il_57, il_59, il_44, il_126, il_200, il_9999, il_66666, il_10000, il_1000000, il_15, il_12, il_256, il_4096, il_53, il_52] at c126; omega), rfl⟩
          refine wp_aload_n_0 (pc' := 130) dX8_known_129 rfl ?_
          refine wp_get_8_15 (pc' := 133) (by omega) rfl rfl me_X8_known_0 ic_X8_known_8 dX8_known_130 rfl ?_
          refine wp_iload_n_2 (pc' := 134) dX8_known_133 rfl ?_
          refine wp_iald (pc' := 135) (N := 5) (by omega) rfl rfl (by first | exact vp_in_nI (by omega) (by omega) | assumption | (unfold vp_in; decide)) dX8_known_134 rfl ?_
          rw [nI_clamp (by omega), g1 98 (by decide), e1 j hj]
          refine wp_goto (tgt := 140) dX8_known_135 rfl ?_
          refine wp_ireturn dX8_known_140 rfl rfl (Nat.le_refl _) (Nat.le_refl _) ?_
          rw [nI_toInt (by omega), if_neg (by omega), if_neg (by omega)] at k1
          exact k1
      · skip -- 111 not taken
        have km : k.toInt = -1 := by (simp (disch := omega) only [Int32.lt_iff_toInt_lt, Int32.le_iff_toInt_le, ← Int32.toInt_inj, nI_toInt, il_0, il_1, il_2, il_3, il_4, il_5, il_6, il_8, il_9, il_10, il_16, il_26, il_32, il_40, il_n4, il_n1, il_n2, il_11, il_48, il_57, il_59, il_44, il_126, il_200, il_9999, il_66666, il_10000, il_1000000, il_15, il_12, il_256, il_4096, il_53, il_52] at *; omega)
        refine wp_aload_n_0 (pc' := 115) dX8_known_114 rfl ?_
        refine wp_get_8_14 (pc' := 118) (by omega) rfl me_X8_known_1 ic_X8_known_8 dX8_known_115 rfl ?_
        rw [g1 89 (by decide), e0 89 (by decide), m14]
        refine wp_goto (tgt := 140) dX8_known_118 rfl ?_
        refine wp_ireturn dX8_known_140 rfl rfl (Nat.le_refl _) (Nat.le_refl _) ?_
        rw [if_neg (by omega), if_pos km] at k1
        exact k1
theorem lp3_X8_known {R C x : Nat} {k : Int32} {ρ : Nat → Nat} {post : PO} (hn : 105 ≤ n) (H0 : Hp) (q0 : ShM H0 R C) (nr0 : NR H0 93 ρ) (h5 : ∀ i, i < 16 → ρ i ≤ 5) (hk : -1 ≤ k.toInt ∧ k.toInt < 4)
    (K1 : ∀ h' s c, MF h' H0 → KFirst R C ρ ((1 : Int32) <<< (nI x &&& 31)) s c → post (some (.int (vK s c k))) (rf0 π) h' lg)
    (K2 : ∀ h', MF h' H0 → (∀ s c, 1 ≤ s → s ≤ 4 → c < 6 ^ s → ¬ KW R C ρ ((1 : Int32) <<< (nI x &&& 31)) s c) → post (some (.int (-4))) (rf0 π) h' lg) :
    ∀ d e : Nat, e + d = 4 → ∀ h' a4 a5 a6, MF h' H0 → h' 89 13 = 0 → h' 89 14 = nI (e + 1) → (∀ s c, 1 ≤ s → s ≤ e → c < 6 ^ s → ¬ KW R C ρ ((1 : Int32) <<< (nI x &&& 31)) s c) → WP l D cy B cX8_known 7 RX8 wsX8_known rmX8_known (some .int) (QE0 D cy B n 0 0 (post)) EX0 n (rf0 π) h' lg 0 0 36 [some (.ref (B + 89)), some (.int (nI x)), some (.int k), some (.int (nI (6 ^ e))), a4, a5, a6] [] := by
  intro d
  induction d with
  | zero =>
    intro e he h' a4 a5 a6 f m13 m14 no
    have : e = 4 := by omega
    subst this
    refine wp_aload_n_0 (pc' := 37) dX8_known_36 rfl ?_
    refine wp_get_8_14 (pc' := 40) (by omega) rfl me_X8_known_1 ic_X8_known_8 dX8_known_37 rfl ?_
    rw [m14]
    refine wp_iconst (pc' := 41) (5) dX8_known_40 rfl (by decide) ?_
    refine wp_icmp_ge (pc' := 44) (tgt := 160) dX8_known_41 rfl rfl (fun c41 => ?_) (fun c41 => by exfalso; exact c41 (by decide))
    refine wp_bipush (pc' := 162) (-4) dX8_known_160 rfl (by decide) ?_
    refine wp_ireturn dX8_known_162 rfl rfl (Nat.le_refl _) (Nat.le_refl _) ?_
    exact K2 h' f no
  | succ d ih =>
    intro e he h' a4 a5 a6 f m13 m14 no
    refine wp_aload_n_0 (pc' := 37) dX8_known_36 rfl ?_
    refine wp_get_8_14 (pc' := 40) (by omega) rfl me_X8_known_1 ic_X8_known_8 dX8_known_37 rfl ?_
    rw [m14]
    refine wp_iconst (pc' := 41) (5) dX8_known_40 rfl (by decide) ?_
    refine wp_icmp_ge (pc' := 44) (tgt := 160) dX8_known_41 rfl rfl (fun c41 => by exfalso; exact nI_ge (a := e + 1) (b := 5) (by omega) (by omega) c41) (fun c41 => ?_)
    refine wp_iload_n_3 (pc' := 45) dX8_known_44 rfl ?_
    refine wp_bipush (pc' := 47) (6) dX8_known_45 rfl (by decide) ?_
    refine wp_imul (pc' := 48) dX8_known_47 rfl ?_
    rw [show nI (6 ^ e) * 6 = nI (6 ^ (e + 1)) by rw [show (6 : Int32) = nI 6 from rfl, nI_mul, Nat.pow_succ]]
    refine wp_istore_n_3 (pc' := 49) dX8_known_48 (by decide) rfl rfl ?_
    refine wp_iconst (pc' := 50) (0) dX8_known_49 rfl (by decide) ?_
    refine wp_istore_4 (pc' := 52) dX8_known_50 (by decide) rfl rfl ?_
    refine lp2_X8_known hn H0 q0 nr0 h5 (by omega) (by omega) hk (fun h2 c g0 g1 g2 g3 => K1 h2 (e + 1) c g0 ⟨by omega, by omega, g1, g2, g3, fun s' c' z1 z2 z3 => no s' c' z1 (by omega) z3⟩) (fun h2 b5 b6 g0 g1 g2 g3 => ?_) (6 ^ (e + 1)) 0 (by omega) h' _ _ f m13 m14 (fun c' hc' => by omega)
    refine wp_aload_n_0 (pc' := 148) dX8_known_147 rfl ?_
    refine wp_dup (pc' := 149) dX8_known_148 rfl rfl ?_
    refine wp_get_8_14 (pc' := 152) (by omega) rfl me_X8_known_1 ic_X8_known_8 dX8_known_149 rfl ?_
    rw [g2]
    refine wp_iconst (pc' := 153) (1) dX8_known_152 rfl (by decide) ?_
    refine wp_iadd (pc' := 154) dX8_known_153 rfl ?_
    rw [nI_1]
    refine wp_put_8_14 (pc' := 157) (by omega) rfl me_X8_known_1 ic_X8_known_8 dX8_known_154 rfl ?_
    refine wp_goto (tgt := 36) dX8_known_157 rfl ?_
    refine ih (e + 1) (by omega) _ _ _ _ ⟨fun a ha => by rw [hup_cell (by omega)]; exact g0.1 a ha, by rw [hup_off (by decide)]; exact g0.2.1, by rw [hup_off (by decide)]; exact g0.2.2.1, by rw [hup_off (by decide)]; exact g0.2.2.2⟩ (by rw [hup_off (by decide)]; exact g1) (hup_at _ _ _ _) (fun s c z1 z2 z3 => ?_)
    by_cases es : s = e + 1
    · subst es; exact g3 c z3
    · exact no s c z1 (by omega) z3
theorem c_X8_known (hn : 105 ≤ n) (X : MI h σ) (x k : Int32) : Ctr l D cy B yX8_known wsX8_known rmX8_known 0 0 n (rf0 π) h lg [.ref (B + 89), .int x, .int k] (ZQ π h (aKnown σ x k) σ) := by
  obtain ⟨T, q, hm, ok, nr, xp, xk⟩ := id X
  have hl := q.1.le
  cases e : ix x (σ.R * σ.C) with
  | none =>
    rw [show aKnown σ x k = -1 by simp only [aKnown, e]]
    refine Ctr.of (cc := cX8_known) (nL := 7) (own := RX8) (rt := (some .int)) (ls := [some (.ref (B + 89)), some (.int x), some (.int k), none, none, none, none]) (by decide) rfl rfl (Nat.le_of_ble_eq_true rfl) rfl ?_
    refine wp_aload_n_0 (pc' := 1) dX8_known_0 rfl ?_
    refine wp_iload_n_1 (pc' := 2) dX8_known_1 rfl ?_
    refine wp_callVu (pc' := 5) (c_X8_isPlace hn q _) gX8_known_X8_isPlace rfl rfl hy_X8_isPlace ⟨Nat.le_of_ble_eq_true rfl, Nat.le_of_ble_eq_true rfl⟩ ⟨rfl, rfl⟩ (Nat.le_of_ble_eq_true rfl) ⟨Nat.le_of_ble_eq_true rfl, Nat.le_of_ble_eq_true rfl⟩ (by omega) (ce8 rfl) rfl rfl dX8_known_2 rfl ?_
    rw [e]
    refine wp_if_eq (pc' := 8) (tgt := 22) dX8_known_5 rfl rfl (fun c5 => ?_) (fun c5 => by exfalso; exact c5 rfl)
    refine wp_iconst (pc' := 23) (-1) dX8_known_22 rfl (by decide) ?_
    refine wp_ireturn dX8_known_23 rfl rfl (Nat.le_refl _) (Nat.le_refl _) ?_
    exact ZQ.id rfl X
  | some a =>
    obtain ⟨rfl, z1⟩ := ix_some e
    have ein : (decide ((-1 : Int64) ≤ k.toInt64 ∧ k.toInt64 ≤ 3)) = decide (-1 ≤ k.toInt ∧ k.toInt < 4) := by
      rw [Bool.eq_iff_iff, decide_eq_true_eq, decide_eq_true_eq, Int64.le_iff_toInt_le, Int64.le_iff_toInt_le, Int32.toInt_toInt64, show (-1 : Int64).toInt = -1 by decide, show (3 : Int64).toInt = 3 by decide]
      omega
    by_cases z : k.toInt < -1 ∨ 4 ≤ k.toInt
    · rw [show aKnown σ (nI a) k = -1 by simp only [aKnown, e, z, if_true]]
      refine Ctr.of (cc := cX8_known) (nL := 7) (own := RX8) (rt := (some .int)) (ls := [some (.ref (B + 89)), some (.int (nI a)), some (.int k), none, none, none, none]) (by decide) rfl rfl (Nat.le_of_ble_eq_true rfl) rfl ?_
      refine wp_aload_n_0 (pc' := 1) dX8_known_0 rfl ?_
      refine wp_iload_n_1 (pc' := 2) dX8_known_1 rfl ?_
      refine wp_callVu (pc' := 5) (c_X8_isPlace hn q _) gX8_known_X8_isPlace rfl rfl hy_X8_isPlace ⟨Nat.le_of_ble_eq_true rfl, Nat.le_of_ble_eq_true rfl⟩ ⟨rfl, rfl⟩ (Nat.le_of_ble_eq_true rfl) ⟨Nat.le_of_ble_eq_true rfl, Nat.le_of_ble_eq_true rfl⟩ (by omega) (ce8 rfl) rfl rfl dX8_known_2 rfl ?_
      rw [e]
      refine wp_if_eq (pc' := 8) (tgt := 22) dX8_known_5 rfl rfl (fun c5 => by exfalso; exact absurd c5 bS) (fun c5 => ?_)
      refine wp_iload_n_2 (pc' := 9) dX8_known_8 rfl ?_
      refine wp_i2l (pc' := 10) dX8_known_9 rfl ?_
      refine wp_ldc2 (pc' := 13) (v := (-1)) me_X8_known_2 dX8_known_10 rfl ?_
      refine wp_ldc2 (pc' := 16) (v := (3)) me_X8_known_3 dX8_known_13 rfl ?_
      refine wp_callSu (pc' := 19) (c_X8_in k.toInt64 (-1) 3) gX8_known_X8_in rfl rfl hz_X8_in ⟨Nat.le_of_ble_eq_true rfl, Nat.le_of_ble_eq_true rfl⟩ ⟨rfl, rfl⟩ (Nat.le_of_ble_eq_true rfl) ⟨Nat.le_of_ble_eq_true rfl, Nat.le_of_ble_eq_true rfl⟩ rfl dX8_known_16 rfl ?_
      rw [ein, decide_eq_false (show ¬ (-1 ≤ k.toInt ∧ k.toInt < 4) by omega)]
      refine wp_if_ne (pc' := 22) (tgt := 24) dX8_known_19 rfl rfl (fun c19 => by exfalso; exact c19 rfl) (fun c19 => ?_)
      refine wp_iconst (pc' := 23) (-1) dX8_known_22 rfl (by decide) ?_
      refine wp_ireturn dX8_known_23 rfl rfl (Nat.le_refl _) (Nat.le_refl _) ?_
      exact ZQ.id rfl X
    · have zk : -1 ≤ k.toInt ∧ k.toInt < 4 := by omega
      refine Ctr.of (cc := cX8_known) (nL := 7) (own := RX8) (rt := (some .int)) (ls := [some (.ref (B + 89)), some (.int (nI a)), some (.int k), none, none, none, none]) (by decide) rfl rfl (Nat.le_of_ble_eq_true rfl) rfl ?_
      refine wp_aload_n_0 (pc' := 1) dX8_known_0 rfl ?_
      refine wp_iload_n_1 (pc' := 2) dX8_known_1 rfl ?_
      refine wp_callVu (pc' := 5) (c_X8_isPlace hn q _) gX8_known_X8_isPlace rfl rfl hy_X8_isPlace ⟨Nat.le_of_ble_eq_true rfl, Nat.le_of_ble_eq_true rfl⟩ ⟨rfl, rfl⟩ (Nat.le_of_ble_eq_true rfl) ⟨Nat.le_of_ble_eq_true rfl, Nat.le_of_ble_eq_true rfl⟩ (by omega) (ce8 rfl) rfl rfl dX8_known_2 rfl ?_
      rw [e]
      refine wp_if_eq (pc' := 8) (tgt := 22) dX8_known_5 rfl rfl (fun c5 => by exfalso; exact absurd c5 bS) (fun c5 => ?_)
      refine wp_iload_n_2 (pc' := 9) dX8_known_8 rfl ?_
      refine wp_i2l (pc' := 10) dX8_known_9 rfl ?_
      refine wp_ldc2 (pc' := 13) (v := (-1)) me_X8_known_2 dX8_known_10 rfl ?_
      refine wp_ldc2 (pc' := 16) (v := (3)) me_X8_known_3 dX8_known_13 rfl ?_
      refine wp_callSu (pc' := 19) (c_X8_in k.toInt64 (-1) 3) gX8_known_X8_in rfl rfl hz_X8_in ⟨Nat.le_of_ble_eq_true rfl, Nat.le_of_ble_eq_true rfl⟩ ⟨rfl, rfl⟩ (Nat.le_of_ble_eq_true rfl) ⟨Nat.le_of_ble_eq_true rfl, Nat.le_of_ble_eq_true rfl⟩ rfl dX8_known_16 rfl ?_
      rw [ein, decide_eq_true zk]
      refine wp_if_ne (pc' := 22) (tgt := 24) dX8_known_19 rfl rfl (fun c19 => ?_) (fun c19 => by exfalso; exact absurd c19 (by decide))
      refine wp_aload_n_0 (pc' := 25) dX8_known_24 rfl ?_
      refine wp_iconst (pc' := 26) (0) dX8_known_25 rfl (by decide) ?_
      refine wp_put_8_13 (pc' := 29) (by omega) rfl me_X8_known_4 ic_X8_known_8 dX8_known_26 rfl ?_
      refine wp_iconst (pc' := 30) (1) dX8_known_29 rfl (by decide) ?_
      refine wp_istore_n_3 (pc' := 31) dX8_known_30 (by decide) rfl rfl ?_
      refine wp_aload_n_0 (pc' := 32) dX8_known_31 rfl ?_
      refine wp_iconst (pc' := 33) (1) dX8_known_32 rfl (by decide) ?_
      refine wp_put_8_14 (pc' := 36) (by omega) rfl me_X8_known_1 ic_X8_known_8 dX8_known_33 rfl ?_
      refine lp3_X8_known (e := 0) hn h q nr ok.1 zk (fun h' s c f kf => ZQ.mf ?_ X f) (fun h' f kn => ZQ.mf ?_ X f) 4 (by omega) _ _ _ _ ⟨fun b hb => by rw [hup_cell (by omega), hup_cell (by omega)], by rw [hup_off (by decide), hup_off (by decide)], by rw [hup_off (by decide), hup_off (by decide)], by rw [hup_off (by decide), hup_off (by decide)]⟩ (by rw [hup_off (by decide), hup_at]) (by rw [hup_at]; rfl) (fun s c w1 w2 => by omega)
      · simp only [aKnown, e, z, if_false, kfst_some kf]
        rfl
      · simp only [aKnown, e, z, if_false, kfst_none kn]
end VM8

