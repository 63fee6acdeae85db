abbrev rmX0_lowest : Room := { frames := 0, cells := 0, slots := 0, locals := 0 }
theorem hy_X0_lowest : yX0_lowest.cls = RX0 ∧ yX0_lowest.cls ≠ "java/lang/invoke/MethodHandle" ∧ yX0_lowest.cls ≠ "java/lang/invoke/VarHandle" ∧ (parseMethodDescriptor yX0_lowest.desc).map (fun d => d.parameters.length) = some 1 := by decide +kernel
theorem hz_X0_lowest : yX0_lowest.cls ≠ "java/lang/invoke/MethodHandle" ∧ yX0_lowest.cls ≠ "java/lang/invoke/VarHandle" ∧ (parseMethodDescriptor yX0_lowest.desc).map (fun d => d.parameters.length) = some 1 := by decide +kernel
abbrev rmX0_onFirstRow : Room := { frames := 4, cells := 0, slots := 0, locals := 94 }
theorem hy_X0_onFirstRow : yX0_onFirstRow.cls = RX0 ∧ yX0_onFirstRow.cls ≠ "java/lang/invoke/MethodHandle" ∧ yX0_onFirstRow.cls ≠ "java/lang/invoke/VarHandle" ∧ (parseMethodDescriptor yX0_onFirstRow.desc).map (fun d => d.parameters.length) = some 3 := by decide +kernel
theorem hz_X0_onFirstRow : yX0_onFirstRow.cls ≠ "java/lang/invoke/MethodHandle" ∧ yX0_onFirstRow.cls ≠ "java/lang/invoke/VarHandle" ∧ (parseMethodDescriptor yX0_onFirstRow.desc).map (fun d => d.parameters.length) = some 3 := by decide +kernel
theorem me_X0_onFirstRow_0 : Cond.fieldLink RX0 12 "DrawnByLost$Finder" "land" "LDrawnByLost$Land;" ∈ wsX0_onFirstRow := by decide +kernel
theorem me_X0_onFirstRow_1 : Cond.fieldLink RX0 25 "DrawnByLost$Finder" "behind" "[I" ∈ wsX0_onFirstRow := by decide +kernel
theorem ic_X0_onFirstRow_0 : ∀ w ∈ wsX00, w ∈ wsX0_onFirstRow := by decide +kernel
-- Finder: the first row, how many rows
section VF3
variable {l : Launch} {D : va_G} {cy : CY} {B n : Nat} {h : Hp} {lg : Lg} {π : Nat → Nat}
def lowO (f : Nat → Bool) : Option Nat := (List.range 16).find? f
def enc (o : Option Nat) : Int32 := match o with
  | some x => nI x
  | none => -4
theorem lowO_some {f : Nat → Bool} {x : Nat} (hx : x < 16) (h : f x = true) (hl : ∀ y, y < x → f y = false) : lowO f = some x := by
  unfold lowO
  rw [List.find?_eq_some_iff_append]
  refine ⟨h, List.range x, (List.range (16 - (x + 1))).map (fun i => x + 1 + i), ?_, fun a ha => ?_⟩
  · apply List.ext_getElem?
    intro i
    by_cases h1 : i < x
    · rw [List.getElem?_append_left (by simpa using h1)]
      simp [h1, Nat.lt_trans h1 hx]
    · rw [List.getElem?_append_right (by simp; omega)]
      by_cases h2 : i = x
      · subst h2; simp [hx]
      · obtain ⟨j, rfl⟩ : ∃ j, i = x + 1 + j := ⟨i - (x + 1), by omega⟩
        rw [List.length_range, show x + 1 + j - x = j + 1 by omega, List.getElem?_cons_succ]
        by_cases h3 : x + 1 + j < 16
        · have : j < 15 - x := by omega
          simp [h3, this]
        · rw [List.getElem?_eq_none (by simp; omega), List.getElem?_eq_none (by simp; omega)]
  · have := hl a (List.mem_range.mp ha)
    simp [this]
theorem lowO_none {f : Nat → Bool} (h : ∀ y, y < 16 → f y = false) : lowO f = none := by
  unfold lowO
  rw [List.find?_eq_none]
  intro x hx
  simp [h x (List.mem_range.mp hx)]
theorem lowO_lt {f : Nat → Bool} {x : Nat} (h : lowO f = some x) : x < 16 ∧ f x = true := by
  unfold lowO at h
  exact ⟨List.mem_range.mp (List.mem_of_find?_eq_some h), List.find?_some h⟩
theorem lp_X0_lowest {f : Nat → Bool} {post : PO} (K : ∀ o, o = lowO f → post (some (.int (enc o))) (rf0 π) h lg) :
    ∀ d i : Nat, i + d = 16 → (∀ y, y < i → f y = false) → WP l D cy B cX0_lowest 2 RX0 wsX0_lowest rmX0_lowest (some .int) (QE0 D cy B n 0 0 (post)) EX0 n (rf0 π) h lg 0 0 2 [some (.int (S f)), some (.int (nI i))] [] := by
  intro d
  induction d with
  | zero =>
    intro i hi e
    have : i = 16 := by omega
    subst this
    refine wp_iload_n_1 (pc' := 3) dX0_lowest_2 rfl ?_
    refine wp_bipush (pc' := 5) (16) dX0_lowest_3 rfl (by decide) ?_
    refine wp_icmp_ge (pc' := 8) (tgt := 25) dX0_lowest_5 rfl rfl (fun c5 => ?_) (fun c5 => by exfalso; exact c5 (by decide))
    refine wp_bipush (pc' := 27) (-4) dX0_lowest_25 rfl (by decide) ?_
    refine wp_ireturn dX0_lowest_27 rfl rfl (Nat.le_refl _) (Nat.le_refl _) ?_
    exact K none (lowO_none e).symm
  | succ d ih =>
    intro i hi e
    refine wp_iload_n_1 (pc' := 3) dX0_lowest_2 rfl ?_
    refine wp_bipush (pc' := 5) (16) dX0_lowest_3 rfl (by decide) ?_
    refine wp_icmp_ge (pc' := 8) (tgt := 25) dX0_lowest_5 rfl rfl (fun c5 => by exfalso; (simp (disch := omega) only [Int32.lt_iff_toInt_lt, Int32.le_iff_toInt_le, ← Int32.toInt_inj, nI_toInt, il_0, il_1, il_2, il_3, il_4, il_5, il_6, il_8, il_9, il_10, il_16, il_26, il_32, il_40, il_n4, il_n1, il_n2, il_11, il_48, il_57, il_59, il_44, il_126, il_200, il_9999, il_66666, il_10000, il_1000000, il_15, il_12, il_256, il_4096, il_53, il_52] at c5; omega)) (fun c5 => ?_)
    refine wp_iload_n_0 (pc' := 9) dX0_lowest_8 rfl ?_
    refine wp_iload_n_1 (pc' := 10) dX0_lowest_9 rfl ?_
    refine wp_ishr (pc' := 11) dX0_lowest_10 rfl ?_
    refine wp_iconst (pc' := 12) (1) dX0_lowest_11 rfl (by decide) ?_
    refine wp_iand (pc' := 13) dX0_lowest_12 rfl ?_
    rw [S_test f (by omega)]
    refine wp_iconst (pc' := 14) (1) dX0_lowest_13 rfl (by decide) ?_
    refine wp_icmp_ne (pc' := 17) (tgt := 19) dX0_lowest_14 rfl rfl (fun c14 => ?_) (fun c14 => ?_)
    · skip -- 14 taken
      have hf : f i = false := by
        cases q : f i
        · rfl
        · rw [q] at c14; exact absurd rfl c14
      refine wp_iinc_1 (pc' := 22) (v := nI (i + 1)) dX0_lowest_19 (by first | rfl | exact nI_1 _) (by decide) rfl rfl ?_
      refine wp_goto (tgt := 2) dX0_lowest_22 rfl ?_
      refine ih (i + 1) (by omega) (fun y hy => ?_)
      by_cases q : y = i
      · subst q; exact hf
      · exact e y (by omega)
    · skip -- 14 not taken
      have hf : f i = true := by
        cases q : f i
        · rw [q] at c14; exact absurd c14 (by decide)
        · rfl
      refine wp_iload_n_1 (pc' := 18) dX0_lowest_17 rfl ?_
      refine wp_ireturn dX0_lowest_18 rfl rfl (Nat.le_refl _) (Nat.le_refl _) ?_
      exact K (some i) (lowO_some (by omega) hf e).symm
theorem c_X0_lowest (f : Nat → Bool) : Ctr l D cy B yX0_lowest wsX0_lowest rmX0_lowest 0 0 n (rf0 π) h lg [.int (S f)] (uI (enc (lowO f)) (rf0 π) h lg) := by
  refine Ctr.of (cc := cX0_lowest) (nL := 2) (own := RX0) (rt := (some .int)) (ls := [some (.int (S f)), none]) (by decide) rfl rfl (Nat.le_of_ble_eq_true rfl) rfl ?_
  refine wp_iconst (pc' := 1) (0) dX0_lowest_0 rfl (by decide) ?_
  refine wp_istore_n_1 (pc' := 2) dX0_lowest_1 (by decide) rfl rfl ?_
  exact lp_X0_lowest (fun o ho => by subst ho; exact uI_of rfl) 16 0 rfl (fun y hy => by omega)
/-- the k-th place of the first row -/
def fxO (κ R C : Nat) (mk t : Nat → Nat) (s : Nat) : Nat → Option Nat
  | 0 => lowO (bw κ R C mk t s (s - 1))
  | k + 1 => (fxO κ R C mk t s k).bind fun x => lowO (fun y => rch κ R C (fun z => decide (z = x)) y && bw κ R C mk t s (s - 1 - (k + 1)) y)
theorem fxO_lt {κ R C : Nat} {mk t : Nat → Nat} {s k x : Nat} (h : fxO κ R C mk t s k = some x) : x < R * C := by
  cases k with
  | zero => exact (bw_sup κ R C mk t s _).lt (lowO_lt h).2
  | succ k =>
    simp only [fxO] at h
    obtain ⟨y, _, h2⟩ := Option.bind_eq_some_iff.mp h
    have := (lowO_lt h2).2
    simp only [Bool.and_eq_true] at this
    exact (bw_sup κ R C mk t s _).lt this.2
theorem fxO_none {κ R C : Nat} {mk t : Nat → Nat} {s k : Nat} (h : fxO κ R C mk t s k = none) : ∀ d, fxO κ R C mk t s (k + d) = none := by
  intro d
  induction d with
  | zero => exact h
  | succ d ih => rw [show k + (d + 1) = (k + d) + 1 by omega]; simp only [fxO]; rw [ih]; rfl
theorem enc_n4 {o : Option Nat} (h : ∀ x, o = some x → x < 16) : enc o = -4 ↔ o = none := by
  cases o with
  | none => simp [enc]
  | some x =>
    have := h x rfl
    constructor
    · intro q
      exfalso
      have q2 : nI x = -4 := q
      (simp (disch := omega) only [Int32.lt_iff_toInt_lt, Int32.le_iff_toInt_le, ← Int32.toInt_inj, nI_toInt, il_0, il_1, il_2, il_3, il_4, il_5, il_6, il_8, il_9, il_10, il_16, il_26, il_32, il_40, il_n4, il_n1, il_n2, il_11, il_48, il_57, il_59, il_44, il_126, il_200, il_9999, il_66666, il_10000, il_1000000, il_15, il_12, il_256, il_4096, il_53, il_52] at q2; omega)
    · intro q; cases q
theorem sup_pt {P x : Nat} (hx : x < P) : Sup P (fun z => decide (z = x)) := fun i hi => by
  have : ¬ i = x := by omega
  simp [this]
theorem lp_X0_onFirstRow {s w k R C : Nat} {mk ρ : Nat → Nat} {post : PO} (hn : 89 ≤ n) (hs : St s) (q : ShL h 11 R C) (xr : XR h s ρ) (ok : RowOK ρ) (hw : w < ρ 16) (hk : k < sw ρ w)
    (bk : ∀ i, i < sw ρ w → h 15 i = S (bw (kw ρ w) R C mk (tm ρ w) (sw ρ w) (sw ρ w - 1 - i)))
    (K : ∀ a5, WP l D cy B cX0_onFirstRow 6 RX0 wsX0_onFirstRow rmX0_onFirstRow (some .int) (QE0 D cy B n 0 0 (post)) EX0 n (rf0 π) h lg 0 0 74 [some (.ref (B + 10)), some (.ref (B + s)), some (.int (nI w)), some (.int (nI k)), some (.int (enc (fxO (kw ρ w) R C mk (tm ρ w) (sw ρ w) k))), a5] []) :
    ∀ d i : Nat, i + d = k → WP l D cy B cX0_onFirstRow 6 RX0 wsX0_onFirstRow rmX0_onFirstRow (some .int) (QE0 D cy B n 0 0 (post)) EX0 n (rf0 π) h lg 0 0 20 [some (.ref (B + 10)), some (.ref (B + s)), some (.int (nI w)), some (.int (nI k)), some (.int (enc (fxO (kw ρ w) R C mk (tm ρ w) (sw ρ w) i))), some (.int (nI (i + 1)))] [] := by
  have hl := q.1.le
  obtain ⟨w5, hk3, hs2, hs5⟩ := ok.w hw
  intro d
  induction d with
  | zero =>
    intro i hi
    have : i = k := by omega
    subst this
    refine wp_iload_5 (pc' := 22) dX0_onFirstRow_20 rfl ?_
    refine wp_iload_n_3 (pc' := 23) dX0_onFirstRow_22 rfl ?_
    refine wp_icmp_gt (pc' := 26) (tgt := 74) dX0_onFirstRow_23 rfl rfl (fun c23 => ?_) (fun c23 => by exfalso; exact c23 (nI_lt (by omega) (by omega)))
    exact K _
  | succ d ih =>
    intro i hi
    have hx16 : ∀ x, fxO (kw ρ w) R C mk (tm ρ w) (sw ρ w) i = some x → x < 16 := fun x hx => by have := fxO_lt hx; omega
    refine wp_iload_5 (pc' := 22) dX0_onFirstRow_20 rfl ?_
    refine wp_iload_n_3 (pc' := 23) dX0_onFirstRow_22 rfl ?_
    refine wp_icmp_gt (pc' := 26) (tgt := 74) dX0_onFirstRow_23 rfl rfl (fun c23 => by exfalso; exact nI_nlt (by omega) (by omega) c23) (fun c23 => ?_)
    refine wp_iload_5 (pc' := 28) dX0_onFirstRow_26 rfl ?_
    refine wp_iconst (pc' := 29) (5) dX0_onFirstRow_28 rfl (by decide) ?_
    refine wp_icmp_ge (pc' := 32) (tgt := 74) dX0_onFirstRow_29 rfl rfl (fun c29 => by exfalso; (simp (disch := omega) only [Int32.lt_iff_toInt_lt, Int32.le_iff_toInt_le, ← Int32.toInt_inj, nI_toInt, il_0, il_1, il_2, il_3, il_4, il_5, il_6, il_8, il_9, il_10, il_16, il_26, il_32, il_40, il_n4, il_n1, il_n2, il_11, il_48, il_57, il_59, il_44, il_126, il_200, il_9999, il_66666, il_10000, il_1000000, il_15, il_12, il_256, il_4096, il_53, il_52] at c29; omega)) (fun c29 => ?_)
    refine wp_iload_4 (pc' := 34) dX0_onFirstRow_32 rfl ?_
    refine wp_bipush (pc' := 36) (-4) dX0_onFirstRow_34 rfl (by decide) ?_
    refine wp_icmp_eq (pc' := 39) (tgt := 74) dX0_onFirstRow_36 rfl rfl (fun c36 => ?_) (fun c36 => ?_)
    · skip -- 36 taken
      have c2 := (enc_n4 hx16).mp c36
      have z := fxO_none c2 (d + 1)
      rw [show i + (d + 1) = k from hi] at z
      rw [z] at K
      rw [c2]; exact K _
    · skip -- 36 not taken
      obtain ⟨x, hx⟩ : ∃ x, fxO (kw ρ w) R C mk (tm ρ w) (sw ρ w) i = some x := by
        cases e : fxO (kw ρ w) R C mk (tm ρ w) (sw ρ w) i with
        | none => exact absurd ((enc_n4 hx16).mpr e) c36
        | some x => exact ⟨x, rfl⟩
      have hxl := hx16 x hx
      have hf := sup_pt (fxO_lt hx)
      rw [hx]
      rw [show enc (some x) = nI x from rfl]
      refine wp_aload_n_0 (pc' := 40) dX0_onFirstRow_39 rfl ?_
      refine wp_get_0_0 (pc' := 43) (by omega) rfl rfl me_X0_onFirstRow_0 ic_X0_onFirstRow_0 dX0_onFirstRow_40 rfl ?_
      refine wp_aload_n_1 (pc' := 44) dX0_onFirstRow_43 rfl ?_
      refine wp_iload_n_2 (pc' := 45) dX0_onFirstRow_44 rfl ?_
      refine wp_callVu (pc' := 48) (c_kindOf hn hs xr ok hw) gX0_onFirstRow_X5_kindOf rfl rfl hy_X5_kindOf ⟨Nat.le_of_ble_eq_true rfl, Nat.le_of_ble_eq_true rfl⟩ ⟨rfl, rfl⟩ (Nat.le_of_ble_eq_true rfl) ⟨Nat.le_of_ble_eq_true rfl, Nat.le_of_ble_eq_true rfl⟩ (hs.lt (by omega)) (ce5 hs.K) rfl rfl dX0_onFirstRow_45 rfl ?_
      refine wp_iconst (pc' := 49) (1) dX0_onFirstRow_48 rfl (by decide) ?_
      refine wp_iload_4 (pc' := 51) dX0_onFirstRow_49 rfl ?_
      refine wp_ishl (pc' := 52) dX0_onFirstRow_51 rfl ?_
      rw [S_one hxl]
      refine wp_callVu (pc' := 55) (c_X1_reach hn la11 q hk3 hf) gX0_onFirstRow_X1_reach rfl rfl hy_X1_reach ⟨Nat.le_of_ble_eq_true rfl, Nat.le_of_ble_eq_true rfl⟩ ⟨rfl, rfl⟩ (Nat.le_of_ble_eq_true rfl) ⟨Nat.le_of_ble_eq_true rfl, Nat.le_of_ble_eq_true rfl⟩ (by omega) (ce1 rfl) rfl rfl dX0_onFirstRow_52 rfl ?_
      refine wp_aload_n_0 (pc' := 56) dX0_onFirstRow_55 rfl ?_
      refine wp_get_0_3 (pc' := 59) (by omega) rfl rfl me_X0_onFirstRow_1 ic_X0_onFirstRow_0 dX0_onFirstRow_56 rfl ?_
      refine wp_iload_5 (pc' := 61) dX0_onFirstRow_59 rfl ?_
      refine wp_iald (pc' := 62) (N := 5) (by omega) rfl rfl (by first | exact vp_in_nI (by omega) (by omega) | assumption | (unfold vp_in; decide)) dX0_onFirstRow_61 rfl ?_
      rw [nI_clamp (by omega), bk (i + 1) (by omega)]
      refine wp_iand (pc' := 63) dX0_onFirstRow_62 rfl ?_
      rw [S_and]
      refine wp_callSu (pc' := 66) (c_X0_lowest _) gX0_onFirstRow_X0_lowest rfl rfl hz_X0_lowest ⟨Nat.le_of_ble_eq_true rfl, Nat.le_of_ble_eq_true rfl⟩ ⟨rfl, rfl⟩ (Nat.le_of_ble_eq_true rfl) ⟨Nat.le_of_ble_eq_true rfl, Nat.le_of_ble_eq_true rfl⟩ rfl dX0_onFirstRow_63 rfl ?_
      refine wp_istore_4 (pc' := 68) dX0_onFirstRow_66 (by decide) rfl rfl ?_
      refine wp_iinc_5 (pc' := 71) (v := nI (i + 1 + 1)) dX0_onFirstRow_68 (by first | rfl | exact nI_1 _) (by decide) rfl rfl ?_
      refine wp_goto (tgt := 20) dX0_onFirstRow_71 rfl ?_
      have z := ih (i + 1) (by omega)
      rw [show fxO (kw ρ w) R C mk (tm ρ w) (sw ρ w) (i + 1) = lowO (fun y => rch (kw ρ w) R C (fun z => decide (z = x)) y && bw (kw ρ w) R C mk (tm ρ w) (sw ρ w) (sw ρ w - 1 - (i + 1)) y) by simp only [fxO]; rw [hx]; rfl] at z
      exact z
theorem c_X0_onFirstRow {s w k R C : Nat} {mk ρ : Nat → Nat} (hn : 89 ≤ n) (hs : St s) (q : ShL h 11 R C) (sp : Sp h R C mk) (xr : XR h s ρ) (ok : RowOK ρ) (hw : w < ρ 16) (hk : k < sw ρ w) : Ctr l D cy B yX0_onFirstRow wsX0_onFirstRow rmX0_onFirstRow 0 0 n (rf0 π) h lg [.ref (B + 10), .ref (B + s), .int (nI w), .int (nI k)] (qI (fun x h' => x = enc (fxO (kw ρ w) R C mk (tm ρ w) (sw ρ w) k) ∧ (∀ a, a ≠ 15 → h' a = h a)) (rf0 π) lg) := by
  obtain ⟨w5, hk3, hs2, hs5⟩ := ok.w hw
  refine Ctr.of (cc := cX0_onFirstRow) (nL := 6) (own := RX0) (rt := (some .int)) (ls := [some (.ref (B + 10)), some (.ref (B + s)), some (.int (nI w)), some (.int (nI k)), none, none]) (by decide) rfl rfl (Nat.le_of_ble_eq_true rfl) rfl ?_
  refine wp_aload_n_0 (pc' := 1) dX0_onFirstRow_0 rfl ?_
  refine wp_aload_n_1 (pc' := 2) dX0_onFirstRow_1 rfl ?_
  refine wp_iload_n_2 (pc' := 3) dX0_onFirstRow_2 rfl ?_
  refine wp_callVv (pc' := 6) (c_X0_goBack hn hs q sp xr ok hw) gX0_onFirstRow_X0_goBack rfl rfl hy_X0_goBack ⟨Nat.le_of_ble_eq_true rfl, Nat.le_of_ble_eq_true rfl⟩ ⟨rfl, rfl⟩ (Nat.le_of_ble_eq_true rfl) ⟨Nat.le_of_ble_eq_true rfl, Nat.le_of_ble_eq_true rfl⟩ (by omega) (ce0 rfl) rfl rfl dX0_onFirstRow_3 rfl (fun h3 q3 => ?_)
  obtain ⟨e0, e1⟩ := q3
  refine wp_aload_n_0 (pc' := 7) dX0_onFirstRow_6 rfl ?_
  refine wp_get_0_3 (pc' := 10) (by omega) rfl rfl me_X0_onFirstRow_1 ic_X0_onFirstRow_0 dX0_onFirstRow_7 rfl ?_
  refine wp_iconst (pc' := 11) (0) dX0_onFirstRow_10 rfl (by decide) ?_
  refine wp_iald (pc' := 12) (N := 5) (by omega) rfl rfl (by first | exact vp_in_nI (by omega) (by omega) | assumption | (unfold vp_in; decide)) dX0_onFirstRow_11 rfl ?_
  rw [show (0 : Int32).toNatClampNeg = 0 from rfl, e1 0 (by omega)]
  refine wp_callSu (pc' := 15) (c_X0_lowest _) gX0_onFirstRow_X0_lowest rfl rfl hz_X0_lowest ⟨Nat.le_of_ble_eq_true rfl, Nat.le_of_ble_eq_true rfl⟩ ⟨rfl, rfl⟩ (Nat.le_of_ble_eq_true rfl) ⟨Nat.le_of_ble_eq_true rfl, Nat.le_of_ble_eq_true rfl⟩ rfl dX0_onFirstRow_12 rfl ?_
  refine wp_istore_4 (pc' := 17) dX0_onFirstRow_15 (by decide) rfl rfl ?_
  refine wp_iconst (pc' := 18) (1) dX0_onFirstRow_17 rfl (by decide) ?_
  refine wp_istore_5 (pc' := 20) dX0_onFirstRow_18 (by decide) rfl rfl ?_
  refine lp_X0_onFirstRow (h := h3) (mk := mk) hn hs (q.of_eq (e0 11 (by decide))) (xr.congr (fun a h1 h2 => e0 a (by have := hs.zone h1 h2; omega))) ok hw hk e1 (fun a5 => ?_) k 0 (by omega)
  refine wp_iload_4 (pc' := 76) dX0_onFirstRow_74 rfl ?_
  refine wp_ireturn dX0_onFirstRow_76 rfl rfl (Nat.le_refl _) (Nat.le_refl _) ?_
  exact qI_of ⟨rfl, e0⟩
end VF3

