abbrev rmX8_apart : Room := { frames := 0, cells := 0, slots := 0, locals := 0 }
theorem hy_X8_apart : yX8_apart.cls = RX8 ∧ yX8_apart.cls ≠ "java/lang/invoke/MethodHandle" ∧ yX8_apart.cls ≠ "java/lang/invoke/VarHandle" ∧ (parseMethodDescriptor yX8_apart.desc).map (fun d => d.parameters.length) = some 2 := by decide +kernel
theorem hz_X8_apart : yX8_apart.cls ≠ "java/lang/invoke/MethodHandle" ∧ yX8_apart.cls ≠ "java/lang/invoke/VarHandle" ∧ (parseMethodDescriptor yX8_apart.desc).map (fun d => d.parameters.length) = some 2 := by decide +kernel
abbrev rmX8_goes : Room := { frames := 1, cells := 0, slots := 0, locals := 24 }
theorem hy_X8_goes : yX8_goes.cls = RX8 ∧ yX8_goes.cls ≠ "java/lang/invoke/MethodHandle" ∧ yX8_goes.cls ≠ "java/lang/invoke/VarHandle" ∧ (parseMethodDescriptor yX8_goes.desc).map (fun d => d.parameters.length) = some 2 := by decide +kernel
theorem hz_X8_goes : yX8_goes.cls ≠ "java/lang/invoke/MethodHandle" ∧ yX8_goes.cls ≠ "java/lang/invoke/VarHandle" ∧ (parseMethodDescriptor yX8_goes.desc).map (fun d => d.parameters.length) = some 2 := by decide +kernel
abbrev rmX8_in : Room := { frames := 0, cells := 0, slots := 0, locals := 0 }
theorem hy_X8_in : yX8_in.cls = RX8 ∧ yX8_in.cls ≠ "java/lang/invoke/MethodHandle" ∧ yX8_in.cls ≠ "java/lang/invoke/VarHandle" ∧ (parseMethodDescriptor yX8_in.desc).map (fun d => d.parameters.length) = some 3 := by decide +kernel
theorem hz_X8_in : yX8_in.cls ≠ "java/lang/invoke/MethodHandle" ∧ yX8_in.cls ≠ "java/lang/invoke/VarHandle" ∧ (parseMethodDescriptor yX8_in.desc).map (fun d => d.parameters.length) = some 3 := by decide +kernel
abbrev rmX8_isPlace : Room := { frames := 1, cells := 0, slots := 0, locals := 25 }
theorem hy_X8_isPlace : yX8_isPlace.cls = RX8 ∧ yX8_isPlace.cls ≠ "java/lang/invoke/MethodHandle" ∧ yX8_isPlace.cls ≠ "java/lang/invoke/VarHandle" ∧ (parseMethodDescriptor yX8_isPlace.desc).map (fun d => d.parameters.length) = some 1 := by decide +kernel
theorem hz_X8_isPlace : yX8_isPlace.cls ≠ "java/lang/invoke/MethodHandle" ∧ yX8_isPlace.cls ≠ "java/lang/invoke/VarHandle" ∧ (parseMethodDescriptor yX8_isPlace.desc).map (fun d => d.parameters.length) = some 1 := by decide +kernel
abbrev rmX8_isWalk : Room := { frames := 1, cells := 0, slots := 0, locals := 25 }
theorem hy_X8_isWalk : yX8_isWalk.cls = RX8 ∧ yX8_isWalk.cls ≠ "java/lang/invoke/MethodHandle" ∧ yX8_isWalk.cls ≠ "java/lang/invoke/VarHandle" ∧ (parseMethodDescriptor yX8_isWalk.desc).map (fun d => d.parameters.length) = some 1 := by decide +kernel
theorem hz_X8_isWalk : yX8_isWalk.cls ≠ "java/lang/invoke/MethodHandle" ∧ yX8_isWalk.cls ≠ "java/lang/invoke/VarHandle" ∧ (parseMethodDescriptor yX8_isWalk.desc).map (fun d => d.parameters.length) = some 1 := by decide +kernel
abbrev rmX8_kindOf : Room := { frames := 0, cells := 0, slots := 0, locals := 0 }
theorem hy_X8_kindOf : yX8_kindOf.cls = RX8 ∧ yX8_kindOf.cls ≠ "java/lang/invoke/MethodHandle" ∧ yX8_kindOf.cls ≠ "java/lang/invoke/VarHandle" ∧ (parseMethodDescriptor yX8_kindOf.desc).map (fun d => d.parameters.length) = some 1 := by decide +kernel
theorem hz_X8_kindOf : yX8_kindOf.cls ≠ "java/lang/invoke/MethodHandle" ∧ yX8_kindOf.cls ≠ "java/lang/invoke/VarHandle" ∧ (parseMethodDescriptor yX8_kindOf.desc).map (fun d => d.parameters.length) = some 1 := by decide +kernel
abbrev rmX8_marksOf : Room := { frames := 0, cells := 0, slots := 0, locals := 0 }
theorem hy_X8_marksOf : yX8_marksOf.cls = RX8 ∧ yX8_marksOf.cls ≠ "java/lang/invoke/MethodHandle" ∧ yX8_marksOf.cls ≠ "java/lang/invoke/VarHandle" ∧ (parseMethodDescriptor yX8_marksOf.desc).map (fun d => d.parameters.length) = some 1 := by decide +kernel
theorem hz_X8_marksOf : yX8_marksOf.cls ≠ "java/lang/invoke/MethodHandle" ∧ yX8_marksOf.cls ≠ "java/lang/invoke/VarHandle" ∧ (parseMethodDescriptor yX8_marksOf.desc).map (fun d => d.parameters.length) = some 1 := by decide +kernel
abbrev rmX8_places : Room := { frames := 0, cells := 0, slots := 0, locals := 0 }
theorem hy_X8_places : yX8_places.cls = RX8 ∧ yX8_places.cls ≠ "java/lang/invoke/MethodHandle" ∧ yX8_places.cls ≠ "java/lang/invoke/VarHandle" ∧ (parseMethodDescriptor yX8_places.desc).map (fun d => d.parameters.length) = some 0 := by decide +kernel
theorem hz_X8_places : yX8_places.cls ≠ "java/lang/invoke/MethodHandle" ∧ yX8_places.cls ≠ "java/lang/invoke/VarHandle" ∧ (parseMethodDescriptor yX8_places.desc).map (fun d => d.parameters.length) = some 0 := by decide +kernel
theorem me_X8_places_0 : Cond.fieldLink RX8 13 "DrawnByLostModel" "sizes" "[I" ∈ wsX8_places := by decide +kernel
theorem me_X8_isWalk_0 : Cond.fieldLink RX8 19 "DrawnByLostModel" "now" "[I" ∈ wsX8_isWalk := by decide +kernel
theorem me_X8_kindOf_0 : Cond.fieldLink RX8 19 "DrawnByLostModel" "now" "[I" ∈ wsX8_kindOf := by decide +kernel
theorem me_X8_marksOf_0 : Cond.fieldLink RX8 19 "DrawnByLostModel" "now" "[I" ∈ wsX8_marksOf := by decide +kernel
theorem me_X8_apart_0 : Cond.fieldLink RX8 13 "DrawnByLostModel" "sizes" "[I" ∈ wsX8_apart := by decide +kernel
theorem me_X8_goes_0 : Cond.fieldLink RX8 158 "DrawnByLostModel" "kind" "I" ∈ wsX8_goes := by decide +kernel
theorem ic_X8_places_8 : ∀ w ∈ wsX80, w ∈ wsX8_places := by decide +kernel
theorem ic_X8_isWalk_8 : ∀ w ∈ wsX80, w ∈ wsX8_isWalk := by decide +kernel
theorem ic_X8_kindOf_8 : ∀ w ∈ wsX80, w ∈ wsX8_kindOf := by decide +kernel
theorem ic_X8_marksOf_8 : ∀ w ∈ wsX80, w ∈ wsX8_marksOf := by decide +kernel
theorem ic_X8_apart_8 : ∀ w ∈ wsX80, w ∈ wsX8_apart := by decide +kernel
theorem ic_X8_goes_8 : ∀ w ∈ wsX80, w ∈ wsX8_goes := by decide +kernel
-- the reference: its cells over the state; places, walks
section VM1
variable {l : Launch} {D : va_G} {cy : CY} {B n : Nat} {h : Hp} {lg : Lg} {π : Nat → Nat}
theorem c_X8_in (a b c : Int64) : Ctr l D cy B yX8_in wsX8_in rmX8_in 0 0 n (rf0 π) h lg [.long a, .long b, .long c] (uI (b2i (decide (b ≤ a ∧ a ≤ c))) (rf0 π) h lg) := by
  refine Ctr.of (cc := cX8_in) (nL := 6) (own := RX8) (rt := (some .boolean)) (ls := [some (.long a), none, some (.long b), none, some (.long c), none]) (by decide) rfl rfl (Nat.le_of_ble_eq_true rfl) rfl ?_
  refine wp_lload_n_0 (pc' := 1) dX8_in_0 rfl ?_
  refine wp_lload_n_2 (pc' := 2) dX8_in_1 rfl ?_
  refine wp_lcmp (pc' := 3) dX8_in_2 rfl ?_
  refine wp_if_lt (pc' := 6) (tgt := 17) dX8_in_3 rfl rfl (fun c3 => ?_) (fun c3 => ?_)
  · skip -- 3 taken
    rw [lg_cmp_lt] at c3
    refine wp_iconst (pc' := 18) (0) dX8_in_17 rfl (by decide) ?_
    refine wp_zreturn (by decide) dX8_in_18 rfl rfl (Nat.le_refl _) (Nat.le_refl _) ?_
    exact uI_of (b2i_f (fun z => absurd z.1 (Int64.not_le.mpr c3)))
  · skip -- 3 not taken
    rw [lg_cmp_lt] at c3
    refine wp_lload_n_0 (pc' := 7) dX8_in_6 rfl ?_
    refine wp_lload_4 (pc' := 9) dX8_in_7 rfl ?_
    refine wp_lcmp (pc' := 10) dX8_in_9 rfl ?_
    refine wp_if_gt (pc' := 13) (tgt := 17) dX8_in_10 rfl rfl (fun c10 => ?_) (fun c10 => ?_)
    · skip -- 10 taken
      rw [lg_cmp_gt] at c10
      refine wp_iconst (pc' := 18) (0) dX8_in_17 rfl (by decide) ?_
      refine wp_zreturn (by decide) dX8_in_18 rfl rfl (Nat.le_refl _) (Nat.le_refl _) ?_
      exact uI_of (b2i_f (fun z => absurd z.2 (Int64.not_le.mpr c10)))
    · skip -- 10 not taken
      rw [lg_cmp_gt] at c10
      refine wp_iconst (pc' := 14) (1) dX8_in_13 rfl (by decide) ?_
      refine wp_goto (tgt := 18) dX8_in_14 rfl ?_
      refine wp_zreturn (by decide) dX8_in_18 rfl rfl (Nat.le_refl _) (Nat.le_refl _) ?_
      exact uI_of (b2i_t ⟨Int64.not_lt.mp c3, Int64.not_lt.mp c10⟩)
theorem c_in_rg (x : Int32) {lo hi : Nat} (h1 : lo < 2 ^ 31) (h2 : hi < 2 ^ 31) : Ctr l D cy B yX8_in wsX8_in rmX8_in 0 0 n (rf0 π) h lg [.long x.toInt64, .long (lI lo), .long (lI hi)] (uI (b2i (rg x lo hi).isSome) (rf0 π) h lg) := by
  have z := c_X8_in (l := l) (D := D) (cy := cy) (B := B) (n := n) (h := h) (lg := lg) (π := π) x.toInt64 (lI lo) (lI hi)
  rw [show (rg x lo hi).isSome = decide (lI lo ≤ x.toInt64 ∧ x.toInt64 ≤ lI hi) by
    rw [Bool.eq_iff_iff, decide_eq_true_eq, Int64.le_iff_toInt_le, Int64.le_iff_toInt_le, Int32.toInt_toInt64, lI_toInt (by omega), lI_toInt (by omega)]
    unfold rg
    split
    · rename_i q; exact ⟨fun _ => q, fun _ => rfl⟩
    · rename_i q; exact ⟨fun z => absurd z (by simp), fun z => absurd z q⟩]
  exact z
theorem c_in_ix (x : Int32) {W : Nat} (hW : W ≤ 1000) : Ctr l D cy B yX8_in wsX8_in rmX8_in 0 0 n (rf0 π) h lg [.long x.toInt64, .long 0, .long (nI W - 1).toInt64] (uI (b2i (ix x W).isSome) (rf0 π) h lg) := by
  have z := c_X8_in (l := l) (D := D) (cy := cy) (B := B) (n := n) (h := h) (lg := lg) (π := π) x.toInt64 0 (nI W - 1).toInt64
  rw [show (ix x W).isSome = decide (0 ≤ x.toInt64 ∧ x.toInt64 ≤ (nI W - 1).toInt64) by
    rw [Bool.eq_iff_iff, decide_eq_true_eq, Int64.le_iff_toInt_le, Int64.le_iff_toInt_le, Int32.toInt_toInt64, Int32.toInt_toInt64, ix_iff, show (1 : Int32) = nI 1 from rfl, pk_sub_toInt (by omega) (by omega), show (0 : Int64).toInt = 0 by decide]
    constructor
    · rintro ⟨z1, z2⟩; exact ⟨z1, by omega⟩
    · rintro ⟨z1, z2⟩; exact ⟨z1, by omega⟩]
  exact z
theorem rg_ix {x : Int32} {W : Nat} : rg x 0 W = ix x (W + 1) := by
  unfold rg ix
  by_cases z : 0 ≤ x.toInt ∧ x.toInt < ((W + 1 : Nat) : Int)
  · rw [if_pos z, if_pos ⟨by omega, by omega⟩]
  · rw [if_neg z, if_neg (fun q => z ⟨by omega, by omega⟩)]
def ShM (h : Hp) (R C : Nat) : Prop := Sh R C ∧ h 91 0 = nI R ∧ h 91 1 = nI C
theorem ShM.of {h h' : Hp} {R C : Nat} (q : ShM h R C) (e0 : h' 91 0 = h 91 0) (e1 : h' 91 1 = h 91 1) : ShM h' R C := ⟨q.1, e0.trans q.2.1, e1.trans q.2.2⟩
def NR (h : Hp) (c : Nat) (ρ : Nat → Nat) : Prop := ∀ k, k < 52 → h c k = nI (ρ k)
def BR (h : Hp) (c m : Nat) (f : Nat → Nat → Nat) : Prop := ∀ i, i < m → ∀ k, k < 52 → h c (52 * i + k) = nI (f i k)
def TM (h : Hp) (len : Nat) (tx : Nat → Nat) : Prop := h 89 0 = nI len ∧ len ≤ 200 ∧ ∀ i, i < len → h 90 i = nI (tx i) ∧ 32 ≤ tx i ∧ tx i ≤ 126
def HM (h : Hp) (hu : Nat → Nat) : Prop := ∀ m, m < 6 → h 92 m = nI (hu m) ∧ 1 ≤ hu m ∧ hu m ≤ 9
def MI (h : Hp) (σ : Sg) : Prop := TM h σ.len σ.tx ∧ ShM h σ.R σ.C ∧ HM h σ.hu ∧ RowOK σ.ρ ∧ NR h 93 σ.ρ ∧ (h 89 7 = nI σ.nu ∧ σ.nu ≤ 8 ∧ (∀ i, i < σ.nu → RowOK (σ.bf i)) ∧ BR h 95 σ.nu σ.bf) ∧ (h 89 9 = nI σ.nk ∧ σ.nk ≤ 2 ∧ (∀ i, i < σ.nk → RowOK (σ.kp i)) ∧ BR h 96 σ.nk σ.kp)
/-- what the reference's own reckoning leaves as it was -/
def MF (h' h : Hp) : Prop := (∀ a, a < 89 ∨ (90 ≤ a ∧ a ≤ 96) ∨ a = 104 → h' a = h a) ∧ h' 89 0 = h 89 0 ∧ h' 89 7 = h 89 7 ∧ h' 89 9 = h 89 9
theorem MF.rf (h : Hp) : MF h h := ⟨fun _ _ => rfl, rfl, rfl, rfl⟩
theorem MF.tr {h1 h2 h3 : Hp} (a : MF h3 h2) (b : MF h2 h1) : MF h3 h1 := ⟨fun c hc => (a.1 c hc).trans (b.1 c hc), a.2.1.trans b.2.1, a.2.2.1.trans b.2.2.1, a.2.2.2.trans b.2.2.2⟩
theorem MF.hi {h1 h2 : Hp} (e : ∀ a, a < 97 ∨ a = 104 → h2 a = h1 a) : MF h2 h1 := ⟨fun c hc => e c (by omega), by rw [e 89 (by omega)], by rw [e 89 (by omega)], by rw [e 89 (by omega)]⟩
theorem MF.sh {h' h : Hp} {R C : Nat} (f : MF h' h) (q : ShM h R C) : ShM h' R C := q.of (by rw [f.1 91 (by omega)]) (by rw [f.1 91 (by omega)])
theorem MF.nr {h' h : Hp} {ρ : Nat → Nat} (f : MF h' h) (q : NR h 93 ρ) : NR h' 93 ρ := fun k hk => by rw [f.1 93 (by omega)]; exact q k hk
theorem MF.hm {h' h : Hp} {ρ : Nat → Nat} (f : MF h' h) (q : HM h ρ) : HM h' ρ := fun k hk => by rw [f.1 92 (by omega)]; exact q k hk
theorem MI.mf {h' h : Hp} {σ : Sg} (X : MI h σ) (f : MF h' h) : MI h' σ := by
  obtain ⟨⟨a1, a2, a3⟩, x2, x3, x4, x5, ⟨b1, b2, b3, b4⟩, ⟨c1, c2, c3, c4⟩⟩ := X
  exact ⟨⟨f.2.1.trans a1, a2, by rw [f.1 90 (by omega)]; exact a3⟩, f.sh x2, f.hm x3, x4, f.nr x5, ⟨f.2.2.1.trans b1, b2, b3, by unfold BR; rw [f.1 95 (by omega)]; exact b4⟩, ⟨f.2.2.2.trans c1, c2, c3, by unfold BR; rw [f.1 96 (by omega)]; exact c4⟩⟩
/-- a call of the reference: its answer, the state behind it -/
def ZQ (π : Nat → Nat) (h : Hp) (a : Int32) (σ : Sg) : PO := fun v r1 h1 _ => v = some (.int a) ∧ r1 = rf0 π ∧ MI h1 σ ∧ ∀ k, k < 89 → h1 k = h k
theorem ZQ.of {h h1 : Hp} {lg1 : Lg} {a b : Int32} {σ : Sg} (e : b = a) (X : MI h1 σ) (f : ∀ k, k < 89 → h1 k = h k) : ZQ π h a σ (some (.int b)) (rf0 π) h1 lg1 := ⟨by rw [e], rfl, X, f⟩
theorem ZQ.mf {h h1 : Hp} {lg1 : Lg} {a b : Int32} {σ : Sg} (e : b = a) (X : MI h σ) (f : MF h1 h) : ZQ π h a σ (some (.int b)) (rf0 π) h1 lg1 := ZQ.of e (X.mf f) (fun k hk => f.1 k (Or.inl hk))
theorem ZQ.id {h : Hp} {lg1 : Lg} {a b : Int32} {σ : Sg} (e : b = a) (X : MI h σ) : ZQ π h a σ (some (.int b)) (rf0 π) h lg1 := ZQ.mf e X (MF.rf h)
theorem c_X8_places {R C : Nat} (hn : 105 ≤ n) (q : ShM h R C) : Ctr l D cy B yX8_places wsX8_places rmX8_places 0 0 n (rf0 π) h lg [.ref (B + 89)] (uI (nI (R * C)) (rf0 π) h lg) := by
  refine Ctr.of (cc := cX8_places) (nL := 1) (own := RX8) (rt := (some .int)) (ls := [some (.ref (B + 89))]) (by decide) rfl rfl (Nat.le_of_ble_eq_true rfl) rfl ?_
  refine wp_aload_n_0 (pc' := 1) dX8_places_0 rfl ?_
  refine wp_get_8_2 (pc' := 4) (by omega) rfl rfl me_X8_places_0 ic_X8_places_8 dX8_places_1 rfl ?_
  refine wp_iconst (pc' := 5) (0) dX8_places_4 rfl (by decide) ?_
  refine wp_iald (pc' := 6) (N := 4) (by omega) rfl rfl (by first | exact vp_in_nI (by omega) (by omega) | assumption | (unfold vp_in; decide)) dX8_places_5 rfl ?_
  refine wp_aload_n_0 (pc' := 7) dX8_places_6 rfl ?_
  refine wp_get_8_2 (pc' := 10) (by omega) rfl rfl me_X8_places_0 ic_X8_places_8 dX8_places_7 rfl ?_
  refine wp_iconst (pc' := 11) (1) dX8_places_10 rfl (by decide) ?_
  refine wp_iald (pc' := 12) (N := 4) (by omega) rfl rfl (by first | exact vp_in_nI (by omega) (by omega) | assumption | (unfold vp_in; decide)) dX8_places_11 rfl ?_
  refine wp_imul (pc' := 13) dX8_places_12 rfl ?_
  refine wp_ireturn dX8_places_13 rfl rfl (Nat.le_refl _) (Nat.le_refl _) ?_
  exact uI_of (by rw [show (0 : Int32).toNatClampNeg = 0 from rfl, show (1 : Int32).toNatClampNeg = 1 from rfl, q.2.1, q.2.2, nI_mul])
theorem c_X8_isPlace {R C : Nat} (hn : 105 ≤ n) (q : ShM h R C) (x : Int32) : Ctr l D cy B yX8_isPlace wsX8_isPlace rmX8_isPlace 0 0 n (rf0 π) h lg [.ref (B + 89), .int x] (uI (b2i (ix x (R * C)).isSome) (rf0 π) h lg) := by
  have hl := q.1.le
  refine Ctr.of (cc := cX8_isPlace) (nL := 2) (own := RX8) (rt := (some .boolean)) (ls := [some (.ref (B + 89)), some (.int x)]) (by decide) rfl rfl (Nat.le_of_ble_eq_true rfl) rfl ?_
  refine wp_iload_n_1 (pc' := 1) dX8_isPlace_0 rfl ?_
  refine wp_i2l (pc' := 2) dX8_isPlace_1 rfl ?_
  refine wp_lconst (pc' := 3) (0) dX8_isPlace_2 rfl (by decide) ?_
  refine wp_aload_n_0 (pc' := 4) dX8_isPlace_3 rfl ?_
  refine wp_callVu (pc' := 7) (c_X8_places hn q) gX8_isPlace_X8_places rfl rfl hy_X8_places ⟨Nat.le_of_ble_eq_true rfl, Nat.le_of_ble_eq_true rfl⟩ ⟨rfl, rfl⟩ (Nat.le_of_ble_eq_true rfl) ⟨Nat.le_of_ble_eq_true rfl, Nat.le_of_ble_eq_true rfl⟩ (by omega) (ce8 rfl) rfl rfl dX8_isPlace_4 rfl ?_
  refine wp_iconst (pc' := 8) (1) dX8_isPlace_7 rfl (by decide) ?_
  refine wp_isub (pc' := 9) dX8_isPlace_8 rfl ?_
  refine wp_i2l (pc' := 10) dX8_isPlace_9 rfl ?_
  refine wp_callSu (pc' := 13) (c_in_ix x (W := R * C) (by omega)) gX8_isPlace_X8_in rfl rfl hz_X8_in ⟨Nat.le_of_ble_eq_true rfl, Nat.le_of_ble_eq_true rfl⟩ ⟨rfl, rfl⟩ (Nat.le_of_ble_eq_true rfl) ⟨Nat.le_of_ble_eq_true rfl, Nat.le_of_ble_eq_true rfl⟩ rfl dX8_isPlace_10 rfl ?_
  refine wp_zreturn (b2i_nar _) dX8_isPlace_13 rfl rfl (Nat.le_refl _) (Nat.le_refl _) ?_
  exact uI_of rfl
theorem c_X8_isWalk {W : Nat} (hn : 105 ≤ n) (hw : h 93 16 = nI W) (h5 : W ≤ 5) (x : Int32) : Ctr l D cy B yX8_isWalk wsX8_isWalk rmX8_isWalk 0 0 n (rf0 π) h lg [.ref (B + 89), .int x] (uI (b2i (ix x W).isSome) (rf0 π) h lg) := by
  refine Ctr.of (cc := cX8_isWalk) (nL := 2) (own := RX8) (rt := (some .boolean)) (ls := [some (.ref (B + 89)), some (.int x)]) (by decide) rfl rfl (Nat.le_of_ble_eq_true rfl) rfl ?_
  refine wp_iload_n_1 (pc' := 1) dX8_isWalk_0 rfl ?_
  refine wp_i2l (pc' := 2) dX8_isWalk_1 rfl ?_
  refine wp_lconst (pc' := 3) (0) dX8_isWalk_2 rfl (by decide) ?_
  refine wp_aload_n_0 (pc' := 4) dX8_isWalk_3 rfl ?_
  refine wp_get_8_4 (pc' := 7) (by omega) rfl rfl me_X8_isWalk_0 ic_X8_isWalk_8 dX8_isWalk_4 rfl ?_
  refine wp_bipush (pc' := 9) (16) dX8_isWalk_7 rfl (by decide) ?_
  refine wp_iald (pc' := 10) (N := 52) (by omega) rfl rfl (by first | exact vp_in_nI (by omega) (by omega) | assumption | (unfold vp_in; decide)) dX8_isWalk_9 rfl ?_
  rw [show (16 : Int32).toNatClampNeg = 16 from rfl, hw]
  refine wp_iconst (pc' := 11) (1) dX8_isWalk_10 rfl (by decide) ?_
  refine wp_isub (pc' := 12) dX8_isWalk_11 rfl ?_
  refine wp_i2l (pc' := 13) dX8_isWalk_12 rfl ?_
  refine wp_callSu (pc' := 16) (c_in_ix x (W := W) (by omega)) gX8_isWalk_X8_in rfl rfl hz_X8_in ⟨Nat.le_of_ble_eq_true rfl, Nat.le_of_ble_eq_true rfl⟩ ⟨rfl, rfl⟩ (Nat.le_of_ble_eq_true rfl) ⟨Nat.le_of_ble_eq_true rfl, Nat.le_of_ble_eq_true rfl⟩ rfl dX8_isWalk_13 rfl ?_
  refine wp_zreturn (b2i_nar _) dX8_isWalk_16 rfl rfl (Nat.le_refl _) (Nat.le_refl _) ?_
  exact uI_of rfl
theorem nI_7w (w : Nat) : (17 : Int32) + 7 * nI w = nI (17 + 7 * w) := by
  rw [show (7 : Int32) = nI 7 from rfl, nI_mul, show (17 : Int32) = nI 17 from rfl, nI_add]
theorem c_X8_kindOf {w : Nat} {ρ : Nat → Nat} (hn : 105 ≤ n) (nr : NR h 93 ρ) (hw : w < 5) : Ctr l D cy B yX8_kindOf wsX8_kindOf rmX8_kindOf 0 0 n (rf0 π) h lg [.ref (B + 89), .int (nI w)] (uI (nI (kw ρ w)) (rf0 π) h lg) := by
  refine Ctr.of (cc := cX8_kindOf) (nL := 2) (own := RX8) (rt := (some .int)) (ls := [some (.ref (B + 89)), some (.int (nI w))]) (by decide) rfl rfl (Nat.le_of_ble_eq_true rfl) rfl ?_
  refine wp_aload_n_0 (pc' := 1) dX8_kindOf_0 rfl ?_
  refine wp_get_8_4 (pc' := 4) (by omega) rfl rfl me_X8_kindOf_0 ic_X8_kindOf_8 dX8_kindOf_1 rfl ?_
  refine wp_bipush (pc' := 6) (17) dX8_kindOf_4 rfl (by decide) ?_
  refine wp_bipush (pc' := 8) (7) dX8_kindOf_6 rfl (by decide) ?_
  refine wp_iload_n_1 (pc' := 9) dX8_kindOf_8 rfl ?_
  refine wp_imul (pc' := 10) dX8_kindOf_9 rfl ?_
  refine wp_iadd (pc' := 11) dX8_kindOf_10 rfl ?_
  rw [nI_7w]
  refine wp_iald (pc' := 12) (N := 52) (by omega) rfl rfl (by first | exact vp_in_nI (by omega) (by omega) | assumption | (unfold vp_in; decide)) dX8_kindOf_11 rfl ?_
  refine wp_ireturn dX8_kindOf_12 rfl rfl (Nat.le_refl _) (Nat.le_refl _) ?_
  exact uI_of (by rw [nI_clamp (by omega)]; exact nr _ (by omega))
theorem c_X8_marksOf {w : Nat} {ρ : Nat → Nat} (hn : 105 ≤ n) (nr : NR h 93 ρ) (hw : w < 5) : Ctr l D cy B yX8_marksOf wsX8_marksOf rmX8_marksOf 0 0 n (rf0 π) h lg [.ref (B + 89), .int (nI w)] (uI (nI (sw ρ w)) (rf0 π) h lg) := by
  refine Ctr.of (cc := cX8_marksOf) (nL := 2) (own := RX8) (rt := (some .int)) (ls := [some (.ref (B + 89)), some (.int (nI w))]) (by decide) rfl rfl (Nat.le_of_ble_eq_true rfl) rfl ?_
  refine wp_aload_n_0 (pc' := 1) dX8_marksOf_0 rfl ?_
  refine wp_get_8_4 (pc' := 4) (by omega) rfl rfl me_X8_marksOf_0 ic_X8_marksOf_8 dX8_marksOf_1 rfl ?_
  refine wp_bipush (pc' := 6) (17) dX8_marksOf_4 rfl (by decide) ?_
  refine wp_bipush (pc' := 8) (7) dX8_marksOf_6 rfl (by decide) ?_
  refine wp_iload_n_1 (pc' := 9) dX8_marksOf_8 rfl ?_
  refine wp_imul (pc' := 10) dX8_marksOf_9 rfl ?_
  refine wp_iadd (pc' := 11) dX8_marksOf_10 rfl ?_
  rw [nI_7w]
  refine wp_iconst (pc' := 12) (1) dX8_marksOf_11 rfl (by decide) ?_
  refine wp_iadd (pc' := 13) dX8_marksOf_12 rfl ?_
  rw [nI_1, show 17 + 7 * w + 1 = 18 + 7 * w by omega]
  refine wp_iald (pc' := 14) (N := 52) (by omega) rfl rfl (by first | exact vp_in_nI (by omega) (by omega) | assumption | (unfold vp_in; decide)) dX8_marksOf_13 rfl ?_
  refine wp_ireturn dX8_marksOf_14 rfl rfl (Nat.le_refl _) (Nat.le_refl _) ?_
  exact uI_of (by rw [nI_clamp (by omega)]; exact nr _ (by omega))
theorem sub_neg' {a b : Nat} (ha : a < 1000) (hb : b < 1000) : (if nI a - nI b < 0 then -(nI a - nI b) else nI a - nI b) = nI ((a - b) + (b - a)) := by
  by_cases q : a < b
  · rw [if_pos (pk_sneg (by omega) q), Int32.neg_sub, nI_sub (by omega)]; congr 1; omega
  · rw [nI_sub (by omega), if_neg (nI_pos (by omega))]; congr 1; omega
theorem c_X8_apart {R C x y : Nat} (hn : 105 ≤ n) (q : ShM h R C) (hx : x < 16) (hy : y < 16) : Ctr l D cy B yX8_apart wsX8_apart rmX8_apart 0 0 n (rf0 π) h lg [.ref (B + 89), .int (nI x), .int (nI y)] (uI (nI (apt C x y)) (rf0 π) h lg) := by
  have hC2 := q.1.2.2.1
  have hC4 := q.1.2.2.2
  have hne : ¬ nI C = 0 := nI_ne0 (by omega) (by omega)
  have d1 := Nat.div_le_self x C
  have d2 := Nat.div_le_self y C
  have m1 := Nat.mod_lt x (show 0 < C by omega)
  have m2 := Nat.mod_lt y (show 0 < C by omega)
  have s1 := sub_neg' (a := x / C) (b := y / C) (by omega) (by omega)
  have s2 := sub_neg' (a := x % C) (b := y % C) (by omega) (by omega)
  have fin : nI (x / C - y / C + (y / C - x / C)) + nI (x % C - y % C + (y % C - x % C)) = nI (apt C x y) := by rw [nI_add]; rfl
  refine Ctr.of (cc := cX8_apart) (nL := 5) (own := RX8) (rt := (some .int)) (ls := [some (.ref (B + 89)), some (.int (nI x)), some (.int (nI y)), none, none]) (by decide) rfl rfl (Nat.le_of_ble_eq_true rfl) rfl ?_
  refine wp_iload_n_1 (pc' := 1) dX8_apart_0 rfl ?_
  refine wp_aload_n_0 (pc' := 2) dX8_apart_1 rfl ?_
  refine wp_get_8_2 (pc' := 5) (by omega) rfl rfl me_X8_apart_0 ic_X8_apart_8 dX8_apart_2 rfl ?_
  refine wp_iconst (pc' := 6) (1) dX8_apart_5 rfl (by decide) ?_
  refine wp_iald (pc' := 7) (N := 4) (by omega) rfl rfl (by first | exact vp_in_nI (by omega) (by omega) | assumption | (unfold vp_in; decide)) dX8_apart_6 rfl ?_
  rw [show (1 : Int32).toNatClampNeg = 1 from rfl, q.2.2]
  refine wp_idiv (pc' := 8) dX8_apart_7 rfl hne ?_
  rw [pk_div (by omega) (by omega) (by omega)]
  refine wp_iload_n_2 (pc' := 9) dX8_apart_8 rfl ?_
  refine wp_aload_n_0 (pc' := 10) dX8_apart_9 rfl ?_
  refine wp_get_8_2 (pc' := 13) (by omega) rfl rfl me_X8_apart_0 ic_X8_apart_8 dX8_apart_10 rfl ?_
  refine wp_iconst (pc' := 14) (1) dX8_apart_13 rfl (by decide) ?_
  refine wp_iald (pc' := 15) (N := 4) (by omega) rfl rfl (by first | exact vp_in_nI (by omega) (by omega) | assumption | (unfold vp_in; decide)) dX8_apart_14 rfl ?_
  rw [show (1 : Int32).toNatClampNeg = 1 from rfl, q.2.2]
  refine wp_idiv (pc' := 16) dX8_apart_15 rfl hne ?_
  rw [pk_div (by omega) (by omega) (by omega)]
  refine wp_isub (pc' := 17) dX8_apart_16 rfl ?_
  refine wp_istore_n_3 (pc' := 18) dX8_apart_17 (by decide) rfl rfl ?_
  refine wp_iload_n_1 (pc' := 19) dX8_apart_18 rfl ?_
  refine wp_aload_n_0 (pc' := 20) dX8_apart_19 rfl ?_
  refine wp_get_8_2 (pc' := 23) (by omega) rfl rfl me_X8_apart_0 ic_X8_apart_8 dX8_apart_20 rfl ?_
  refine wp_iconst (pc' := 24) (1) dX8_apart_23 rfl (by decide) ?_
  refine wp_iald (pc' := 25) (N := 4) (by omega) rfl rfl (by first | exact vp_in_nI (by omega) (by omega) | assumption | (unfold vp_in; decide)) dX8_apart_24 rfl ?_
  rw [show (1 : Int32).toNatClampNeg = 1 from rfl, q.2.2]
  refine wp_irem (pc' := 26) dX8_apart_25 rfl hne ?_
  rw [pk_rem (by omega) (by omega) (by omega)]
  refine wp_iload_n_2 (pc' := 27) dX8_apart_26 rfl ?_
  refine wp_aload_n_0 (pc' := 28) dX8_apart_27 rfl ?_
  refine wp_get_8_2 (pc' := 31) (by omega) rfl rfl me_X8_apart_0 ic_X8_apart_8 dX8_apart_28 rfl ?_
  refine wp_iconst (pc' := 32) (1) dX8_apart_31 rfl (by decide) ?_
  refine wp_iald (pc' := 33) (N := 4) (by omega) rfl rfl (by first | exact vp_in_nI (by omega) (by omega) | assumption | (unfold vp_in; decide)) dX8_apart_32 rfl ?_
  rw [show (1 : Int32).toNatClampNeg = 1 from rfl, q.2.2]
  refine wp_irem (pc' := 34) dX8_apart_33 rfl hne ?_
  rw [pk_rem (by omega) (by omega) (by omega)]
  refine wp_isub (pc' := 35) dX8_apart_34 rfl ?_
  refine wp_istore_4 (pc' := 37) dX8_apart_35 (by decide) rfl rfl ?_
  refine wp_iload_n_3 (pc' := 38) dX8_apart_37 rfl ?_
  refine wp_if_ge (pc' := 41) (tgt := 46) dX8_apart_38 rfl rfl (fun c38 => ?_) (fun c38 => ?_)
  · skip -- 38 taken
    rw [if_neg (Int32.not_lt.mpr c38)] at s1
    refine wp_iload_n_3 (pc' := 47) dX8_apart_46 rfl ?_
    refine wp_iload_4 (pc' := 49) dX8_apart_47 rfl ?_
    refine wp_if_ge (pc' := 52) (tgt := 58) dX8_apart_49 rfl rfl (fun c49 => ?_) (fun c49 => ?_)
    · skip -- 49 taken
      rw [if_neg (Int32.not_lt.mpr c49)] at s2
      refine wp_iload_4 (pc' := 60) dX8_apart_58 rfl ?_
      refine wp_iadd (pc' := 61) dX8_apart_60 rfl ?_
      refine wp_ireturn dX8_apart_61 rfl rfl (Nat.le_refl _) (Nat.le_refl _) ?_
      exact uI_of (by rw [s1, s2]; exact fin)
    · skip -- 49 not taken
      rw [if_pos (Int32.not_le.mp c49)] at s2
      refine wp_iload_4 (pc' := 54) dX8_apart_52 rfl ?_
      refine wp_ineg (pc' := 55) dX8_apart_54 rfl ?_
      refine wp_goto (tgt := 60) dX8_apart_55 rfl ?_
      refine wp_iadd (pc' := 61) dX8_apart_60 rfl ?_
      refine wp_ireturn dX8_apart_61 rfl rfl (Nat.le_refl _) (Nat.le_refl _) ?_
      exact uI_of (by rw [s1, s2]; exact fin)
  · skip -- 38 not taken
    rw [if_pos (Int32.not_le.mp c38)] at s1
    refine wp_iload_n_3 (pc' := 42) dX8_apart_41 rfl ?_
    refine wp_ineg (pc' := 43) dX8_apart_42 rfl ?_
    refine wp_goto (tgt := 47) dX8_apart_43 rfl ?_
    refine wp_iload_4 (pc' := 49) dX8_apart_47 rfl ?_
    refine wp_if_ge (pc' := 52) (tgt := 58) dX8_apart_49 rfl rfl (fun c49 => ?_) (fun c49 => ?_)
    · skip -- 49 taken
      rw [if_neg (Int32.not_lt.mpr c49)] at s2
      refine wp_iload_4 (pc' := 60) dX8_apart_58 rfl ?_
      refine wp_iadd (pc' := 61) dX8_apart_60 rfl ?_
      refine wp_ireturn dX8_apart_61 rfl rfl (Nat.le_refl _) (Nat.le_refl _) ?_
      exact uI_of (by rw [s1, s2]; exact fin)
    · skip -- 49 not taken
      rw [if_pos (Int32.not_le.mp c49)] at s2
      refine wp_iload_4 (pc' := 54) dX8_apart_52 rfl ?_
      refine wp_ineg (pc' := 55) dX8_apart_54 rfl ?_
      refine wp_goto (tgt := 60) dX8_apart_55 rfl ?_
      refine wp_iadd (pc' := 61) dX8_apart_60 rfl ?_
      refine wp_ireturn dX8_apart_61 rfl rfl (Nat.le_refl _) (Nat.le_refl _) ?_
      exact uI_of (by rw [s1, s2]; exact fin)
theorem apt_lt (C x y : Nat) (hx : x < 16) (hy : y < 16) : apt C x y < 100 := by
  have d1 := Nat.div_le_self x C
  have d2 := Nat.div_le_self y C
  have m1 := Nat.mod_le x C
  have m2 := Nat.mod_le y C
  unfold apt
  generalize x / C = a at *
  generalize y / C = b at *
  generalize x % C = c at *
  generalize y % C = d at *
  omega
theorem c_X8_goes {R C x y κ : Nat} (hn : 105 ≤ n) (q : ShM h R C) (hk : h 89 13 = nI κ) (hκ : κ ≤ 3) (hx : x < 16) (hy : y < 16) : Ctr l D cy B yX8_goes wsX8_goes rmX8_goes 0 0 n (rf0 π) h lg [.ref (B + 89), .int (nI x), .int (nI y)] (uI (b2i (go κ C x y)) (rf0 π) h lg) := by
  have al := apt_lt C x y hx hy
  have e : ∀ b : Bool, (go κ C x y = true ↔ b = true) → b2i (go κ C x y) = b2i b := fun b q => by rw [Bool.eq_iff_iff.mpr q]
  refine Ctr.of (cc := cX8_goes) (nL := 4) (own := RX8) (rt := (some .boolean)) (ls := [some (.ref (B + 89)), some (.int (nI x)), some (.int (nI y)), none]) (by decide) rfl rfl (Nat.le_of_ble_eq_true rfl) rfl ?_
  refine wp_aload_n_0 (pc' := 1) dX8_goes_0 rfl ?_
  refine wp_iload_n_1 (pc' := 2) dX8_goes_1 rfl ?_
  refine wp_iload_n_2 (pc' := 3) dX8_goes_2 rfl ?_
  refine wp_callVu (pc' := 6) (c_X8_apart hn q (by omega) (by omega)) gX8_goes_X8_apart rfl rfl hy_X8_apart ⟨Nat.le_of_ble_eq_true rfl, Nat.le_of_ble_eq_true rfl⟩ ⟨rfl, rfl⟩ (Nat.le_of_ble_eq_true rfl) ⟨Nat.le_of_ble_eq_true rfl, Nat.le_of_ble_eq_true rfl⟩ (by omega) (ce8 rfl) rfl rfl dX8_goes_3 rfl ?_
  refine wp_istore_n_3 (pc' := 7) dX8_goes_6 (by decide) rfl rfl ?_
  refine wp_iload_n_3 (pc' := 8) dX8_goes_7 rfl ?_
  refine wp_if_le (pc' := 11) (tgt := 40) dX8_goes_8 rfl rfl (fun c8 => ?_) (fun c8 => ?_)
  · skip -- 8 taken
    refine wp_iconst (pc' := 41) (0) dX8_goes_40 rfl (by decide) ?_
    refine wp_zreturn (by decide) dX8_goes_41 rfl rfl (Nat.le_refl _) (Nat.le_refl _) ?_
    exact uI_of (by rw [e false (by rw [go_iff]; constructor; intro z; exfalso; (simp (disch := omega) only [Int32.lt_iff_toInt_lt, Int32.le_iff_toInt_le, ← Int32.toInt_inj, nI_toInt, il_0, il_1, il_2, il_3, il_4, il_5, il_6, il_8, il_9, il_10, il_16, il_26, il_32, il_40, il_n4, il_n1, il_n2, il_11, il_48, il_57, il_59, il_44, il_126, il_200, il_9999, il_66666, il_10000, il_1000000, il_15, il_12, il_256, il_4096, il_53, il_52] at c8; omega); intro z; cases z)]; rfl)
  · skip -- 8 not taken
    refine wp_aload_n_0 (pc' := 12) dX8_goes_11 rfl ?_
    refine wp_get_8_13 (pc' := 15) (by omega) rfl me_X8_goes_0 ic_X8_goes_8 dX8_goes_12 rfl ?_
    rw [hk]
    refine wp_iconst (pc' := 16) (3) dX8_goes_15 rfl (by decide) ?_
    refine wp_icmp_eq (pc' := 19) (tgt := 36) dX8_goes_16 rfl rfl (fun c16 => ?_) (fun c16 => ?_)
    · skip -- 16 taken
      refine wp_iconst (pc' := 37) (1) dX8_goes_36 rfl (by decide) ?_
      refine wp_goto (tgt := 41) dX8_goes_37 rfl ?_
      refine wp_zreturn (by decide) dX8_goes_41 rfl rfl (Nat.le_refl _) (Nat.le_refl _) ?_
      exact uI_of (by rw [e true (by rw [go_iff]; exact ⟨fun _ => rfl, fun _ => ⟨by (simp (disch := omega) only [Int32.lt_iff_toInt_lt, Int32.le_iff_toInt_le, ← Int32.toInt_inj, nI_toInt, il_0, il_1, il_2, il_3, il_4, il_5, il_6, il_8, il_9, il_10, il_16, il_26, il_32, il_40, il_n4, il_n1, il_n2, il_11, il_48, il_57, il_59, il_44, il_126, il_200, il_9999, il_66666, il_10000, il_1000000, il_15, il_12, il_256, il_4096, il_53, il_52] at c8; omega), Or.inl (by (simp (disch := omega) only [Int32.lt_iff_toInt_lt, Int32.le_iff_toInt_le, ← Int32.toInt_inj, nI_toInt, il_0, il_1, il_2, il_3, il_4, il_5, il_6, il_8, il_9, il_10, il_16, il_26, il_32, il_40, il_n4, il_n1, il_n2, il_11, il_48, il_57, il_59, il_44, il_126, il_200, il_9999, il_66666, il_10000, il_1000000, il_15, il_12, il_256, il_4096, il_53, il_52] at c16; omega))⟩⟩)]; rfl)
    · skip -- 16 not taken
      have k3 : κ ≠ 3 := fun z => c16 (by rw [z]; rfl)
      refine wp_iload_n_3 (pc' := 20) dX8_goes_19 rfl ?_
      refine wp_aload_n_0 (pc' := 21) dX8_goes_20 rfl ?_
      refine wp_get_8_13 (pc' := 24) (by omega) rfl me_X8_goes_0 ic_X8_goes_8 dX8_goes_21 rfl ?_
      rw [hk]
      refine wp_iconst (pc' := 25) (2) dX8_goes_24 rfl (by decide) ?_
      refine wp_icmp_ne (pc' := 28) (tgt := 32) dX8_goes_25 rfl rfl (fun c25 => ?_) (fun c25 => ?_)
      · skip -- 25 taken
        have k2 : κ ≠ 2 := fun z => c25 (by rw [z]; rfl)
        refine wp_iconst (pc' := 33) (1) dX8_goes_32 rfl (by decide) ?_
        refine wp_icmp_gt (pc' := 36) (tgt := 40) dX8_goes_33 rfl rfl (fun c33 => ?_) (fun c33 => ?_)
        · skip -- 33 taken
          refine wp_iconst (pc' := 41) (0) dX8_goes_40 rfl (by decide) ?_
          refine wp_zreturn (by decide) dX8_goes_41 rfl rfl (Nat.le_refl _) (Nat.le_refl _) ?_
          exact uI_of (by rw [e false (by rw [go_iff, if_neg k2]; constructor; rintro ⟨_, z | z⟩; exact absurd z k3; exfalso; (simp (disch := omega) only [Int32.lt_iff_toInt_lt, Int32.le_iff_toInt_le, ← Int32.toInt_inj, nI_toInt, il_0, il_1, il_2, il_3, il_4, il_5, il_6, il_8, il_9, il_10, il_16, il_26, il_32, il_40, il_n4, il_n1, il_n2, il_11, il_48, il_57, il_59, il_44, il_126, il_200, il_9999, il_66666, il_10000, il_1000000, il_15, il_12, il_256, il_4096, il_53, il_52] at c33; omega); intro z; cases z)]; rfl)
        · skip -- 33 not taken
          refine wp_iconst (pc' := 37) (1) dX8_goes_36 rfl (by decide) ?_
          refine wp_goto (tgt := 41) dX8_goes_37 rfl ?_
          refine wp_zreturn (by decide) dX8_goes_41 rfl rfl (Nat.le_refl _) (Nat.le_refl _) ?_
          exact uI_of (by rw [e true (by rw [go_iff, if_neg k2]; exact ⟨fun _ => rfl, fun _ => ⟨by (simp (disch := omega) only [Int32.lt_iff_toInt_lt, Int32.le_iff_toInt_le, ← Int32.toInt_inj, nI_toInt, il_0, il_1, il_2, il_3, il_4, il_5, il_6, il_8, il_9, il_10, il_16, il_26, il_32, il_40, il_n4, il_n1, il_n2, il_11, il_48, il_57, il_59, il_44, il_126, il_200, il_9999, il_66666, il_10000, il_1000000, il_15, il_12, il_256, il_4096, il_53, il_52] at c8; omega), Or.inr (by (simp (disch := omega) only [Int32.lt_iff_toInt_lt, Int32.le_iff_toInt_le, ← Int32.toInt_inj, nI_toInt, il_0, il_1, il_2, il_3, il_4, il_5, il_6, il_8, il_9, il_10, il_16, il_26, il_32, il_40, il_n4, il_n1, il_n2, il_11, il_48, il_57, il_59, il_44, il_126, il_200, il_9999, il_66666, il_10000, il_1000000, il_15, il_12, il_256, il_4096, il_53, il_52] at c33; omega))⟩⟩)]; rfl)
      · skip -- 25 not taken
        have k2 : κ = 2 := (nI_eq (by omega) (by omega)).mp (show nI κ = nI 2 from c25)
        refine wp_iconst (pc' := 29) (2) dX8_goes_28 rfl (by decide) ?_
        refine wp_goto (tgt := 33) dX8_goes_29 rfl ?_
        refine wp_icmp_gt (pc' := 36) (tgt := 40) dX8_goes_33 rfl rfl (fun c33 => ?_) (fun c33 => ?_)
        · skip -- 33 taken
          refine wp_iconst (pc' := 41) (0) dX8_goes_40 rfl (by decide) ?_
          refine wp_zreturn (by decide) dX8_goes_41 rfl rfl (Nat.le_refl _) (Nat.le_refl _) ?_
          exact uI_of (by rw [e false (by rw [go_iff, if_pos k2]; constructor; rintro ⟨_, z | z⟩; exact absurd z k3; exfalso; (simp (disch := omega) only [Int32.lt_iff_toInt_lt, Int32.le_iff_toInt_le, ← Int32.toInt_inj, nI_toInt, il_0, il_1, il_2, il_3, il_4, il_5, il_6, il_8, il_9, il_10, il_16, il_26, il_32, il_40, il_n4, il_n1, il_n2, il_11, il_48, il_57, il_59, il_44, il_126, il_200, il_9999, il_66666, il_10000, il_1000000, il_15, il_12, il_256, il_4096, il_53, il_52] at c33; omega); intro z; cases z)]; rfl)
        · skip -- 33 not taken
          refine wp_iconst (pc' := 37) (1) dX8_goes_36 rfl (by decide) ?_
          refine wp_goto (tgt := 41) dX8_goes_37 rfl ?_
          refine wp_zreturn (by decide) dX8_goes_41 rfl rfl (Nat.le_refl _) (Nat.le_refl _) ?_
          exact uI_of (by rw [e true (by rw [go_iff, if_pos k2]; exact ⟨fun _ => rfl, fun _ => ⟨by (simp (disch := omega) only [Int32.lt_iff_toInt_lt, Int32.le_iff_toInt_le, ← Int32.toInt_inj, nI_toInt, il_0, il_1, il_2, il_3, il_4, il_5, il_6, il_8, il_9, il_10, il_16, il_26, il_32, il_40, il_n4, il_n1, il_n2, il_11, il_48, il_57, il_59, il_44, il_126, il_200, il_9999, il_66666, il_10000, il_1000000, il_15, il_12, il_256, il_4096, il_53, il_52] at c8; omega), Or.inr (by (simp (disch := omega) only [Int32.lt_iff_toInt_lt, Int32.le_iff_toInt_le, ← Int32.toInt_inj, nI_toInt, il_0, il_1, il_2, il_3, il_4, il_5, il_6, il_8, il_9, il_10, il_16, il_26, il_32, il_40, il_n4, il_n1, il_n2, il_11, il_48, il_57, il_59, il_44, il_126, il_200, il_9999, il_66666, il_10000, il_1000000, il_15, il_12, il_256, il_4096, il_53, il_52] at c33; omega))⟩⟩)]; rfl)
end VM1

