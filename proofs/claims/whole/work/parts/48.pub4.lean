abbrev rmX7_areFigures : Room := { frames := 0, cells := 0, slots := 0, locals := 0 }
theorem hy_X7_areFigures : yX7_areFigures.cls = RX7 ∧ yX7_areFigures.cls ≠ "java/lang/invoke/MethodHandle" ∧ yX7_areFigures.cls ≠ "java/lang/invoke/VarHandle" ∧ (parseMethodDescriptor yX7_areFigures.desc).map (fun d => d.parameters.length) = some 1 := by decide +kernel
theorem hz_X7_areFigures : yX7_areFigures.cls ≠ "java/lang/invoke/MethodHandle" ∧ yX7_areFigures.cls ≠ "java/lang/invoke/VarHandle" ∧ (parseMethodDescriptor yX7_areFigures.desc).map (fun d => d.parameters.length) = some 1 := by decide +kernel
abbrev rmX7_tell : Room := { frames := 3, cells := 0, slots := 0, locals := 82 }
theorem hy_X7_tell : yX7_tell.cls = RX7 ∧ yX7_tell.cls ≠ "java/lang/invoke/MethodHandle" ∧ yX7_tell.cls ≠ "java/lang/invoke/VarHandle" ∧ (parseMethodDescriptor yX7_tell.desc).map (fun d => d.parameters.length) = some 2 := by decide +kernel
theorem hz_X7_tell : yX7_tell.cls ≠ "java/lang/invoke/MethodHandle" ∧ yX7_tell.cls ≠ "java/lang/invoke/VarHandle" ∧ (parseMethodDescriptor yX7_tell.desc).map (fun d => d.parameters.length) = some 2 := by decide +kernel
theorem me_X7_areFigures_0 : Cond.constant RX7 250 (66666) ∈ wsX7_areFigures := by decide +kernel
theorem me_X7_tell_0 : Cond.fieldLink RX7 31 "DrawnByLost" "now" "LDrawnByLost$Story;" ∈ wsX7_tell := by decide +kernel
theorem me_X7_tell_1 : Cond.fieldLink RX7 148 "DrawnByLost$Story" "walks" "I" ∈ wsX7_tell := by decide +kernel
theorem me_X7_tell_2 : Cond.fieldLink RX7 43 "DrawnByLost" "done" "LDrawnByLost$Pile;" ∈ wsX7_tell := by decide +kernel
theorem ic_X7_tell_7 : ∀ w ∈ wsX70, w ∈ wsX7_tell := by decide +kernel
theorem ic_X7_tell_5 : ∀ w ∈ wsX50, w ∈ wsX7_tell := by decide +kernel
-- the class's calls: a walk is told
section VP4
variable {l : Launch} {D : va_G} {cy : CY} {B n : Nat} {h : Hp} {lg : Lg} {π : Nat → Nat} {σ : Sg}
def ndg (v : Nat) : Nat := if v < 100 then 2 else if v < 1000 then 3 else if v < 10000 then 4 else 5
def fgB (v : Nat) : Bool := (List.range 5).all (fun j => !decide (10 ^ j ≤ v) || (decide (1 ≤ v / 10 ^ j % 10) && decide (v / 10 ^ j % 10 ≤ 6)))
def tg (v i : Nat) : Nat := v / 10 ^ (ndg v - 1 - i) % 10 - 1
theorem fgB_iff {v : Nat} : fgB v = true ↔ ∀ j, j < 5 → 10 ^ j ≤ v → 1 ≤ v / 10 ^ j % 10 ∧ v / 10 ^ j % 10 ≤ 6 := by
  unfold fgB
  rw [List.all_eq_true]
  constructor
  · intro q j hj hv
    have := q j (List.mem_range.mpr hj)
    simp only [Bool.or_eq_true, Bool.not_eq_true', decide_eq_false_iff_not, Bool.and_eq_true, decide_eq_true_eq] at this
    rcases this with z | z
    · exact absurd hv z
    · exact z
  · intro q j hj
    simp only [Bool.or_eq_true, Bool.not_eq_true', decide_eq_false_iff_not, Bool.and_eq_true, decide_eq_true_eq]
    by_cases z : 10 ^ j ≤ v
    · exact Or.inr (q j (List.mem_range.mp hj) z)
    · exact Or.inl z
theorem ndg_iff {v k : Nat} (h1 : 11 ≤ v) (h2 : v ≤ 66666) (hk : k < 5) : 10 ^ k ≤ v ↔ k < ndg v := by
  unfold ndg
  rcases (by omega : k = 0 ∨ k = 1 ∨ k = 2 ∨ k = 3 ∨ k = 4) with rfl | rfl | rfl | rfl | rfl <;> (first | omega | skip) <;> split <;> (try split) <;> (try split) <;> omega
theorem ndg_b {v : Nat} : 2 ≤ ndg v ∧ ndg v ≤ 5 := by
  unfold ndg
  split <;> (try split) <;> (try split) <;> omega
theorem tg_le {v : Nat} (h1 : 11 ≤ v) (h2 : v ≤ 66666) (hf : fgB v = true) {i : Nat} (hi : i < ndg v) : tg v i ≤ 5 := by
  have := ndg_b (v := v)
  have z := fgB_iff.mp hf (ndg v - 1 - i) (by omega) ((ndg_iff h1 h2 (by omega)).mpr (by omega))
  unfold tg
  omega
theorem p10_b : ∀ j, j < 6 → 1 ≤ 10 ^ j ∧ 10 ^ j ≤ 100000 := by decide
theorem figI_ {v j : Nat} (hv : v ≤ 66666) (hj : j < 6) : nI v / nI (10 ^ j) - nI v / nI (10 ^ j) / 10 * 10 = nI (v / 10 ^ j % 10) := by
  have := p10_b j hj
  have := Nat.div_le_self v (10 ^ j)
  rw [pk_div (by omega) (by omega) (by omega)]
  exact pk_rem (d := 10) (by omega) (by omega) (by omega)
theorem lp_X7_areFigures {v : Nat} {post : PO} (h2 : v ≤ 66666) (K : post (some (.int (b2i (fgB v)))) (rf0 π) h lg) :
    ∀ d j : Nat, j + d = 5 → (∀ i, i < j → 10 ^ i ≤ v → 1 ≤ v / 10 ^ i % 10 ∧ v / 10 ^ i % 10 ≤ 6) → ∀ a2, okc a2 = true → WP l D cy B cX7_areFigures 3 RX7 wsX7_areFigures rmX7_areFigures (some .boolean) (QE0 D cy B n 0 0 (post)) EX0 n (rf0 π) h lg 0 0 16 [some (.int (nI v)), some (.int (nI (10 ^ j))), a2] [] := by
  intro d
  induction d with
  | zero =>
    intro j hj hall a2 ho
    have : j = 5 := by omega
    subst this
    rw [show fgB v = true from fgB_iff.mpr hall] at K
    refine wp_iload_n_1 (pc' := 17) dX7_areFigures_16 rfl ?_
    refine wp_sipush (pc' := 20) (10000) dX7_areFigures_17 rfl (by decide) ?_
    refine wp_icmp_gt (pc' := 23) (tgt := 56) dX7_areFigures_20 rfl rfl (fun c20 => ?_) (fun c20 => by exfalso; exact c20 (by decide))
    refine wp_iconst (pc' := 57) (1) dX7_areFigures_56 rfl (by decide) ?_
    refine wp_zreturn (by decide) dX7_areFigures_57 rfl rfl (Nat.le_refl _) (Nat.le_refl _) ?_
    exact K
  | succ d ih =>
    intro j hj hall a2 ho
    have pj := p10_b j (by omega)
    have p4 : 10 ^ j ≤ 10000 := by
      rcases (by omega : j = 0 ∨ j = 1 ∨ j = 2 ∨ j = 3 ∨ j = 4) with rfl | rfl | rfl | rfl | rfl <;> decide
    have hne : ¬ nI (10 ^ j) = 0 := nI_ne0 (by omega) (by omega)
    have hm10 : v / 10 ^ j % 10 < 10 := Nat.mod_lt _ (by omega)
    refine wp_iload_n_1 (pc' := 17) dX7_areFigures_16 rfl ?_
    refine wp_sipush (pc' := 20) (10000) dX7_areFigures_17 rfl (by decide) ?_
    refine wp_icmp_gt (pc' := 23) (tgt := 56) dX7_areFigures_20 rfl rfl (fun c20 => by exfalso; (simp (disch := omega) only [Int32.lt_iff_toInt_lt, Int32.le_iff_toInt_le, ← Int32.toInt_inj, nI_toInt, il_0, il_1, il_2, il_3, il_4, il_5, il_6, il_8, il_9, il_10, il_16, il_26, il_32, il_40, il_n4, il_n1, il_n2, il_11, il_48, il_57, il_59, il_44, il_126, il_200, il_9999, il_66666, il_10000, il_1000000, il_15, il_12, il_256, il_4096, il_53, il_52] at c20; omega)) (fun c20 => ?_)
    refine wp_iload_n_0 (pc' := 24) dX7_areFigures_23 rfl ?_
    refine wp_iload_n_1 (pc' := 25) dX7_areFigures_24 rfl ?_
    refine wp_idiv (pc' := 26) dX7_areFigures_25 rfl hne ?_
    refine wp_bipush (pc' := 28) (10) dX7_areFigures_26 rfl (by decide) ?_
    refine wp_irem (pc' := 29) dX7_areFigures_28 rfl (by decide) ?_
    rw [figI_ h2 (by omega)]
    refine wp_istore_n_2 (pc' := 30) dX7_areFigures_29 (by decide) rfl rfl ?_
    refine wp_iload_n_0 (pc' := 31) dX7_areFigures_30 rfl ?_
    refine wp_iload_n_1 (pc' := 32) dX7_areFigures_31 rfl ?_
    refine wp_icmp_lt (pc' := 35) (tgt := 48) dX7_areFigures_32 rfl rfl (fun c32 => ?_) (fun c32 => ?_)
    · skip -- 32 taken
      refine wp_iload_n_1 (pc' := 49) dX7_areFigures_48 rfl ?_
      refine wp_bipush (pc' := 51) (10) dX7_areFigures_49 rfl (by decide) ?_
      refine wp_imul (pc' := 52) dX7_areFigures_51 rfl ?_
      rw [show (10 : Int32) = nI 10 from rfl, nI_mul, ← Nat.pow_succ]
      refine wp_istore_n_1 (pc' := 53) dX7_areFigures_52 (by decide) rfl rfl ?_
      refine wp_goto (tgt := 16) dX7_areFigures_53 rfl ?_
      refine ih (j + 1) (by omega) (fun i hi hv => ?_) _ rfl
      by_cases e : i = j
      · subst e
        first | (exfalso; (simp (disch := omega) only [Int32.lt_iff_toInt_lt, Int32.le_iff_toInt_le, ← Int32.toInt_inj, nI_toInt, il_0, il_1, il_2, il_3, il_4, il_5, il_6, il_8, il_9, il_10, il_16, il_26, il_32, il_40, il_n4, il_n1, il_n2, il_11, il_48, il_57, il_59, il_44, il_126, il_200, il_9999, il_66666, il_10000, il_1000000, il_15, il_12, il_256, il_4096, il_53, il_52] at *; omega)) | (constructor <;> (simp (disch := omega) only [Int32.lt_iff_toInt_lt, Int32.le_iff_toInt_le, ← Int32.toInt_inj, nI_toInt, il_0, il_1, il_2, il_3, il_4, il_5, il_6, il_8, il_9, il_10, il_16, il_26, il_32, il_40, il_n4, il_n1, il_n2, il_11, il_48, il_57, il_59, il_44, il_126, il_200, il_9999, il_66666, il_10000, il_1000000, il_15, il_12, il_256, il_4096, il_53, il_52] at *; omega))
      · exact hall i (by omega) hv
    · skip -- 32 not taken
      refine wp_iload_n_2 (pc' := 36) dX7_areFigures_35 rfl ?_
      refine wp_iconst (pc' := 37) (1) dX7_areFigures_36 rfl (by decide) ?_
      refine wp_icmp_lt (pc' := 40) (tgt := 46) dX7_areFigures_37 rfl rfl (fun c37 => ?_) (fun c37 => ?_)
      · skip -- 37 taken
        refine wp_iconst (pc' := 47) (0) dX7_areFigures_46 rfl (by decide) ?_
        refine wp_zreturn (by decide) dX7_areFigures_47 rfl rfl (Nat.le_refl _) (Nat.le_refl _) ?_
        have hf : fgB v = false := by
          rw [Bool.eq_false_iff]
          intro z
          have zz := fgB_iff.mp z j (by omega) (by (simp (disch := omega) only [Int32.lt_iff_toInt_lt, Int32.le_iff_toInt_le, ← Int32.toInt_inj, nI_toInt, il_0, il_1, il_2, il_3, il_4, il_5, il_6, il_8, il_9, il_10, il_16, il_26, il_32, il_40, il_n4, il_n1, il_n2, il_11, il_48, il_57, il_59, il_44, il_126, il_200, il_9999, il_66666, il_10000, il_1000000, il_15, il_12, il_256, il_4096, il_53, il_52] at c32; omega))
          first | (simp (disch := omega) only [Int32.lt_iff_toInt_lt, Int32.le_iff_toInt_le, ← Int32.toInt_inj, nI_toInt, il_0, il_1, il_2, il_3, il_4, il_5, il_6, il_8, il_9, il_10, il_16, il_26, il_32, il_40, il_n4, il_n1, il_n2, il_11, il_48, il_57, il_59, il_44, il_126, il_200, il_9999, il_66666, il_10000, il_1000000, il_15, il_12, il_256, il_4096, il_53, il_52] at *; omega) | omega
        rw [hf] at K
        exact K
      · skip -- 37 not taken
        refine wp_iload_n_2 (pc' := 41) dX7_areFigures_40 rfl ?_
        refine wp_bipush (pc' := 43) (6) dX7_areFigures_41 rfl (by decide) ?_
        refine wp_icmp_le (pc' := 46) (tgt := 48) dX7_areFigures_43 rfl rfl (fun c43 => ?_) (fun c43 => ?_)
        · skip -- 43 taken
          refine wp_iload_n_1 (pc' := 49) dX7_areFigures_48 rfl ?_
          refine wp_bipush (pc' := 51) (10) dX7_areFigures_49 rfl (by decide) ?_
          refine wp_imul (pc' := 52) dX7_areFigures_51 rfl ?_
          rw [show (10 : Int32) = nI 10 from rfl, nI_mul, ← Nat.pow_succ]
          refine wp_istore_n_1 (pc' := 53) dX7_areFigures_52 (by decide) rfl rfl ?_
          refine wp_goto (tgt := 16) dX7_areFigures_53 rfl ?_
          refine ih (j + 1) (by omega) (fun i hi hv => ?_) _ rfl
          by_cases e : i = j
          · subst e
            first | (exfalso; (simp (disch := omega) only [Int32.lt_iff_toInt_lt, Int32.le_iff_toInt_le, ← Int32.toInt_inj, nI_toInt, il_0, il_1, il_2, il_3, il_4, il_5, il_6, il_8, il_9, il_10, il_16, il_26, il_32, il_40, il_n4, il_n1, il_n2, il_11, il_48, il_57, il_59, il_44, il_126, il_200, il_9999, il_66666, il_10000, il_1000000, il_15, il_12, il_256, il_4096, il_53, il_52] at *; omega)) | (constructor <;> (simp (disch := omega) only [Int32.lt_iff_toInt_lt, Int32.le_iff_toInt_le, ← Int32.toInt_inj, nI_toInt, il_0, il_1, il_2, il_3, il_4, il_5, il_6, il_8, il_9, il_10, il_16, il_26, il_32, il_40, il_n4, il_n1, il_n2, il_11, il_48, il_57, il_59, il_44, il_126, il_200, il_9999, il_66666, il_10000, il_1000000, il_15, il_12, il_256, il_4096, il_53, il_52] at *; omega))
          · exact hall i (by omega) hv
        · skip -- 43 not taken
          refine wp_iconst (pc' := 47) (0) dX7_areFigures_46 rfl (by decide) ?_
          refine wp_zreturn (by decide) dX7_areFigures_47 rfl rfl (Nat.le_refl _) (Nat.le_refl _) ?_
          have hf : fgB v = false := by
            rw [Bool.eq_false_iff]
            intro z
            have zz := fgB_iff.mp z j (by omega) (by (simp (disch := omega) only [Int32.lt_iff_toInt_lt, Int32.le_iff_toInt_le, ← Int32.toInt_inj, nI_toInt, il_0, il_1, il_2, il_3, il_4, il_5, il_6, il_8, il_9, il_10, il_16, il_26, il_32, il_40, il_n4, il_n1, il_n2, il_11, il_48, il_57, il_59, il_44, il_126, il_200, il_9999, il_66666, il_10000, il_1000000, il_15, il_12, il_256, il_4096, il_53, il_52] at c32; omega))
            first | (simp (disch := omega) only [Int32.lt_iff_toInt_lt, Int32.le_iff_toInt_le, ← Int32.toInt_inj, nI_toInt, il_0, il_1, il_2, il_3, il_4, il_5, il_6, il_8, il_9, il_10, il_16, il_26, il_32, il_40, il_n4, il_n1, il_n2, il_11, il_48, il_57, il_59, il_44, il_126, il_200, il_9999, il_66666, il_10000, il_1000000, il_15, il_12, il_256, il_4096, il_53, il_52] at *; omega) | omega
          rw [hf] at K
          exact K
theorem c_X7_areFigures (x : Int32) : Ctr l D cy B yX7_areFigures wsX7_areFigures rmX7_areFigures 0 0 n (rf0 π) h lg [.int x] (uI (b2i (match rg x 11 66666 with | none => false | some v => fgB v)) (rf0 π) h lg) := by
  cases e : rg x 11 66666 with
  | none =>
    have z := rg_none.mp e
    refine Ctr.of (cc := cX7_areFigures) (nL := 3) (own := RX7) (rt := (some .boolean)) (ls := [some (.int x), none, none]) (by decide) rfl rfl (Nat.le_of_ble_eq_true rfl) rfl ?_
    refine wp_iload_n_0 (pc' := 1) dX7_areFigures_0 rfl ?_
    refine wp_bipush (pc' := 3) (11) dX7_areFigures_1 rfl (by decide) ?_
    refine wp_icmp_lt (pc' := 6) (tgt := 12) dX7_areFigures_3 rfl rfl (fun c3 => ?_) (fun c3 => ?_)
    · skip -- 3 taken
      refine wp_iconst (pc' := 13) (0) dX7_areFigures_12 rfl (by decide) ?_
      refine wp_zreturn (by decide) dX7_areFigures_13 rfl rfl (Nat.le_refl _) (Nat.le_refl _) ?_
      exact uI_of rfl
    · skip -- 3 not taken
      refine wp_iload_n_0 (pc' := 7) dX7_areFigures_6 rfl ?_
      refine wp_ldc (pc' := 9) (v := (66666)) me_X7_areFigures_0 dX7_areFigures_7 rfl ?_
      refine wp_icmp_le (pc' := 12) (tgt := 14) dX7_areFigures_9 rfl rfl (fun c9 => by exfalso; (simp (disch := omega) only [Int32.lt_iff_toInt_lt, Int32.le_iff_toInt_le, ← Int32.toInt_inj, nI_toInt, il_0, il_1, il_2, il_3, il_4, il_5, il_6, il_8, il_9, il_10, il_16, il_26, il_32, il_40, il_n4, il_n1, il_n2, il_11, il_48, il_57, il_59, il_44, il_126, il_200, il_9999, il_66666, il_10000, il_1000000, il_15, il_12, il_256, il_4096, il_53, il_52] at *; omega)) (fun c9 => ?_)
      refine wp_iconst (pc' := 13) (0) dX7_areFigures_12 rfl (by decide) ?_
      refine wp_zreturn (by decide) dX7_areFigures_13 rfl rfl (Nat.le_refl _) (Nat.le_refl _) ?_
      exact uI_of rfl
  | some v =>
    obtain ⟨rfl, z1, z2⟩ := rg_some e
    refine Ctr.of (cc := cX7_areFigures) (nL := 3) (own := RX7) (rt := (some .boolean)) (ls := [some (.int (nI v)), none, none]) (by decide) rfl rfl (Nat.le_of_ble_eq_true rfl) rfl ?_
    refine wp_iload_n_0 (pc' := 1) dX7_areFigures_0 rfl ?_
    refine wp_bipush (pc' := 3) (11) dX7_areFigures_1 rfl (by decide) ?_
    refine wp_icmp_lt (pc' := 6) (tgt := 12) dX7_areFigures_3 rfl rfl (fun c3 => by exfalso; (simp (disch := omega) only [Int32.lt_iff_toInt_lt, Int32.le_iff_toInt_le, ← Int32.toInt_inj, nI_toInt, il_0, il_1, il_2, il_3, il_4, il_5, il_6, il_8, il_9, il_10, il_16, il_26, il_32, il_40, il_n4, il_n1, il_n2, il_11, il_48, il_57, il_59, il_44, il_126, il_200, il_9999, il_66666, il_10000, il_1000000, il_15, il_12, il_256, il_4096, il_53, il_52] at c3; omega)) (fun c3 => ?_)
    refine wp_iload_n_0 (pc' := 7) dX7_areFigures_6 rfl ?_
    refine wp_ldc (pc' := 9) (v := (66666)) me_X7_areFigures_0 dX7_areFigures_7 rfl ?_
    refine wp_icmp_le (pc' := 12) (tgt := 14) dX7_areFigures_9 rfl rfl (fun c9 => ?_) (fun c9 => by exfalso; (simp (disch := omega) only [Int32.lt_iff_toInt_lt, Int32.le_iff_toInt_le, ← Int32.toInt_inj, nI_toInt, il_0, il_1, il_2, il_3, il_4, il_5, il_6, il_8, il_9, il_10, il_16, il_26, il_32, il_40, il_n4, il_n1, il_n2, il_11, il_48, il_57, il_59, il_44, il_126, il_200, il_9999, il_66666, il_10000, il_1000000, il_15, il_12, il_256, il_4096, il_53, il_52] at c9; omega))
    refine wp_iconst (pc' := 15) (1) dX7_areFigures_14 rfl (by decide) ?_
    refine wp_istore_n_1 (pc' := 16) dX7_areFigures_15 (by decide) rfl rfl ?_
    exact lp_X7_areFigures z2 (uI_of rfl) 5 0 (by omega) (fun i hi => by omega) _ rfl
def aTell (σ : Sg) (κ m : Int32) : Int32 := match ix κ 4, rg m 11 66666 with
  | some _, some v => if fgB v = true then (if σ.ρ 16 < 5 then nI (σ.ρ 16 + 1) else -3) else -1
  | _, _ => -1
def sTell (σ : Sg) (κ m : Int32) : Sg := match ix κ 4, rg m 11 66666 with
  | some a, some v => if fgB v = true then (if σ.ρ 16 < 5 then σ.note.now (addW σ.ρ a (ndg v) (tg v)) else σ) else σ
  | _, _ => σ
def TI (H0 h' : Hp) (W c : Nat) (f : Nat → Nat) : Prop := (∀ a, a ≠ 21 → a ≠ 22 → h' a = H0 a) ∧ h' 21 W = nI c ∧ (∀ v, v ≠ W → h' 21 v = H0 21 v) ∧ (∀ i, i < 5 * W → h' 22 i = H0 22 i) ∧ ∀ i, i < c → h' 22 (5 * W + i) = nI (f i)
theorem lp_X7_tell {v W : Nat} {a1 : Option Value} {post : PO} (hn : 89 ≤ n) (h1 : 11 ≤ v) (h2 : v ≤ 66666) (hf : fgB v = true) (hW : W < 5) (H0 : Hp) (h0 : H0 18 4 = nI (W + 1))
    (K : ∀ h', TI H0 h' W (ndg v) (tg v) → post (some (.int (nI (W + 1)))) (rf0 π) h' lg) :
    ∀ k, k ≤ 5 → ∀ h', TI H0 h' W (ndg v - k) (tg v) → WP l D cy B cX7_tell 4 RX7 wsX7_tell rmX7_tell (some .int) (QE0 D cy B n 0 0 (post)) EX0 n (rf0 π) h' lg 0 0 54 [some (.ref (B + 0)), a1, some (.int (nI v)), some (.int (nI (10 ^ k / 10)))] [] := by
  intro k
  have nb := ndg_b (v := v)
  induction k with
  | zero =>
    intro hk h' e0
    refine wp_iload_n_3 (pc' := 55) dX7_tell_54 rfl ?_
    refine wp_if_le (pc' := 58) (tgt := 87) dX7_tell_55 rfl rfl (fun c55 => ?_) (fun c55 => by exfalso; exact c55 (by decide))
    refine wp_aload_n_0 (pc' := 88) dX7_tell_87 rfl ?_
    refine wp_get_7_3 (pc' := 91) (by omega) rfl rfl me_X7_tell_0 ic_X7_tell_7 dX7_tell_88 rfl ?_
    refine wp_get_5_4 (pc' := 94) (by omega) rfl me_X7_tell_1 ic_X7_tell_5 dX7_tell_91 rfl ?_
    rw [e0.1 18 (by decide) (by decide), h0]
    refine wp_ireturn dX7_tell_94 rfl rfl (Nat.le_refl _) (Nat.le_refl _) ?_
    exact K h' e0
  | succ k ih =>
    intro hk h' e0
    have ek : 10 ^ (k + 1) / 10 = 10 ^ k := by rw [Nat.pow_succ]; omega
    rw [ek]
    have pj := p10_b k (by omega)
    have hne : ¬ nI (10 ^ k) = 0 := nI_ne0 (by omega) (by omega)
    obtain ⟨e1, e2, e3, e4, e5⟩ := e0
    have hs := st18
    have hm10 : v / 10 ^ k % 10 < 10 := Nat.mod_lt _ (by omega)
    have i1 := ndg_iff h1 h2 (k := k) (by omega)
    refine wp_iload_n_3 (pc' := 55) dX7_tell_54 rfl ?_
    refine wp_if_le (pc' := 58) (tgt := 87) dX7_tell_55 rfl rfl (fun c55 => by exfalso; (simp (disch := omega) only [Int32.lt_iff_toInt_lt, Int32.le_iff_toInt_le, ← Int32.toInt_inj, nI_toInt, il_0, il_1, il_2, il_3, il_4, il_5, il_6, il_8, il_9, il_10, il_16, il_26, il_32, il_40, il_n4, il_n1, il_n2, il_11, il_48, il_57, il_59, il_44, il_126, il_200, il_9999, il_66666, il_10000, il_1000000, il_15, il_12, il_256, il_4096, il_53, il_52] at c55; omega)) (fun c55 => ?_)
    refine wp_iload_n_2 (pc' := 59) dX7_tell_58 rfl ?_
    refine wp_iload_n_3 (pc' := 60) dX7_tell_59 rfl ?_
    refine wp_icmp_lt (pc' := 63) (tgt := 79) dX7_tell_60 rfl rfl (fun c60 => ?_) (fun c60 => ?_)
    · skip -- 60 taken
      have lt : v < 10 ^ k := by (simp (disch := omega) only [Int32.lt_iff_toInt_lt, Int32.le_iff_toInt_le, ← Int32.toInt_inj, nI_toInt, il_0, il_1, il_2, il_3, il_4, il_5, il_6, il_8, il_9, il_10, il_16, il_26, il_32, il_40, il_n4, il_n1, il_n2, il_11, il_48, il_57, il_59, il_44, il_126, il_200, il_9999, il_66666, il_10000, il_1000000, il_15, il_12, il_256, il_4096, il_53, il_52] at c60; omega)
      have ec : ndg v - (k + 1) = ndg v - k := by omega
      refine wp_iload_n_3 (pc' := 80) dX7_tell_79 rfl ?_
      refine wp_bipush (pc' := 82) (10) dX7_tell_80 rfl (by decide) ?_
      refine wp_idiv (pc' := 83) dX7_tell_82 rfl (by decide) ?_
      rw [show (10 : Int32) = nI 10 from rfl, pk_div (by omega) (by omega) (by omega)]
      refine wp_istore_n_3 (pc' := 84) dX7_tell_83 (by decide) rfl rfl ?_
      refine wp_goto (tgt := 54) dX7_tell_84 rfl ?_
      exact ih (by omega) _ (by rw [← ec]; exact ⟨e1, e2, e3, e4, e5⟩)
    · skip -- 60 not taken
      have le : 10 ^ k ≤ v := by (simp (disch := omega) only [Int32.lt_iff_toInt_lt, Int32.le_iff_toInt_le, ← Int32.toInt_inj, nI_toInt, il_0, il_1, il_2, il_3, il_4, il_5, il_6, il_8, il_9, il_10, il_16, il_26, il_32, il_40, il_n4, il_n1, il_n2, il_11, il_48, il_57, il_59, il_44, il_126, il_200, il_9999, il_66666, il_10000, il_1000000, il_15, il_12, il_256, il_4096, il_53, il_52] at c60; omega)
      have fb := fgB_iff.mp hf k (by omega) le
      have ec : ndg v - k = (ndg v - (k + 1)) + 1 := by omega
      refine wp_aload_n_0 (pc' := 64) dX7_tell_63 rfl ?_
      refine wp_get_7_3 (pc' := 67) (by omega) rfl rfl me_X7_tell_0 ic_X7_tell_7 dX7_tell_64 rfl ?_
      refine wp_iload_n_2 (pc' := 68) dX7_tell_67 rfl ?_
      refine wp_iload_n_3 (pc' := 69) dX7_tell_68 rfl ?_
      refine wp_idiv (pc' := 70) dX7_tell_69 rfl hne ?_
      refine wp_bipush (pc' := 72) (10) dX7_tell_70 rfl (by decide) ?_
      refine wp_irem (pc' := 73) dX7_tell_72 rfl (by decide) ?_
      rw [figI_ h2 (by omega)]
      refine wp_iconst (pc' := 74) (1) dX7_tell_73 rfl (by decide) ?_
      refine wp_isub (pc' := 75) dX7_tell_74 rfl ?_
      rw [nI_pred' fb.1]
      refine wp_callVq (pc' := 78) (c_X5_append (w := W) (s := ndg v - (k + 1)) hn hs (by rw [e1 18 (by decide) (by decide)]; exact h0) hW e2 (by omega)) gX7_tell_X5_append rfl rfl hy_X5_append ⟨Nat.le_of_ble_eq_true rfl, Nat.le_of_ble_eq_true rfl⟩ ⟨rfl, rfl⟩ (Nat.le_of_ble_eq_true rfl) ⟨Nat.le_of_ble_eq_true rfl, Nat.le_of_ble_eq_true rfl⟩ (by omega) (ce5 rfl) rfl rfl dX7_tell_75 rfl (fun x75 h75 q75 => ?_)
      rw [if_pos (by omega)] at q75
      obtain ⟨g0, g1⟩ := q75
      subst g0
      subst g1
      refine wp_pop (pc' := 79) dX7_tell_78 rfl rfl ?_
      refine wp_iload_n_3 (pc' := 80) dX7_tell_79 rfl ?_
      refine wp_bipush (pc' := 82) (10) dX7_tell_80 rfl (by decide) ?_
      refine wp_idiv (pc' := 83) dX7_tell_82 rfl (by decide) ?_
      rw [show (10 : Int32) = nI 10 from rfl, pk_div (by omega) (by omega) (by omega)]
      refine wp_istore_n_3 (pc' := 84) dX7_tell_83 (by decide) rfl rfl ?_
      refine wp_goto (tgt := 54) dX7_tell_84 rfl ?_
      refine ih (by omega) _ ?_
      rw [ec]
      refine ⟨fun a z1 z2 => by rw [hup_cell z1, hup_cell z2]; exact e1 a z1 z2, by rw [hup_at], fun v hv => by rw [hup_off hv, hup_cell (by decide)]; exact e3 v hv, fun i hi => by rw [hup_cell (by decide), hup_off (by omega)]; exact e4 i hi, fun i hi => ?_⟩
      rw [hup_cell (by decide)]
      by_cases ei : i = ndg v - (k + 1)
      · subst ei
        rw [hup_at]
        unfold tg
        rw [show ndg v - 1 - (ndg v - (k + 1)) = k by omega]
      · rw [hup_off (by omega)]; exact e5 i (by omega)
theorem XR.told {h1 h' : Hp} {ρ : Nat → Nat} {a c : Nat} {f : Nat → Nat} (xr : XR h1 18 ρ) (ok : RowOK ρ) (hW : ρ 16 < 5) (hc : c ≤ 5) (t : TI (hup (hup (hup h1 20 (ρ 16) (nI a)) 21 (ρ 16) 0) 18 4 (nI (ρ 16 + 1))) h' (ρ 16) c f) : XR h' 18 (addW ρ a c f) := by
  obtain ⟨t1, t2, t3, t4, t5⟩ := t
  obtain ⟨x1, x2, x3⟩ := xr
  refine ⟨fun i hi => by rw [t1 19 (by decide) (by decide), hup_cell (by decide), hup_cell (by decide), hup_cell (by decide), addW_lo hi]; exact x1 i hi, by rw [t1 18 (by decide) (by decide), hup_at, addW_16], fun w hw => ?_⟩
  rw [addW_16] at hw
  show h' 20 w = _ ∧ h' 21 w = _ ∧ ∀ j, _ → h' 22 _ = _
  by_cases e : w = ρ 16
  · subst e
    rw [addW_k, addW_n]
    exact ⟨by rw [t1 20 (by decide) (by decide), hup_cell (by decide), hup_cell (by decide), hup_at], t2, fun j hj => by rw [addW_m hj (by omega)]; exact t5 j hj⟩
  · obtain ⟨y1, y2, y3⟩ := x3 w (by omega)
    obtain ⟨o1, o2, o3, o4⟩ := ok.2.2 w (by omega)
    rw [addW_old (by omega) (by omega), addW_old (by omega) (by omega)]
    exact ⟨by rw [t1 20 (by decide) (by decide), hup_cell (by decide), hup_cell (by decide), hup_off e]; exact y1, by rw [t3 w e, hup_cell (by decide), hup_off e, hup_cell (by decide)]; exact y2, fun j hj => by rw [addW_old (by omega) (by omega), t4 _ (by omega), hup_cell (by decide), hup_cell (by decide), hup_cell (by decide)]; exact y3 j hj⟩
theorem c_X7_tell (hn : 89 ≤ n) (X : XI h π σ) (κ m : Int32) : Ctr l D cy B yX7_tell wsX7_tell rmX7_tell 0 0 n (rf0 π) h lg [.ref (B + 0), .int κ, .int m] (XQ h lg (aTell σ κ m) (sTell σ κ m)) := by
  obtain ⟨T, q, u, ok, xr, xp, xk⟩ := id X
  have h5 := ok.2.1
  cases e : ix κ 4 with
  | none =>
    rw [show aTell σ κ m = -1 by simp only [aTell, e], show sTell σ κ m = σ by simp only [sTell, e]]
    refine Ctr.of (cc := cX7_tell) (nL := 4) (own := RX7) (rt := (some .int)) (ls := [some (.ref (B + 0)), some (.int κ), some (.int m), none]) (by decide) rfl rfl (Nat.le_of_ble_eq_true rfl) rfl ?_
    refine wp_iload_n_1 (pc' := 1) dX7_tell_0 rfl ?_
    refine wp_callSu (pc' := 4) (c_kind _) gX7_tell_X7_isKind rfl rfl hz_X7_isKind ⟨Nat.le_of_ble_eq_true rfl, Nat.le_of_ble_eq_true rfl⟩ ⟨rfl, rfl⟩ (Nat.le_of_ble_eq_true rfl) ⟨Nat.le_of_ble_eq_true rfl, Nat.le_of_ble_eq_true rfl⟩ rfl dX7_tell_1 rfl ?_
    rw [e]
    refine wp_if_eq (pc' := 7) (tgt := 14) dX7_tell_4 rfl rfl (fun c4 => ?_) (fun c4 => by exfalso; exact c4 rfl)
    refine wp_iconst (pc' := 15) (-1) dX7_tell_14 rfl (by decide) ?_
    refine wp_ireturn dX7_tell_15 rfl rfl (Nat.le_refl _) (Nat.le_refl _) ?_
    exact XQ.id rfl X
  | some a =>
    obtain ⟨rfl, z1⟩ := ix_some e
    have bad : (match rg m 11 66666 with | none => false | some v => fgB v) = false → aTell σ (nI a) m = -1 ∧ sTell σ (nI a) m = σ := by
      intro hb
      unfold aTell sTell
      simp only [e]
      cases e3 : rg m 11 66666 with
      | none => exact ⟨rfl, rfl⟩
      | some v =>
        rw [e3] at hb
        simp only at hb
        simp only [hb, Bool.false_eq_true, if_false]
        exact ⟨trivial, trivial⟩
    cases e2 : (match rg m 11 66666 with | none => false | some v => fgB v) with
    | false =>
      obtain ⟨b1, b2⟩ := bad e2
      rw [b1, b2]
      refine Ctr.of (cc := cX7_tell) (nL := 4) (own := RX7) (rt := (some .int)) (ls := [some (.ref (B + 0)), some (.int (nI a)), some (.int m), none]) (by decide) rfl rfl (Nat.le_of_ble_eq_true rfl) rfl ?_
      refine wp_iload_n_1 (pc' := 1) dX7_tell_0 rfl ?_
      refine wp_callSu (pc' := 4) (c_kind _) gX7_tell_X7_isKind rfl rfl hz_X7_isKind ⟨Nat.le_of_ble_eq_true rfl, Nat.le_of_ble_eq_true rfl⟩ ⟨rfl, rfl⟩ (Nat.le_of_ble_eq_true rfl) ⟨Nat.le_of_ble_eq_true rfl, Nat.le_of_ble_eq_true rfl⟩ rfl dX7_tell_1 rfl ?_
      rw [e]
      refine wp_if_eq (pc' := 7) (tgt := 14) dX7_tell_4 rfl rfl (fun c4 => by exfalso; exact absurd c4 (by first | exact bS | decide)) (fun c4 => ?_)
      refine wp_iload_n_2 (pc' := 8) dX7_tell_7 rfl ?_
      refine wp_callSu (pc' := 11) (c_X7_areFigures _) gX7_tell_X7_areFigures rfl rfl hz_X7_areFigures ⟨Nat.le_of_ble_eq_true rfl, Nat.le_of_ble_eq_true rfl⟩ ⟨rfl, rfl⟩ (Nat.le_of_ble_eq_true rfl) ⟨Nat.le_of_ble_eq_true rfl, Nat.le_of_ble_eq_true rfl⟩ rfl dX7_tell_8 rfl ?_
      rw [e2]
      refine wp_if_ne (pc' := 14) (tgt := 16) dX7_tell_11 rfl rfl (fun c11 => by exfalso; exact c11 rfl) (fun c11 => ?_)
      refine wp_iconst (pc' := 15) (-1) dX7_tell_14 rfl (by decide) ?_
      refine wp_ireturn dX7_tell_15 rfl rfl (Nat.le_refl _) (Nat.le_refl _) ?_
      exact XQ.id rfl X
    | true =>
      obtain ⟨v, e3, hf⟩ : ∃ v, rg m 11 66666 = some v ∧ fgB v = true := by
        cases e3 : rg m 11 66666 with
        | none => rw [e3] at e2; cases e2
        | some v => rw [e3] at e2; exact ⟨v, rfl, e2⟩
      obtain ⟨rfl, z2, z3⟩ := rg_some e3
      have nb := ndg_b (v := v)
      by_cases z : σ.ρ 16 < 5
      · rw [show aTell σ (nI a) (nI v) = nI (σ.ρ 16 + 1) by simp only [aTell, e, e3, hf, z, if_true], show sTell σ (nI a) (nI v) = σ.note.now (addW σ.ρ a (ndg v) (tg v)) by simp only [sTell, e, e3, hf, z, if_true]]
        refine Ctr.of (cc := cX7_tell) (nL := 4) (own := RX7) (rt := (some .int)) (ls := [some (.ref (B + 0)), some (.int (nI a)), some (.int (nI v)), none]) (by decide) rfl rfl (Nat.le_of_ble_eq_true rfl) rfl ?_
        refine wp_iload_n_1 (pc' := 1) dX7_tell_0 rfl ?_
        refine wp_callSu (pc' := 4) (c_kind _) gX7_tell_X7_isKind rfl rfl hz_X7_isKind ⟨Nat.le_of_ble_eq_true rfl, Nat.le_of_ble_eq_true rfl⟩ ⟨rfl, rfl⟩ (Nat.le_of_ble_eq_true rfl) ⟨Nat.le_of_ble_eq_true rfl, Nat.le_of_ble_eq_true rfl⟩ rfl dX7_tell_1 rfl ?_
        rw [e]
        refine wp_if_eq (pc' := 7) (tgt := 14) dX7_tell_4 rfl rfl (fun c4 => by exfalso; exact absurd c4 (by first | exact bS | decide)) (fun c4 => ?_)
        refine wp_iload_n_2 (pc' := 8) dX7_tell_7 rfl ?_
        refine wp_callSu (pc' := 11) (c_X7_areFigures _) gX7_tell_X7_areFigures rfl rfl hz_X7_areFigures ⟨Nat.le_of_ble_eq_true rfl, Nat.le_of_ble_eq_true rfl⟩ ⟨rfl, rfl⟩ (Nat.le_of_ble_eq_true rfl) ⟨Nat.le_of_ble_eq_true rfl, Nat.le_of_ble_eq_true rfl⟩ rfl dX7_tell_8 rfl ?_
        rw [e2]
        refine wp_if_ne (pc' := 14) (tgt := 16) dX7_tell_11 rfl rfl (fun c11 => ?_) (fun c11 => by exfalso; exact absurd c11 (by first | exact bS | decide))
        refine wp_aload_n_0 (pc' := 17) dX7_tell_16 rfl ?_
        refine wp_get_7_3 (pc' := 20) (by omega) rfl rfl me_X7_tell_0 ic_X7_tell_7 dX7_tell_17 rfl ?_
        refine wp_get_5_4 (pc' := 23) (by omega) rfl me_X7_tell_1 ic_X7_tell_5 dX7_tell_20 rfl ?_
        rw [xr.2.1]
        refine wp_iconst (pc' := 24) (5) dX7_tell_23 rfl (by decide) ?_
        refine wp_icmp_lt (pc' := 27) (tgt := 30) dX7_tell_24 rfl rfl (fun c24 => ?_) (fun c24 => by exfalso; (simp (disch := omega) only [Int32.lt_iff_toInt_lt, Int32.le_iff_toInt_le, ← Int32.toInt_inj, nI_toInt, il_0, il_1, il_2, il_3, il_4, il_5, il_6, il_8, il_9, il_10, il_16, il_26, il_32, il_40, il_n4, il_n1, il_n2, il_11, il_48, il_57, il_59, il_44, il_126, il_200, il_9999, il_66666, il_10000, il_1000000, il_15, il_12, il_256, il_4096, il_53, il_52] at c24; omega))
        refine wp_aload_n_0 (pc' := 31) dX7_tell_30 rfl ?_
        refine wp_get_7_5 (pc' := 34) (by omega) rfl rfl me_X7_tell_2 ic_X7_tell_7 dX7_tell_31 rfl ?_
        refine wp_aload_n_0 (pc' := 35) dX7_tell_34 rfl ?_
        refine wp_get_7_3 (pc' := 38) (by omega) rfl rfl me_X7_tell_0 ic_X7_tell_7 dX7_tell_35 rfl ?_
        refine wp_callV (pc' := 41) (c_X2_push28 hn st18 xp.2.1 xp.1 X.piSt X.piNe) gX7_tell_X2_push rfl rfl hy_X2_push ⟨Nat.le_of_ble_eq_true rfl, Nat.le_of_ble_eq_true rfl⟩ ⟨rfl, rfl⟩ (Nat.le_of_ble_eq_true rfl) ⟨Nat.le_of_ble_eq_true rfl, Nat.le_of_ble_eq_true rfl⟩ (by omega) (ce2 rfl) rfl rfl dX7_tell_38 rfl (fun v38 r38 h38 l38 q38 => ?_)
        obtain ⟨rfl, rfl, rfl, h2, cp, rfl⟩ := q38
        obtain ⟨X1, f1⟩ := X.pushed cp
        have xr1 : XR _ 18 σ.ρ := X1.2.2.2.2.1
        refine wp_aload_n_0 (pc' := 42) dX7_tell_41 rfl ?_
        refine wp_get_7_3 (pc' := 45) (by omega) rfl rfl me_X7_tell_0 ic_X7_tell_7 dX7_tell_42 rfl ?_
        refine wp_iload_n_1 (pc' := 46) dX7_tell_45 rfl ?_
        refine wp_callVq (pc' := 49) (c_X5_begin hn st18 xr1.2.1 h5) gX7_tell_X5_begin rfl rfl hy_X5_begin ⟨Nat.le_of_ble_eq_true rfl, Nat.le_of_ble_eq_true rfl⟩ ⟨rfl, rfl⟩ (Nat.le_of_ble_eq_true rfl) ⟨Nat.le_of_ble_eq_true rfl, Nat.le_of_ble_eq_true rfl⟩ (by omega) (ce5 rfl) rfl rfl dX7_tell_46 rfl (fun x46 h46 q46 => ?_)
        rw [if_pos z] at q46
        obtain ⟨g0, g1⟩ := q46
        subst g0
        subst g1
        refine wp_pop (pc' := 50) dX7_tell_49 rfl rfl ?_
        refine wp_sipush (pc' := 53) (10000) dX7_tell_50 rfl (by decide) ?_
        refine wp_istore_n_3 (pc' := 54) dX7_tell_53 (by decide) rfl rfl ?_
        refine lp_X7_tell hn z2 z3 hf z _ (hup_at _ _ _ _) (fun h' t => ?_) 5 (by omega) _ ⟨fun _ _ _ => rfl, ?_, fun _ _ => rfl, fun _ _ => rfl, fun i hi => by omega⟩
        · refine XQ.of rfl (X1.toNow (rowOK_addW ok z (by omega) nb.1 nb.2 (fun j hj => tg_le z2 z3 hf hj)) (xr1.told ok z nb.2 t) (fun c hc => ?_)) (fun k hk => ?_)
          · rw [t.1 c (by omega) (by omega), hup_cell (by omega), hup_cell (by omega), hup_cell (by omega)]
          · rw [t.1 k (by omega) (by omega), hup_cell (by omega), hup_cell (by omega), hup_cell (by omega)]
            exact f1 k (by omega)
        · rw [hup_cell (by decide), hup_at, show ndg v - 5 = 0 by omega]; rfl
      · rw [show aTell σ (nI a) (nI v) = -3 by simp only [aTell, e, e3, hf, z, if_true, if_false], show sTell σ (nI a) (nI v) = σ by simp only [sTell, e, e3, hf, z, if_true, if_false]]
        refine Ctr.of (cc := cX7_tell) (nL := 4) (own := RX7) (rt := (some .int)) (ls := [some (.ref (B + 0)), some (.int (nI a)), some (.int (nI v)), none]) (by decide) rfl rfl (Nat.le_of_ble_eq_true rfl) rfl ?_
        refine wp_iload_n_1 (pc' := 1) dX7_tell_0 rfl ?_
        refine wp_callSu (pc' := 4) (c_kind _) gX7_tell_X7_isKind rfl rfl hz_X7_isKind ⟨Nat.le_of_ble_eq_true rfl, Nat.le_of_ble_eq_true rfl⟩ ⟨rfl, rfl⟩ (Nat.le_of_ble_eq_true rfl) ⟨Nat.le_of_ble_eq_true rfl, Nat.le_of_ble_eq_true rfl⟩ rfl dX7_tell_1 rfl ?_
        rw [e]
        refine wp_if_eq (pc' := 7) (tgt := 14) dX7_tell_4 rfl rfl (fun c4 => by exfalso; exact absurd c4 (by first | exact bS | decide)) (fun c4 => ?_)
        refine wp_iload_n_2 (pc' := 8) dX7_tell_7 rfl ?_
        refine wp_callSu (pc' := 11) (c_X7_areFigures _) gX7_tell_X7_areFigures rfl rfl hz_X7_areFigures ⟨Nat.le_of_ble_eq_true rfl, Nat.le_of_ble_eq_true rfl⟩ ⟨rfl, rfl⟩ (Nat.le_of_ble_eq_true rfl) ⟨Nat.le_of_ble_eq_true rfl, Nat.le_of_ble_eq_true rfl⟩ rfl dX7_tell_8 rfl ?_
        rw [e2]
        refine wp_if_ne (pc' := 14) (tgt := 16) dX7_tell_11 rfl rfl (fun c11 => ?_) (fun c11 => by exfalso; exact absurd c11 (by first | exact bS | decide))
        refine wp_aload_n_0 (pc' := 17) dX7_tell_16 rfl ?_
        refine wp_get_7_3 (pc' := 20) (by omega) rfl rfl me_X7_tell_0 ic_X7_tell_7 dX7_tell_17 rfl ?_
        refine wp_get_5_4 (pc' := 23) (by omega) rfl me_X7_tell_1 ic_X7_tell_5 dX7_tell_20 rfl ?_
        rw [xr.2.1]
        refine wp_iconst (pc' := 24) (5) dX7_tell_23 rfl (by decide) ?_
        refine wp_icmp_lt (pc' := 27) (tgt := 30) dX7_tell_24 rfl rfl (fun c24 => by exfalso; (simp (disch := omega) only [Int32.lt_iff_toInt_lt, Int32.le_iff_toInt_le, ← Int32.toInt_inj, nI_toInt, il_0, il_1, il_2, il_3, il_4, il_5, il_6, il_8, il_9, il_10, il_16, il_26, il_32, il_40, il_n4, il_n1, il_n2, il_11, il_48, il_57, il_59, il_44, il_126, il_200, il_9999, il_66666, il_10000, il_1000000, il_15, il_12, il_256, il_4096, il_53, il_52] at c24; omega)) (fun c24 => ?_)
        refine wp_bipush (pc' := 29) (-3) dX7_tell_27 rfl (by decide) ?_
        refine wp_ireturn dX7_tell_29 rfl rfl (Nat.le_refl _) (Nat.le_refl _) ?_
        exact XQ.id rfl X
end VP4

