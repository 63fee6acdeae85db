abbrev rmX7_huts : Room := { frames := 3, cells := 0, slots := 0, locals := 67 }
theorem hy_X7_huts : yX7_huts.cls = RX7 ∧ yX7_huts.cls ≠ "java/lang/invoke/MethodHandle" ∧ yX7_huts.cls ≠ "java/lang/invoke/VarHandle" ∧ (parseMethodDescriptor yX7_huts.desc).map (fun d => d.parameters.length) = some 1 := by decide +kernel
theorem hz_X7_huts : yX7_huts.cls ≠ "java/lang/invoke/MethodHandle" ∧ yX7_huts.cls ≠ "java/lang/invoke/VarHandle" ∧ (parseMethodDescriptor yX7_huts.desc).map (fun d => d.parameters.length) = some 1 := by decide +kernel
theorem me_X7_huts_0 : Cond.fieldLink RX7 27 "DrawnByLost" "land" "LDrawnByLost$Land;" ∈ wsX7_huts := by decide +kernel
theorem me_X7_huts_1 : Cond.fieldLink RX7 19 "DrawnByLost" "finder" "LDrawnByLost$Finder;" ∈ wsX7_huts := by decide +kernel
theorem me_X7_huts_2 : Cond.methodLink RX7 235 Lib.Math.max.name ∈ wsX7_huts := by decide +kernel
theorem me_X7_huts_3 : Cond.static Lib.Math.max.name ∈ wsX7_huts := by decide +kernel
theorem me_X7_huts_4 : Cond.initialized "java/lang/Math" ∈ wsX7_huts := by decide +kernel
theorem me_X7_huts_5 : Cond.code Lib.Math.max.name Lib.Math.max.code 2 (some .int) ∈ wsX7_huts := by decide +kernel
theorem ic_X7_huts_7 : ∀ w ∈ wsX70, w ∈ wsX7_huts := by decide +kernel
-- the class's calls: huts
section VP8
variable {l : Launch} {D : va_G} {cy : CY} {B n : Nat} {h : Hp} {lg : Lg} {π : Nat → Nat} {σ : Sg}
theorem nI_max {a b : Nat} (ha : a ≤ 2000000000) (hb : b ≤ 2000000000) : (if nI a < nI b then nI b else nI a) = nI (max a b) := by
  by_cases q : a < b
  · rw [if_pos (nI_lt q (by omega)), show max a b = b by omega]
  · rw [if_neg (nI_nlt (by omega) (by omega)), show max a b = a by omega]
theorem hsN_le (R C : Nat) (g : Nat → Bool) (x : Nat) : hsN R C g x ≤ 16 := by
  unfold hsN
  split
  · exact cnt_le16 _
  · omega
theorem mxN_le {f : Nat → Nat} {b : Nat} (h : ∀ x, f x ≤ b) : ∀ k, mxN f k ≤ b := by
  intro k
  induction k with
  | zero => exact Nat.zero_le _
  | succ k ih => have := h k; simp only [mxN]; omega
theorem lp_X7_huts {R C : Nat} {g : Nat → Bool} {t : Int32} {post : PO} (hn : 89 ≤ n) (q : ShL h 11 R C) (hg : Sup (R * C) g) (ht : t = 0 ∨ t = 1)
    (K0 : t = 0 → post (some (.int (nI (cnB (hdB R C g) (R * C))))) (rf0 π) h lg)
    (K1 : t = 1 → post (some (.int (nI (mxN (hsN R C g) (R * C))))) (rf0 π) h lg) :
    ∀ d x : Nat, x + d = R * C → ∀ a6, WP l D cy B cX7_huts 7 RX7 wsX7_huts rmX7_huts (some .int) (QE0 D cy B n 0 0 (post)) EX0 n (rf0 π) h lg 0 0 31 [some (.ref (B + 0)), some (.int t), some (.int (S (lfB R C g x))), some (.int (nI (cnB (hdB R C g) x))), some (.int (nI (mxN (hsN R C g) x))), some (.int (nI x)), a6] [] := by
  have hl := q.1.le
  have qq := q.places
  intro d
  induction d with
  | zero =>
    intro x hx a6
    have : x = R * C := by omega
    subst this
    refine wp_iload_5 (pc' := 33) dX7_huts_31 rfl ?_
    refine wp_aload_n_0 (pc' := 34) dX7_huts_33 rfl ?_
    refine wp_get_7_2 (pc' := 37) (by omega) rfl rfl me_X7_huts_0 ic_X7_huts_7 dX7_huts_34 rfl ?_
    refine wp_callVu (pc' := 40) (c_X1_places hn la11) gX7_huts_X1_places rfl rfl hy_X1_places ⟨Nat.le_of_ble_eq_true rfl, Nat.le_of_ble_eq_true rfl⟩ ⟨rfl, rfl⟩ (Nat.le_of_ble_eq_true rfl) ⟨Nat.le_of_ble_eq_true rfl, Nat.le_of_ble_eq_true rfl⟩ (by omega) (ce1 rfl) rfl rfl dX7_huts_37 rfl ?_
    rw [qq]
    refine wp_icmp_ge (pc' := 43) (tgt := 95) dX7_huts_40 rfl rfl (fun c40 => ?_) (fun c40 => by exfalso; exact c40 (nI_le (Nat.le_refl _) (by omega)))
    refine wp_iload_n_1 (pc' := 96) dX7_huts_95 rfl ?_
    refine wp_if_ne (pc' := 99) (tgt := 103) dX7_huts_96 rfl rfl (fun c96 => ?_) (fun c96 => ?_)
    · skip -- 96 taken
      refine wp_iload_4 (pc' := 105) dX7_huts_103 rfl ?_
      refine wp_ireturn dX7_huts_105 rfl rfl (Nat.le_refl _) (Nat.le_refl _) ?_
      exact K1 (by rcases ht with z | z; exact absurd z c96; exact z)
    · skip -- 96 not taken
      refine wp_iload_n_3 (pc' := 100) dX7_huts_99 rfl ?_
      refine wp_goto (tgt := 105) dX7_huts_100 rfl ?_
      refine wp_ireturn dX7_huts_105 rfl rfl (Nat.le_refl _) (Nat.le_refl _) ?_
      exact K0 c96
  | succ d ih =>
    intro x hx a6
    have hx2 : x < R * C := by omega
    have ml := mxN_le (hsN_le R C g) x
    have cl := cnt_le16 (cc R C g x)
    refine wp_iload_5 (pc' := 33) dX7_huts_31 rfl ?_
    refine wp_aload_n_0 (pc' := 34) dX7_huts_33 rfl ?_
    refine wp_get_7_2 (pc' := 37) (by omega) rfl rfl me_X7_huts_0 ic_X7_huts_7 dX7_huts_34 rfl ?_
    refine wp_callVu (pc' := 40) (c_X1_places hn la11) gX7_huts_X1_places rfl rfl hy_X1_places ⟨Nat.le_of_ble_eq_true rfl, Nat.le_of_ble_eq_true rfl⟩ ⟨rfl, rfl⟩ (Nat.le_of_ble_eq_true rfl) ⟨Nat.le_of_ble_eq_true rfl, Nat.le_of_ble_eq_true rfl⟩ (by omega) (ce1 rfl) rfl rfl dX7_huts_37 rfl ?_
    rw [qq]
    refine wp_icmp_ge (pc' := 43) (tgt := 95) dX7_huts_40 rfl rfl (fun c40 => by exfalso; exact nI_ge (by omega) (by omega) c40) (fun c40 => ?_)
    refine wp_iload_n_2 (pc' := 44) dX7_huts_43 rfl ?_
    refine wp_iload_5 (pc' := 46) dX7_huts_44 rfl ?_
    refine wp_ishr (pc' := 47) dX7_huts_46 rfl ?_
    refine wp_iconst (pc' := 48) (1) dX7_huts_47 rfl (by decide) ?_
    refine wp_iand (pc' := 49) dX7_huts_48 rfl ?_
    rw [S_test _ (by omega)]
    refine wp_iconst (pc' := 50) (1) dX7_huts_49 rfl (by decide) ?_
    refine wp_icmp_ne (pc' := 53) (tgt := 89) dX7_huts_50 rfl rfl (fun c50 => ?_) (fun c50 => ?_)
    · skip -- 50 taken
      have hf : hdB R C g x = false := by
        cases e : hdB R C g x
        · rfl
        · rw [show lfB R C g x x = true from e] at c50; exact absurd rfl c50
      refine wp_iinc_5 (pc' := 92) (v := nI (x + 1)) dX7_huts_89 (by first | rfl | exact nI_1 _) (by decide) rfl rfl ?_
      refine wp_goto (tgt := 31) dX7_huts_92 rfl ?_
      have z := ih (x + 1) (by omega)
      rw [S_ext (g := lfB R C g x) (fun y _ => (lfB_no hl hx2 hf).symm), cnB_s, hf, show mxN (hsN R C g) (x + 1) = mxN (hsN R C g) x by simp only [mxN, hsN]; rw [hf]; simp] at z
      exact z _
    · skip -- 50 not taken
      have hf : hdB R C g x = true := by
        cases e : hdB R C g x
        · rw [show lfB R C g x x = false from e] at c50; exact absurd c50 (by decide)
        · rfl
      refine wp_aload_n_0 (pc' := 54) dX7_huts_53 rfl ?_
      refine wp_get_7_1 (pc' := 57) (by omega) rfl rfl me_X7_huts_1 ic_X7_huts_7 dX7_huts_54 rfl ?_
      refine wp_iconst (pc' := 58) (1) dX7_huts_57 rfl (by decide) ?_
      refine wp_iload_5 (pc' := 60) dX7_huts_58 rfl ?_
      refine wp_ishl (pc' := 61) dX7_huts_60 rfl ?_
      rw [S_one (by omega)]
      refine wp_iload_n_2 (pc' := 62) dX7_huts_61 rfl ?_
      refine wp_callVu (pc' := 65) (c_X0_joined (g := lfB R C g x) hn q (sup_pt hx2)) gX7_huts_X0_joined rfl rfl hy_X0_joined ⟨Nat.le_of_ble_eq_true rfl, Nat.le_of_ble_eq_true rfl⟩ ⟨rfl, rfl⟩ (Nat.le_of_ble_eq_true rfl) ⟨Nat.le_of_ble_eq_true rfl, Nat.le_of_ble_eq_true rfl⟩ (by omega) (ce0 rfl) rfl rfl dX7_huts_62 rfl ?_
      rw [S_ext (g := cc R C g x) (fun y _ => grow_lf hl hx2 hf 16 (Nat.le_refl _) y)]
      refine wp_istore_6 (pc' := 67) dX7_huts_65 (by decide) rfl rfl ?_
      refine wp_iload_n_2 (pc' := 68) dX7_huts_67 rfl ?_
      refine wp_iload_6 (pc' := 70) dX7_huts_68 rfl ?_
      refine wp_iconst (pc' := 71) (-1) dX7_huts_70 rfl (by decide) ?_
      refine wp_ixor (pc' := 72) dX7_huts_71 rfl ?_
      refine wp_iand (pc' := 73) dX7_huts_72 rfl ?_
      rw [S_andnot, S_ext (g := lfB R C g (x + 1)) (fun y _ => lfB_hd hf)]
      refine wp_istore_n_2 (pc' := 74) dX7_huts_73 (by decide) rfl rfl ?_
      refine wp_iinc_3 (pc' := 77) (v := nI (cnB (hdB R C g) x + 1)) dX7_huts_74 (by first | rfl | exact nI_1 _) (by decide) rfl rfl ?_
      refine wp_iload_4 (pc' := 79) dX7_huts_77 rfl ?_
      refine wp_iload_6 (pc' := 81) dX7_huts_79 rfl ?_
      refine wp_callSu (pc' := 84) (c_J6_bitCount_0f7a4 _) gX7_huts_J6_bitCount_0f7a4 rfl rfl hz_J6_bitCount_0f7a4 ⟨Nat.le_of_ble_eq_true rfl, Nat.le_of_ble_eq_true rfl⟩ ⟨rfl, rfl⟩ (Nat.le_of_ble_eq_true rfl) ⟨Nat.le_of_ble_eq_true rfl, Nat.le_of_ble_eq_true rfl⟩ rfl dX7_huts_81 rfl ?_
      refine wp_mmax (pc' := 87) me_X7_huts_2 me_X7_huts_3 me_X7_huts_4 me_X7_huts_5 (Nat.le_of_ble_eq_true rfl) (Nat.le_of_ble_eq_true rfl) ⟨Nat.le_of_ble_eq_true rfl, Nat.le_of_ble_eq_true rfl⟩ dX7_huts_84 rfl ?_
      rw [nI_max (by omega) (by omega)]
      refine wp_istore_4 (pc' := 89) dX7_huts_87 (by decide) rfl rfl ?_
      refine wp_iinc_5 (pc' := 92) (v := nI (x + 1)) dX7_huts_89 (by first | rfl | exact nI_1 _) (by decide) rfl rfl ?_
      refine wp_goto (tgt := 31) dX7_huts_92 rfl ?_
      have z := ih (x + 1) (by omega)
      rw [cnB_s, hf, show mxN (hsN R C g) (x + 1) = max (mxN (hsN R C g) x) (cnt (cc R C g x)) by simp only [mxN, hsN]; rw [hf]; simp] at z
      exact z _
def aHuts (σ : Sg) (t : Int32) : Int32 := match ix t 2 with
  | none => -1
  | some 0 => nI (cnB (hdB σ.R σ.C (atB σ.R σ.C σ.ρ 2)) (σ.R * σ.C))
  | some _ => nI (mxN (hsN σ.R σ.C (atB σ.R σ.C σ.ρ 2)) (σ.R * σ.C))
theorem c_X7_huts (hn : 89 ≤ n) (X : XI h π σ) (t : Int32) : Ctr l D cy B yX7_huts wsX7_huts rmX7_huts 0 0 n (rf0 π) h lg [.ref (B + 0), .int t] (XQ h lg (aHuts σ t) σ) := by
  obtain ⟨T, q, u, ok, xr, xp, xk⟩ := id X
  cases e : ix t 2 with
  | none =>
    rw [show aHuts σ t = -1 by simp only [aHuts, e]]
    refine Ctr.of (cc := cX7_huts) (nL := 7) (own := RX7) (rt := (some .int)) (ls := [some (.ref (B + 0)), some (.int t), none, none, none, none, none]) (by decide) rfl rfl (Nat.le_of_ble_eq_true rfl) rfl ?_
    refine wp_iload_n_1 (pc' := 1) dX7_huts_0 rfl ?_
    refine wp_callSu (pc' := 4) (c_choice _) gX7_huts_X7_isChoice rfl rfl hz_X7_isChoice ⟨Nat.le_of_ble_eq_true rfl, Nat.le_of_ble_eq_true rfl⟩ ⟨rfl, rfl⟩ (Nat.le_of_ble_eq_true rfl) ⟨Nat.le_of_ble_eq_true rfl, Nat.le_of_ble_eq_true rfl⟩ rfl dX7_huts_1 rfl ?_
    rw [e]
    refine wp_if_ne (pc' := 7) (tgt := 9) dX7_huts_4 rfl rfl (fun c4 => by exfalso; exact c4 rfl) (fun c4 => ?_)
    refine wp_iconst (pc' := 8) (-1) dX7_huts_7 rfl (by decide) ?_
    refine wp_ireturn dX7_huts_8 rfl rfl (Nat.le_refl _) (Nat.le_refl _) ?_
    exact XQ.id rfl X
  | some b =>
    have ht : t = 0 ∨ t = 1 := by rcases ix2 e with z | z; exact Or.inl z.1; exact Or.inr z.1
    have b0 : t = 0 → aHuts σ t = nI (cnB (hdB σ.R σ.C (atB σ.R σ.C σ.ρ 2)) (σ.R * σ.C)) := by
      rintro rfl
      rcases ix2 e with ⟨_, rfl⟩ | ⟨z, _⟩
      · simp only [aHuts, e]
      · exact absurd z (by decide)
    have b1 : t = 1 → aHuts σ t = nI (mxN (hsN σ.R σ.C (atB σ.R σ.C σ.ρ 2)) (σ.R * σ.C)) := by
      rintro rfl
      rcases ix2 e with ⟨z, _⟩ | ⟨_, rfl⟩
      · exact absurd z (by decide)
      · simp only [aHuts, e]
    refine Ctr.of (cc := cX7_huts) (nL := 7) (own := RX7) (rt := (some .int)) (ls := [some (.ref (B + 0)), some (.int t), none, none, none, none, none]) (by decide) rfl rfl (Nat.le_of_ble_eq_true rfl) rfl ?_
    refine wp_iload_n_1 (pc' := 1) dX7_huts_0 rfl ?_
    refine wp_callSu (pc' := 4) (c_choice _) gX7_huts_X7_isChoice rfl rfl hz_X7_isChoice ⟨Nat.le_of_ble_eq_true rfl, Nat.le_of_ble_eq_true rfl⟩ ⟨rfl, rfl⟩ (Nat.le_of_ble_eq_true rfl) ⟨Nat.le_of_ble_eq_true rfl, Nat.le_of_ble_eq_true rfl⟩ rfl dX7_huts_1 rfl ?_
    rw [e]
    refine wp_if_ne (pc' := 7) (tgt := 9) dX7_huts_4 rfl rfl (fun c4 => ?_) (fun c4 => by exfalso; exact absurd c4 bS)
    refine wp_aload_n_0 (pc' := 10) dX7_huts_9 rfl ?_
    refine wp_callVR (pc' := 13) (c_X7_present hn q xr ok) gX7_huts_X7_present rfl rfl hy_X7_present ⟨Nat.le_of_ble_eq_true rfl, Nat.le_of_ble_eq_true rfl⟩ ⟨rfl, rfl⟩ (Nat.le_of_ble_eq_true rfl) ⟨Nat.le_of_ble_eq_true rfl, Nat.le_of_ble_eq_true rfl⟩ (by omega) (ce7 rfl) rfl rfl dX7_huts_10 rfl (fun h10 q10 => ?_)
    obtain ⟨g0, g1⟩ := q10
    have f : Fr h10 h := fun c z1 z2 z3 => g0 c z1
    refine wp_pop (pc' := 14) dX7_huts_13 rfl rfl ?_
    refine wp_aload_n_0 (pc' := 15) dX7_huts_14 rfl ?_
    refine wp_get_7_1 (pc' := 18) (by omega) rfl rfl me_X7_huts_1 ic_X7_huts_7 dX7_huts_15 rfl ?_
    refine wp_iconst (pc' := 19) (2) dX7_huts_18 rfl (by decide) ?_
    refine wp_callVu (pc' := 22) (c_X0_placesOf (m := 2) hn g1 (by omega)) gX7_huts_X0_placesOf rfl rfl hy_X0_placesOf ⟨Nat.le_of_ble_eq_true rfl, Nat.le_of_ble_eq_true rfl⟩ ⟨rfl, rfl⟩ (Nat.le_of_ble_eq_true rfl) ⟨Nat.le_of_ble_eq_true rfl, Nat.le_of_ble_eq_true rfl⟩ (by omega) (ce0 rfl) rfl rfl dX7_huts_19 rfl ?_
    rw [S_ext (g := lfB σ.R σ.C (atB σ.R σ.C σ.ρ 2) 0) (fun y _ => (lfB_0 _ _ _ y).symm)]
    refine wp_istore_n_2 (pc' := 23) dX7_huts_22 (by decide) rfl rfl ?_
    refine wp_iconst (pc' := 24) (0) dX7_huts_23 rfl (by decide) ?_
    refine wp_istore_n_3 (pc' := 25) dX7_huts_24 (by decide) rfl rfl ?_
    refine wp_iconst (pc' := 26) (0) dX7_huts_25 rfl (by decide) ?_
    refine wp_istore_4 (pc' := 28) dX7_huts_26 (by decide) rfl rfl ?_
    refine wp_iconst (pc' := 29) (0) dX7_huts_28 rfl (by decide) ?_
    refine wp_istore_5 (pc' := 31) dX7_huts_29 (by decide) rfl rfl ?_
    exact lp_X7_huts hn (q.of_eq (g0 11 (by decide))) (atB_sup _ _ _ _) ht (fun w => XQ.fr (b0 w).symm X f) (fun w => XQ.fr (b1 w).symm X f) (σ.R * σ.C) 0 (by omega) _
end VP8

