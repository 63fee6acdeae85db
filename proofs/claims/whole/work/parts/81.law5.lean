theorem me_L_law_0 : Cond.classLink RL 7 RX7 ∈ wsL_law := by decide +kernel
theorem me_L_law_1 : Cond.instantiable RX7 9 ∈ wsL_law := by decide +kernel
theorem me_L_law_2 : Cond.initialized RX7 ∈ wsL_law := by decide +kernel
theorem me_L_law_3 : Cond.initialized yX7_init.cls ∈ wsL_law := by decide +kernel
theorem me_L_law_4 : Cond.methodLink RL 9 yX7_init ∈ wsL_law := by decide +kernel
theorem me_L_law_5 : Cond.instanceMethod yX7_init ∈ wsL_law := by decide +kernel
theorem me_L_law_6 : Cond.classLink RL 10 RX8 ∈ wsL_law := by decide +kernel
theorem me_L_law_7 : Cond.instantiable RX8 22 ∈ wsL_law := by decide +kernel
theorem me_L_law_8 : Cond.initialized RX8 ∈ wsL_law := by decide +kernel
theorem me_L_law_9 : Cond.initialized yX8_init.cls ∈ wsL_law := by decide +kernel
theorem me_L_law_10 : Cond.methodLink RL 12 yX8_init ∈ wsL_law := by decide +kernel
theorem me_L_law_11 : Cond.instanceMethod yX8_init ∈ wsL_law := by decide +kernel
theorem ic_L_law_7 : ∀ w ∈ wsX70, w ∈ wsL_law := by decide +kernel
theorem ic_L_law_8 : ∀ w ∈ wsX80, w ∈ wsL_law := by decide +kernel
-- the law's loop, its beginning
section VLL
variable {l : Launch} {D : va_G} {cy : CY} {B n b L : Nat} {xs : Nat → Int32} {h : Hp} {lg : Lg} {π : Nat → Nat} {σ : Sg}
set_option maxHeartbeats 8000000 in
theorem law_loop (hL : L ≤ 256) : ∀ d i : Nat, L < i + d → i ≤ 260 → ∀ (π : Nat → Nat) (h : Hp) (lg : Lg) (σ : Sg), XI h π σ → MI h σ → WP l D cy B cL_law 4 RL wsL_law room_1 ret lw_Z (EXL B b L xs) 105 (rf0 π) h lg 105 2207 18 [some (.ref b), some (.ref (B + 0)), some (.ref (B + 89)), some (.int (nI (i)))] [] := by
  have hy := pk_sub_toInt (a := L) (b := 4) (by omega) (by omega)
  rw [show nI 4 = (4 : Int32) from rfl] at hy
  intro d
  induction d with
  | zero =>
    intro i hd hi π h lg σ X M
    refine wp_iload_n_3 (pc' := 19) dL_law_18 rfl ?_
    refine wp_aload_n_0 (pc' := 20) dL_law_19 rfl ?_
    refine wp_slen (pc' := 21) (fun _ _ _ q => q.2.2) dL_law_20 rfl ?_
    refine wp_iconst (pc' := 22) (4) dL_law_21 rfl (by decide) ?_
    refine wp_isub (pc' := 23) dL_law_22 rfl ?_
    generalize nI L - 4 = y at hy ⊢
    refine wp_icmp_gt (pc' := 26) (tgt := 877) dL_law_23 rfl rfl (fun c23 => ?_) (fun c23 => by exfalso; rw [Int32.lt_iff_toInt_lt, hy, nI_toInt (by omega)] at c23; omega)
    refine wp_iconst (pc' := 878) (1) dL_law_877 rfl (by decide) ?_
    exact wp_lret (by decide) (by decide) dL_law_878
  | succ d ih =>
    intro i hd hi π h lg σ X M
    have hi5 : ¬ L < i + 4 → i + 4 ≤ L := fun z => by omega
    have K : i + 4 ≤ L → ∀ (π : Nat → Nat) (h : Hp) (lg : Lg) (σ : Sg), XI h π σ → MI h σ → WP l D cy B cL_law 4 RL wsL_law room_1 ret lw_Z (EXL B b L xs) 105 (rf0 π) h lg 105 2207 871 [some (.ref b), some (.ref (B + 0)), some (.ref (B + 89)), some (.int (nI (i)))] [] := by
      intro hi4 π h lg σ X M
      refine wp_iinc_3 (pc' := 874) (v := nI (i + 4)) dL_law_871 (by rw [show Int32.ofInt 4 = nI 4 from rfl, nI_add]) (by decide) rfl rfl ?_
      refine wp_goto (tgt := 18) dL_law_874 rfl ?_
      exact ih (i + 4) (by omega) (by omega) π h lg σ X M
    refine wp_iload_n_3 (pc' := 19) dL_law_18 rfl ?_
    refine wp_aload_n_0 (pc' := 20) dL_law_19 rfl ?_
    refine wp_slen (pc' := 21) (fun _ _ _ q => q.2.2) dL_law_20 rfl ?_
    refine wp_iconst (pc' := 22) (4) dL_law_21 rfl (by decide) ?_
    refine wp_isub (pc' := 23) dL_law_22 rfl ?_
    generalize nI L - 4 = y at hy ⊢
    refine wp_icmp_gt (pc' := 26) (tgt := 877) dL_law_23 rfl rfl (fun c23 => ?_) (fun c23 => ?_)
    · skip -- 23 taken
      refine wp_iconst (pc' := 878) (1) dL_law_877 rfl (by decide) ?_
      exact wp_lret (by decide) (by decide) dL_law_878
    · skip -- 23 not taken
      have hi4 : i + 4 ≤ L := by
        rw [Int32.lt_iff_toInt_lt, hy, nI_toInt (by omega)] at c23
        omega
      refine wp_aload_n_0 (pc' := 27) dL_law_26 rfl ?_
      refine wp_iload_n_3 (pc' := 28) dL_law_27 rfl ?_
      refine wp_sld (pc' := 29) (fun _ _ _ q => q.2.2) (vp_in_nI (by omega) (by omega)) dL_law_28 rfl ?_
      rw [nI_clamp (by omega)]
      refine wp_bipush (pc' := 31) (31) dL_law_29 rfl (by decide) ?_
      refine wp_iand (pc' := 32) dL_law_31 rfl ?_
      generalize xs i &&& 31 = v
      rcases tn9 v with rfl | rfl | rfl | rfl | rfl | rfl | rfl | rfl | rfl | rfl | rfl | rfl | rfl | rfl | rfl | rfl | rfl | rfl | rfl | rfl | rfl | rfl | rfl | rfl | rfl | rfl | rfl | rfl | rfl | hv
      · skip -- case 0
        refine wp_tblIn (off := 132) (tgt := 164) dL_law_32 (by decide) (by decide) rfl rfl ?_
        exact case0 hi4 hL X M (K hi4)
      · skip -- case 1
        refine wp_tblIn (off := 155) (tgt := 187) dL_law_32 (by decide) (by decide) rfl rfl ?_
        exact case1 hi4 hL X M (K hi4)
      · skip -- case 2
        refine wp_tblIn (off := 168) (tgt := 200) dL_law_32 (by decide) (by decide) rfl rfl ?_
        exact case2 hi4 hL X M (K hi4)
      · skip -- case 3
        refine wp_tblIn (off := 181) (tgt := 213) dL_law_32 (by decide) (by decide) rfl rfl ?_
        exact case3 hi4 hL X M (K hi4)
      · skip -- case 4
        refine wp_tblIn (off := 194) (tgt := 226) dL_law_32 (by decide) (by decide) rfl rfl ?_
        exact case4 hi4 hL X M (K hi4)
      · skip -- case 5
        refine wp_tblIn (off := 227) (tgt := 259) dL_law_32 (by decide) (by decide) rfl rfl ?_
        exact case5 hi4 hL X M (K hi4)
      · skip -- case 6
        refine wp_tblIn (off := 260) (tgt := 292) dL_law_32 (by decide) (by decide) rfl rfl ?_
        exact case6 hi4 hL X M (K hi4)
      · skip -- case 7
        refine wp_tblIn (off := 293) (tgt := 325) dL_law_32 (by decide) (by decide) rfl rfl ?_
        exact case7 hi4 hL X M (K hi4)
      · skip -- case 8
        refine wp_tblIn (off := 326) (tgt := 358) dL_law_32 (by decide) (by decide) rfl rfl ?_
        exact case8 hi4 hL X M (K hi4)
      · skip -- case 9
        refine wp_tblIn (off := 359) (tgt := 391) dL_law_32 (by decide) (by decide) rfl rfl ?_
        exact case9 hi4 hL X M (K hi4)
      · skip -- case 10
        refine wp_tblIn (off := 382) (tgt := 414) dL_law_32 (by decide) (by decide) rfl rfl ?_
        exact case10 hi4 hL X M (K hi4)
      · skip -- case 11
        refine wp_tblIn (off := 395) (tgt := 427) dL_law_32 (by decide) (by decide) rfl rfl ?_
        exact case11 hi4 hL X M (K hi4)
      · skip -- case 12
        refine wp_tblIn (off := 418) (tgt := 450) dL_law_32 (by decide) (by decide) rfl rfl ?_
        exact case12 hi4 hL X M (K hi4)
      · skip -- case 13
        refine wp_tblIn (off := 451) (tgt := 483) dL_law_32 (by decide) (by decide) rfl rfl ?_
        exact case13 hi4 hL X M (K hi4)
      · skip -- case 14
        refine wp_tblIn (off := 474) (tgt := 506) dL_law_32 (by decide) (by decide) rfl rfl ?_
        exact case14 hi4 hL X M (K hi4)
      · skip -- case 15
        refine wp_tblIn (off := 487) (tgt := 519) dL_law_32 (by decide) (by decide) rfl rfl ?_
        exact case15 hi4 hL X M (K hi4)
      · skip -- case 16
        refine wp_tblIn (off := 500) (tgt := 532) dL_law_32 (by decide) (by decide) rfl rfl ?_
        exact case16 hi4 hL X M (K hi4)
      · skip -- case 17
        refine wp_tblIn (off := 523) (tgt := 555) dL_law_32 (by decide) (by decide) rfl rfl ?_
        exact case17 hi4 hL X M (K hi4)
      · skip -- case 18
        refine wp_tblIn (off := 546) (tgt := 578) dL_law_32 (by decide) (by decide) rfl rfl ?_
        exact case18 hi4 hL X M (K hi4)
      · skip -- case 19
        refine wp_tblIn (off := 579) (tgt := 611) dL_law_32 (by decide) (by decide) rfl rfl ?_
        exact case19 hi4 hL X M (K hi4)
      · skip -- case 20
        refine wp_tblIn (off := 602) (tgt := 634) dL_law_32 (by decide) (by decide) rfl rfl ?_
        exact case20 hi4 hL X M (K hi4)
      · skip -- case 21
        refine wp_tblIn (off := 635) (tgt := 667) dL_law_32 (by decide) (by decide) rfl rfl ?_
        exact case21 hi4 hL X M (K hi4)
      · skip -- case 22
        refine wp_tblIn (off := 678) (tgt := 710) dL_law_32 (by decide) (by decide) rfl rfl ?_
        exact case22 hi4 hL X M (K hi4)
      · skip -- case 23
        refine wp_tblIn (off := 691) (tgt := 723) dL_law_32 (by decide) (by decide) rfl rfl ?_
        exact case23 hi4 hL X M (K hi4)
      · skip -- case 24
        refine wp_tblIn (off := 724) (tgt := 756) dL_law_32 (by decide) (by decide) rfl rfl ?_
        exact case24 hi4 hL X M (K hi4)
      · skip -- case 25
        refine wp_tblIn (off := 747) (tgt := 779) dL_law_32 (by decide) (by decide) rfl rfl ?_
        exact case25 hi4 hL X M (K hi4)
      · skip -- case 26
        refine wp_tblIn (off := 790) (tgt := 822) dL_law_32 (by decide) (by decide) rfl rfl ?_
        exact case26 hi4 hL X M (K hi4)
      · skip -- case 27
        refine wp_tblIn (off := 803) (tgt := 835) dL_law_32 (by decide) (by decide) rfl rfl ?_
        exact case27 hi4 hL X M (K hi4)
      · skip -- case 28
        refine wp_tblIn (off := 816) (tgt := 848) dL_law_32 (by decide) (by decide) rfl rfl ?_
        exact case28 hi4 hL X M (K hi4)
      · skip -- default
        refine wp_tblOut (tgt := 871) dL_law_32 (by assumption) rfl ?_
        exact K hi4 π h lg σ X M
set_option maxHeartbeats 8000000 in
theorem law_main (hL : L ≤ 256) : WP l D cy B cL_law 4 RL wsL_law room_1 ret lw_Z (EXL B b L xs) 0 (rL []) Z0 (fun _ => 0) 0 0 0 [some (.ref b), none, none, none] [] := by
  refine wp_new_7 (pc' := 3) ic_L_law_7 me_L_law_0 me_L_law_1 me_L_law_2 rfl (fun _ => rfl) (rL_none rfl) ⟨Nat.le_of_ble_eq_true rfl, Nat.le_of_ble_eq_true rfl⟩ dL_law_0 rfl ?_
  refine wp_dup (pc' := 4) dL_law_3 rfl rfl ?_
  refine wp_callI (pc' := 7) c_X7_init gL_law_X7_init rfl rfl me_L_law_3 me_L_law_4 me_L_law_5 rfl hz_X7_init ⟨Nat.le_of_ble_eq_true rfl, Nat.le_of_ble_eq_true rfl⟩ ⟨rfl, rfl⟩ (Nat.le_of_ble_eq_true rfl) ⟨Nat.le_of_ble_eq_true rfl, Nat.le_of_ble_eq_true rfl⟩ rfl dL_law_4 rfl (fun v4 r4 h4 l4 q4 => ?_)
  obtain ⟨rfl, rfl, rfl, X7, f7⟩ := q4
  refine wp_astore_n_1 (pc' := 8) dL_law_7 (by decide) rfl rfl ?_
  refine WP.same (r' := rL cLF) (h' := h4) (lg' := fun _ => 0) (fun a ha => (cLF_rf a ha).symm) (fun _ _ => rfl) (Or.inl rfl) ?_
  refine wp_new_8 (pc' := 11) ic_L_law_8 me_L_law_6 me_L_law_7 me_L_law_8 rfl (fun j => congrFun (f7 89 (Nat.le_refl 89)) j) (rL_none rfl) ⟨Nat.le_of_ble_eq_true rfl, Nat.le_of_ble_eq_true rfl⟩ dL_law_8 rfl ?_
  refine wp_dup (pc' := 12) dL_law_11 rfl rfl ?_
  refine wp_callI (pc' := 15) (c_X8_init f7) gL_law_X8_init rfl rfl me_L_law_9 me_L_law_10 me_L_law_11 rfl hz_X8_init ⟨Nat.le_of_ble_eq_true rfl, Nat.le_of_ble_eq_true rfl⟩ ⟨rfl, rfl⟩ (Nat.le_of_ble_eq_true rfl) ⟨Nat.le_of_ble_eq_true rfl, Nat.le_of_ble_eq_true rfl⟩ rfl dL_law_12 rfl (fun v12 r12 h12 l12 q12 => ?_)
  obtain ⟨rfl, rfl, M, f8⟩ := q12
  refine wp_astore_n_2 (pc' := 16) dL_law_15 (by decide) rfl rfl ?_
  refine wp_iconst (pc' := 17) (0) dL_law_16 rfl (by decide) ?_
  refine wp_istore_n_3 (pc' := 18) dL_law_17 (by decide) rfl rfl ?_
  exact law_loop hL (L + 1) 0 (by omega) (by omega) p0 h12 l12 S0 (X7.lo f8) M
end VLL

