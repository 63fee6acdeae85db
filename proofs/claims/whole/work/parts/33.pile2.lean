abbrev rmX2_clear : Room := { frames := 0, cells := 0, slots := 0, locals := 0 }
theorem hy_X2_clear : yX2_clear.cls = RX2 ∧ yX2_clear.cls ≠ "java/lang/invoke/MethodHandle" ∧ yX2_clear.cls ≠ "java/lang/invoke/VarHandle" ∧ (parseMethodDescriptor yX2_clear.desc).map (fun d => d.parameters.length) = some 0 := by decide +kernel
theorem hz_X2_clear : yX2_clear.cls ≠ "java/lang/invoke/MethodHandle" ∧ yX2_clear.cls ≠ "java/lang/invoke/VarHandle" ∧ (parseMethodDescriptor yX2_clear.desc).map (fun d => d.parameters.length) = some 0 := by decide +kernel
abbrev rmX2_pop : Room := { frames := 2, cells := 0, slots := 0, locals := 61 }
theorem hy_X2_pop : yX2_pop.cls = RX2 ∧ yX2_pop.cls ≠ "java/lang/invoke/MethodHandle" ∧ yX2_pop.cls ≠ "java/lang/invoke/VarHandle" ∧ (parseMethodDescriptor yX2_pop.desc).map (fun d => d.parameters.length) = some 1 := by decide +kernel
theorem hz_X2_pop : yX2_pop.cls ≠ "java/lang/invoke/MethodHandle" ∧ yX2_pop.cls ≠ "java/lang/invoke/VarHandle" ∧ (parseMethodDescriptor yX2_pop.desc).map (fun d => d.parameters.length) = some 1 := by decide +kernel
abbrev rmX2_push : Room := { frames := 2, cells := 0, slots := 0, locals := 61 }
theorem hy_X2_push : yX2_push.cls = RX2 ∧ yX2_push.cls ≠ "java/lang/invoke/MethodHandle" ∧ yX2_push.cls ≠ "java/lang/invoke/VarHandle" ∧ (parseMethodDescriptor yX2_push.desc).map (fun d => d.parameters.length) = some 1 := by decide +kernel
theorem hz_X2_push : yX2_push.cls ≠ "java/lang/invoke/MethodHandle" ∧ yX2_push.cls ≠ "java/lang/invoke/VarHandle" ∧ (parseMethodDescriptor yX2_push.desc).map (fun d => d.parameters.length) = some 1 := by decide +kernel
theorem me_X2_push_0 : Cond.fieldLink RX2 15 "DrawnByLost$Pile" "stories" "[LDrawnByLost$Story;" ∈ wsX2_push := by decide +kernel
theorem me_X2_push_1 : Cond.fieldLink RX2 22 "DrawnByLost$Pile" "size" "I" ∈ wsX2_push := by decide +kernel
theorem me_X2_pop_0 : Cond.fieldLink RX2 22 "DrawnByLost$Pile" "size" "I" ∈ wsX2_pop := by decide +kernel
theorem me_X2_pop_1 : Cond.fieldLink RX2 15 "DrawnByLost$Pile" "stories" "[LDrawnByLost$Story;" ∈ wsX2_pop := by decide +kernel
theorem me_X2_clear_0 : Cond.fieldLink RX2 22 "DrawnByLost$Pile" "size" "I" ∈ wsX2_clear := by decide +kernel
theorem ic_X2_push_2 : ∀ w ∈ wsX20, w ∈ wsX2_push := by decide +kernel
theorem ic_X2_pop_2 : ∀ w ∈ wsX20, w ∈ wsX2_pop := by decide +kernel
theorem ic_X2_clear_2 : ∀ w ∈ wsX20, w ∈ wsX2_clear := by decide +kernel
-- push and pop of the two piles
section VPM
variable {l : Launch} {D : va_G} {cy : CY} {B n : Nat} {h : Hp} {lg : Lg} {π : Nat → Nat}
theorem push28 {k m : Nat} {post : PO} (hn : 89 ≤ n) (hs : St k) (hm : m < 8) (hz : h 28 1 = nI m) (hp : St (π m)) (hne : π m ≠ k)
    (K : ∀ h2, CopyOf (π m) k h h2 → post none (rf0 π) (hup h2 28 1 (nI (m + 1))) lg) : WP l D cy B cX2_push 2 RX2 wsX2_push rmX2_push none (QE0 D cy B n 0 0 (post)) EX0 n (rf0 π) h lg 0 0 27 [some (.ref (B + 28)), some (.ref (B + k))] [] := by
  have hp28 : 28 < π m ∨ π m + 4 < 28 := by
    have z : ∀ k ∈ stL, 28 < k ∨ k + 4 < 28 := by decide
    exact z _ hp
  refine wp_aload_n_0 (pc' := 28) dX2_push_27 rfl ?_
  refine wp_get_2_0 (pc' := 31) (by omega) rfl rfl me_X2_push_0 ic_X2_push_2 dX2_push_28 rfl ?_
  refine wp_aload_n_0 (pc' := 32) dX2_push_31 rfl ?_
  refine wp_get_2_1 (pc' := 35) (by omega) rfl me_X2_push_1 ic_X2_push_2 dX2_push_32 rfl ?_
  rw [hz]
  refine wp_aald (pc' := 36) (N := 8) (by omega) rfl rfl (by first | exact vp_in_nI (by omega) (by omega) | assumption | (unfold vp_in; decide)) (by rw [nI_clamp (by omega)]; exact rf0_at hm) dX2_push_35 rfl ?_
  refine wp_aload_n_1 (pc' := 37) dX2_push_36 rfl ?_
  refine wp_callVv (pc' := 40) (c_X5_copy hn hp hs hne) gX2_push_X5_copy rfl rfl hy_X5_copy ⟨Nat.le_of_ble_eq_true rfl, Nat.le_of_ble_eq_true rfl⟩ ⟨rfl, rfl⟩ (Nat.le_of_ble_eq_true rfl) ⟨Nat.le_of_ble_eq_true rfl, Nat.le_of_ble_eq_true rfl⟩ (hp.lt (by omega)) (ce5 hp.K) rfl rfl dX2_push_37 rfl (fun h37 q37 => ?_)
  refine wp_aload_n_0 (pc' := 41) dX2_push_40 rfl ?_
  refine wp_dup (pc' := 42) dX2_push_41 rfl rfl ?_
  refine wp_get_2_1 (pc' := 45) (by omega) rfl me_X2_push_1 ic_X2_push_2 dX2_push_42 rfl ?_
  rw [q37.1 28 (by omega), hz]
  refine wp_iconst (pc' := 46) (1) dX2_push_45 rfl (by decide) ?_
  refine wp_iadd (pc' := 47) dX2_push_46 rfl ?_
  rw [nI_1]
  refine wp_put_2_1 (pc' := 50) (by omega) rfl me_X2_push_1 ic_X2_push_2 dX2_push_47 rfl ?_
  refine wp_return dX2_push_50 rfl rfl (Nat.le_refl _) (Nat.le_refl _) ?_
  exact K _ q37
theorem push70 {k m : Nat} {post : PO} (hn : 89 ≤ n) (hs : St k) (hm : m < 2) (hz : h 70 1 = nI m) (hne : 72 + 5 * m ≠ k)
    (K : ∀ h2, CopyOf (72 + 5 * m) k h h2 → post none (rf0 π) (hup h2 70 1 (nI (m + 1))) lg) : WP l D cy B cX2_push 2 RX2 wsX2_push rmX2_push none (QE0 D cy B n 0 0 (post)) EX0 n (rf0 π) h lg 0 0 27 [some (.ref (B + 70)), some (.ref (B + k))] [] := by
  have hp : St (72 + 5 * m) := by rcases (show m = 0 ∨ m = 1 by omega) with e | e <;> subst e <;> (unfold St; decide)
  have hr : rf0 π 71 m = some (72 + 5 * m) := by rcases (show m = 0 ∨ m = 1 by omega) with e | e <;> subst e <;> rfl
  refine wp_aload_n_0 (pc' := 28) dX2_push_27 rfl ?_
  refine wp_get_2_0 (pc' := 31) (by omega) rfl rfl me_X2_push_0 ic_X2_push_2 dX2_push_28 rfl ?_
  refine wp_aload_n_0 (pc' := 32) dX2_push_31 rfl ?_
  refine wp_get_2_1 (pc' := 35) (by omega) rfl me_X2_push_1 ic_X2_push_2 dX2_push_32 rfl ?_
  rw [hz]
  refine wp_aald (pc' := 36) (N := 2) (by omega) rfl rfl (by first | exact vp_in_nI (by omega) (by omega) | assumption | (unfold vp_in; decide)) (by rw [nI_clamp (by omega)]; exact hr) dX2_push_35 rfl ?_
  refine wp_aload_n_1 (pc' := 37) dX2_push_36 rfl ?_
  refine wp_callVv (pc' := 40) (c_X5_copy hn hp hs hne) gX2_push_X5_copy rfl rfl hy_X5_copy ⟨Nat.le_of_ble_eq_true rfl, Nat.le_of_ble_eq_true rfl⟩ ⟨rfl, rfl⟩ (Nat.le_of_ble_eq_true rfl) ⟨Nat.le_of_ble_eq_true rfl, Nat.le_of_ble_eq_true rfl⟩ (hp.lt (by omega)) (ce5 hp.K) rfl rfl dX2_push_37 rfl (fun h37 q37 => ?_)
  refine wp_aload_n_0 (pc' := 41) dX2_push_40 rfl ?_
  refine wp_dup (pc' := 42) dX2_push_41 rfl rfl ?_
  refine wp_get_2_1 (pc' := 45) (by omega) rfl me_X2_push_1 ic_X2_push_2 dX2_push_42 rfl ?_
  rw [q37.1 70 (by omega), hz]
  refine wp_iconst (pc' := 46) (1) dX2_push_45 rfl (by decide) ?_
  refine wp_iadd (pc' := 47) dX2_push_46 rfl ?_
  rw [nI_1]
  refine wp_put_2_1 (pc' := 50) (by omega) rfl me_X2_push_1 ic_X2_push_2 dX2_push_47 rfl ?_
  refine wp_return dX2_push_50 rfl rfl (Nat.le_refl _) (Nat.le_refl _) ?_
  exact K _ q37
def pπ (π : Nat → Nat) (nu : Nat) : Nat → Nat := if nu < 8 then π else turn π
theorem c_X2_push28 {k nu : Nat} (hn : 89 ≤ n) (hs : St k) (hnu : nu ≤ 8) (hz : h 28 1 = nI nu) (hπ : ∀ i, i < 8 → St (π i)) (hne : ∀ i, i < 8 → π i ≠ k) : Ctr l D cy B yX2_push wsX2_push rmX2_push 0 0 n (rf0 π) h lg [.ref (B + 28), .ref (B + k)] (fun v r1 h1 lg1 => v = none ∧ r1 = rf0 (pπ π nu) ∧ lg1 = lg ∧ ∃ h2, CopyOf (pπ π nu (min nu 7)) k (hup h 28 1 (nI (min nu 7))) h2 ∧ h1 = hup h2 28 1 (nI (min nu 7 + 1))) := by
  refine Ctr.of (cc := cX2_push) (nL := 2) (own := RX2) (rt := none) (ls := [some (.ref (B + 28)), some (.ref (B + k))]) (by decide) rfl rfl (Nat.le_of_ble_eq_true rfl) rfl ?_
  by_cases q : nu < 8
  · have em : min nu 7 = nu := by omega
    have ep : pπ π nu = π := if_pos q
    rw [em, ep, ← hz, hup_same]
    refine wp_aload_n_0 (pc' := 1) dX2_push_0 rfl ?_
    refine wp_get_2_1 (pc' := 4) (by omega) rfl me_X2_push_1 ic_X2_push_2 dX2_push_1 rfl ?_
    refine wp_aload_n_0 (pc' := 5) dX2_push_4 rfl ?_
    refine wp_get_2_0 (pc' := 8) (by omega) rfl rfl me_X2_push_0 ic_X2_push_2 dX2_push_5 rfl ?_
    refine wp_alenq (pc' := 9) (N := 8) (v := 8) (by omega) rfl rfl (by decide) dX2_push_8 rfl ?_
    refine wp_icmp_lt (pc' := 12) (tgt := 27) dX2_push_9 rfl rfl (fun c9 => ?_) (fun c9 => by exfalso; rw [hz] at c9; (simp (disch := omega) only [Int32.lt_iff_toInt_lt, Int32.le_iff_toInt_le, ← Int32.toInt_inj, nI_toInt, il_0, il_1, il_2, il_3, il_4, il_5, il_6, il_8, il_9, il_10, il_16, il_26, il_32, il_40, il_n4, il_n1, il_n2, il_11, il_48, il_57, il_59, il_44, il_126, il_200, il_9999, il_66666, il_10000, il_1000000, il_15, il_12, il_256, il_4096, il_53, il_52] at c9; omega))
    exact push28 hn hs q hz (hπ nu q) (hne nu q) (fun h2 q2 => ⟨rfl, rfl, rfl, h2, q2, rfl⟩)
  · have e8 : nu = 8 := by omega
    subst e8
    have ep : pπ π 8 = turn π := if_neg (by omega)
    rw [ep]
    have hπ7 : turn π 7 = π 0 := rfl
    refine wp_aload_n_0 (pc' := 1) dX2_push_0 rfl ?_
    refine wp_get_2_1 (pc' := 4) (by omega) rfl me_X2_push_1 ic_X2_push_2 dX2_push_1 rfl ?_
    refine wp_aload_n_0 (pc' := 5) dX2_push_4 rfl ?_
    refine wp_get_2_0 (pc' := 8) (by omega) rfl rfl me_X2_push_0 ic_X2_push_2 dX2_push_5 rfl ?_
    refine wp_alenq (pc' := 9) (N := 8) (v := 8) (by omega) rfl rfl (by decide) dX2_push_8 rfl ?_
    refine wp_icmp_lt (pc' := 12) (tgt := 27) dX2_push_9 rfl rfl (fun c9 => by exfalso; rw [hz] at c9; exact absurd c9 (by decide)) (fun c9 => ?_)
    refine wp_aload_n_0 (pc' := 13) dX2_push_12 rfl ?_
    refine wp_callV (pc' := 16) (c_X2_turn hn hπ) gX2_push_X2_turnOldestUp rfl rfl hy_X2_turnOldestUp ⟨Nat.le_of_ble_eq_true rfl, Nat.le_of_ble_eq_true rfl⟩ ⟨rfl, rfl⟩ (Nat.le_of_ble_eq_true rfl) ⟨Nat.le_of_ble_eq_true rfl, Nat.le_of_ble_eq_true rfl⟩ (by omega) (ce2 rfl) rfl rfl dX2_push_13 rfl (fun v13 r13 h13 l13 q13 => ?_)
    obtain ⟨rfl, rfl, rfl, rfl⟩ := q13
    refine wp_aload_n_0 (pc' := 17) dX2_push_16 rfl ?_
    refine wp_aload_n_0 (pc' := 18) dX2_push_17 rfl ?_
    refine wp_get_2_0 (pc' := 21) (by omega) rfl rfl me_X2_push_0 ic_X2_push_2 dX2_push_18 rfl ?_
    refine wp_alenq (pc' := 22) (N := 8) (v := 8) (by omega) rfl rfl (by decide) dX2_push_21 rfl ?_
    refine wp_iconst (pc' := 23) (1) dX2_push_22 rfl (by decide) ?_
    refine wp_isub (pc' := 24) dX2_push_23 rfl ?_
    refine wp_put_2_1 (pc' := 27) (by omega) rfl me_X2_push_1 ic_X2_push_2 dX2_push_24 rfl ?_
    exact push28 hn hs (m := 7) (by omega) (by rw [hup_at]; rfl) (turn_St hπ (by omega)) (by rw [hπ7]; exact hne 0 (by omega)) (fun h2 q2 => ⟨rfl, rfl, rfl, h2, q2, rfl⟩)
theorem c_X2_push70 {k nk : Nat} (hn : 89 ≤ n) (hs : St k) (hnk : nk < 2) (hz : h 70 1 = nI nk) (hne : ∀ i, i < 2 → 72 + 5 * i ≠ k) : Ctr l D cy B yX2_push wsX2_push rmX2_push 0 0 n (rf0 π) h lg [.ref (B + 70), .ref (B + k)] (qV (fun h1 => ∃ h2, CopyOf (72 + 5 * nk) k h h2 ∧ h1 = hup h2 70 1 (nI (nk + 1))) (rf0 π) lg) := by
  refine Ctr.of (cc := cX2_push) (nL := 2) (own := RX2) (rt := none) (ls := [some (.ref (B + 70)), some (.ref (B + k))]) (by decide) rfl rfl (Nat.le_of_ble_eq_true rfl) rfl ?_
  refine wp_aload_n_0 (pc' := 1) dX2_push_0 rfl ?_
  refine wp_get_2_1 (pc' := 4) (by omega) rfl me_X2_push_1 ic_X2_push_2 dX2_push_1 rfl ?_
  refine wp_aload_n_0 (pc' := 5) dX2_push_4 rfl ?_
  refine wp_get_2_0 (pc' := 8) (by omega) rfl rfl me_X2_push_0 ic_X2_push_2 dX2_push_5 rfl ?_
  refine wp_alenq (pc' := 9) (N := 2) (v := 2) (by omega) rfl rfl (by decide) dX2_push_8 rfl ?_
  refine wp_icmp_lt (pc' := 12) (tgt := 27) dX2_push_9 rfl rfl (fun c9 => ?_) (fun c9 => by exfalso; rw [hz] at c9; (simp (disch := omega) only [Int32.lt_iff_toInt_lt, Int32.le_iff_toInt_le, ← Int32.toInt_inj, nI_toInt, il_0, il_1, il_2, il_3, il_4, il_5, il_6, il_8, il_9, il_10, il_16, il_26, il_32, il_40, il_n4, il_n1, il_n2, il_11, il_48, il_57, il_59, il_44, il_126, il_200, il_9999, il_66666, il_10000, il_1000000, il_15, il_12, il_256, il_4096, il_53, il_52] at c9; omega))
  exact push70 hn hs hnk hz (hne nk hnk) (fun h2 q2 => ⟨rfl, rfl, rfl, h2, q2, rfl⟩)
theorem c_X2_pop28 {k nu : Nat} (hn : 89 ≤ n) (hs : St k) (hnu : nu ≤ 8) (hz : h 28 1 = nI nu) (hπ : ∀ i, i < 8 → St (π i)) (hne : ∀ i, i < 8 → π i ≠ k) : Ctr l D cy B yX2_pop wsX2_pop rmX2_pop 0 0 n (rf0 π) h lg [.ref (B + 28), .ref (B + k)] (qI (fun x h' => if nu = 0 then x = 0 ∧ h' = h else x = 1 ∧ CopyOf k (π (nu - 1)) (hup h 28 1 (nI (nu - 1))) h') (rf0 π) lg) := by
  refine Ctr.of (cc := cX2_pop) (nL := 2) (own := RX2) (rt := (some .boolean)) (ls := [some (.ref (B + 28)), some (.ref (B + k))]) (by decide) rfl rfl (Nat.le_of_ble_eq_true rfl) rfl ?_
  by_cases q : nu = 0
  · skip
    refine wp_aload_n_0 (pc' := 1) dX2_pop_0 rfl ?_
    refine wp_get_2_1 (pc' := 4) (by omega) rfl me_X2_pop_0 ic_X2_pop_2 dX2_pop_1 rfl ?_
    refine wp_if_le (pc' := 7) (tgt := 19) dX2_pop_4 rfl rfl (fun c4 => ?_) (fun c4 => by exfalso; rw [hz, q] at c4; exact c4 (by decide))
    refine wp_iconst (pc' := 20) (0) dX2_pop_19 rfl (by decide) ?_
    refine wp_zreturn rfl dX2_pop_20 rfl rfl (Nat.le_refl _) (Nat.le_refl _) ?_
    exact qI_of (by rw [if_pos q]; exact ⟨rfl, rfl⟩)
  · have hp := hπ (nu - 1) (by omega)
    refine wp_aload_n_0 (pc' := 1) dX2_pop_0 rfl ?_
    refine wp_get_2_1 (pc' := 4) (by omega) rfl me_X2_pop_0 ic_X2_pop_2 dX2_pop_1 rfl ?_
    refine wp_if_le (pc' := 7) (tgt := 19) dX2_pop_4 rfl rfl (fun c4 => by exfalso; rw [hz] at c4; (simp (disch := omega) only [Int32.lt_iff_toInt_lt, Int32.le_iff_toInt_le, ← Int32.toInt_inj, nI_toInt, il_0, il_1, il_2, il_3, il_4, il_5, il_6, il_8, il_9, il_10, il_16, il_26, il_32, il_40, il_n4, il_n1, il_n2, il_11, il_48, il_57, il_59, il_44, il_126, il_200, il_9999, il_66666, il_10000, il_1000000, il_15, il_12, il_256, il_4096, il_53, il_52] at c4; omega)) (fun c4 => ?_)
    refine wp_aload_n_0 (pc' := 8) dX2_pop_7 rfl ?_
    refine wp_get_2_1 (pc' := 11) (by omega) rfl me_X2_pop_0 ic_X2_pop_2 dX2_pop_8 rfl ?_
    refine wp_aload_n_0 (pc' := 12) dX2_pop_11 rfl ?_
    refine wp_get_2_0 (pc' := 15) (by omega) rfl rfl me_X2_pop_1 ic_X2_pop_2 dX2_pop_12 rfl ?_
    refine wp_alenq (pc' := 16) (N := 8) (v := 8) (by omega) rfl rfl (by decide) dX2_pop_15 rfl ?_
    refine wp_icmp_le (pc' := 19) (tgt := 21) dX2_pop_16 rfl rfl (fun c16 => ?_) (fun c16 => by exfalso; rw [hz] at c16; (simp (disch := omega) only [Int32.lt_iff_toInt_lt, Int32.le_iff_toInt_le, ← Int32.toInt_inj, nI_toInt, il_0, il_1, il_2, il_3, il_4, il_5, il_6, il_8, il_9, il_10, il_16, il_26, il_32, il_40, il_n4, il_n1, il_n2, il_11, il_48, il_57, il_59, il_44, il_126, il_200, il_9999, il_66666, il_10000, il_1000000, il_15, il_12, il_256, il_4096, il_53, il_52] at c16; omega))
    refine wp_aload_n_0 (pc' := 22) dX2_pop_21 rfl ?_
    refine wp_dup (pc' := 23) dX2_pop_22 rfl rfl ?_
    refine wp_get_2_1 (pc' := 26) (by omega) rfl me_X2_pop_0 ic_X2_pop_2 dX2_pop_23 rfl ?_
    rw [hz]
    refine wp_iconst (pc' := 27) (1) dX2_pop_26 rfl (by decide) ?_
    refine wp_isub (pc' := 28) dX2_pop_27 rfl ?_
    rw [nI_pred' (by omega)]
    refine wp_put_2_1 (pc' := 31) (by omega) rfl me_X2_pop_0 ic_X2_pop_2 dX2_pop_28 rfl ?_
    refine wp_aload_n_1 (pc' := 32) dX2_pop_31 rfl ?_
    refine wp_aload_n_0 (pc' := 33) dX2_pop_32 rfl ?_
    refine wp_get_2_0 (pc' := 36) (by omega) rfl rfl me_X2_pop_1 ic_X2_pop_2 dX2_pop_33 rfl ?_
    refine wp_aload_n_0 (pc' := 37) dX2_pop_36 rfl ?_
    refine wp_get_2_1 (pc' := 40) (by omega) rfl me_X2_pop_0 ic_X2_pop_2 dX2_pop_37 rfl ?_
    rw [hup_at]
    refine wp_aald (pc' := 41) (N := 8) (by omega) rfl rfl (by first | exact vp_in_nI (by omega) (by omega) | assumption | (unfold vp_in; decide)) (by rw [nI_clamp (by omega)]; exact rf0_at (by omega)) dX2_pop_40 rfl ?_
    refine wp_callVv (pc' := 44) (c_X5_copy hn hs hp (Ne.symm (hne (nu - 1) (by omega)))) gX2_pop_X5_copy rfl rfl hy_X5_copy ⟨Nat.le_of_ble_eq_true rfl, Nat.le_of_ble_eq_true rfl⟩ ⟨rfl, rfl⟩ (Nat.le_of_ble_eq_true rfl) ⟨Nat.le_of_ble_eq_true rfl, Nat.le_of_ble_eq_true rfl⟩ (hs.lt (by omega)) (ce5 hs.K) rfl rfl dX2_pop_41 rfl (fun h41 q41 => ?_)
    refine wp_iconst (pc' := 45) (1) dX2_pop_44 rfl (by decide) ?_
    refine wp_zreturn rfl dX2_pop_45 rfl rfl (Nat.le_refl _) (Nat.le_refl _) ?_
    exact qI_of (by rw [if_neg q]; exact ⟨rfl, q41⟩)
theorem c_X2_pop70 {k nk : Nat} (hn : 89 ≤ n) (hs : St k) (hnk : nk ≤ 2) (hz : h 70 1 = nI nk) (hne : ∀ i, i < 2 → 72 + 5 * i ≠ k) : Ctr l D cy B yX2_pop wsX2_pop rmX2_pop 0 0 n (rf0 π) h lg [.ref (B + 70), .ref (B + k)] (qI (fun x h' => if nk = 0 then x = 0 ∧ h' = h else x = 1 ∧ CopyOf k (72 + 5 * (nk - 1)) (hup h 70 1 (nI (nk - 1))) h') (rf0 π) lg) := by
  refine Ctr.of (cc := cX2_pop) (nL := 2) (own := RX2) (rt := (some .boolean)) (ls := [some (.ref (B + 70)), some (.ref (B + k))]) (by decide) rfl rfl (Nat.le_of_ble_eq_true rfl) rfl ?_
  by_cases q : nk = 0
  · skip
    refine wp_aload_n_0 (pc' := 1) dX2_pop_0 rfl ?_
    refine wp_get_2_1 (pc' := 4) (by omega) rfl me_X2_pop_0 ic_X2_pop_2 dX2_pop_1 rfl ?_
    refine wp_if_le (pc' := 7) (tgt := 19) dX2_pop_4 rfl rfl (fun c4 => ?_) (fun c4 => by exfalso; rw [hz, q] at c4; exact c4 (by decide))
    refine wp_iconst (pc' := 20) (0) dX2_pop_19 rfl (by decide) ?_
    refine wp_zreturn rfl dX2_pop_20 rfl rfl (Nat.le_refl _) (Nat.le_refl _) ?_
    exact qI_of (by rw [if_pos q]; exact ⟨rfl, rfl⟩)
  · have hp : St (72 + 5 * (nk - 1)) := by rcases (show nk = 1 ∨ nk = 2 by omega) with e | e <;> subst e <;> (unfold St; decide)
    have hr : rf0 π 71 (nk - 1) = some (72 + 5 * (nk - 1)) := by rcases (show nk = 1 ∨ nk = 2 by omega) with e | e <;> subst e <;> rfl
    refine wp_aload_n_0 (pc' := 1) dX2_pop_0 rfl ?_
    refine wp_get_2_1 (pc' := 4) (by omega) rfl me_X2_pop_0 ic_X2_pop_2 dX2_pop_1 rfl ?_
    refine wp_if_le (pc' := 7) (tgt := 19) dX2_pop_4 rfl rfl (fun c4 => by exfalso; rw [hz] at c4; (simp (disch := omega) only [Int32.lt_iff_toInt_lt, Int32.le_iff_toInt_le, ← Int32.toInt_inj, nI_toInt, il_0, il_1, il_2, il_3, il_4, il_5, il_6, il_8, il_9, il_10, il_16, il_26, il_32, il_40, il_n4, il_n1, il_n2, il_11, il_48, il_57, il_59, il_44, il_126, il_200, il_9999, il_66666, il_10000, il_1000000, il_15, il_12, il_256, il_4096, il_53, il_52] at c4; omega)) (fun c4 => ?_)
    refine wp_aload_n_0 (pc' := 8) dX2_pop_7 rfl ?_
    refine wp_get_2_1 (pc' := 11) (by omega) rfl me_X2_pop_0 ic_X2_pop_2 dX2_pop_8 rfl ?_
    refine wp_aload_n_0 (pc' := 12) dX2_pop_11 rfl ?_
    refine wp_get_2_0 (pc' := 15) (by omega) rfl rfl me_X2_pop_1 ic_X2_pop_2 dX2_pop_12 rfl ?_
    refine wp_alenq (pc' := 16) (N := 2) (v := 2) (by omega) rfl rfl (by decide) dX2_pop_15 rfl ?_
    refine wp_icmp_le (pc' := 19) (tgt := 21) dX2_pop_16 rfl rfl (fun c16 => ?_) (fun c16 => by exfalso; rw [hz] at c16; (simp (disch := omega) only [Int32.lt_iff_toInt_lt, Int32.le_iff_toInt_le, ← Int32.toInt_inj, nI_toInt, il_0, il_1, il_2, il_3, il_4, il_5, il_6, il_8, il_9, il_10, il_16, il_26, il_32, il_40, il_n4, il_n1, il_n2, il_11, il_48, il_57, il_59, il_44, il_126, il_200, il_9999, il_66666, il_10000, il_1000000, il_15, il_12, il_256, il_4096, il_53, il_52] at c16; omega))
    refine wp_aload_n_0 (pc' := 22) dX2_pop_21 rfl ?_
    refine wp_dup (pc' := 23) dX2_pop_22 rfl rfl ?_
    refine wp_get_2_1 (pc' := 26) (by omega) rfl me_X2_pop_0 ic_X2_pop_2 dX2_pop_23 rfl ?_
    rw [hz]
    refine wp_iconst (pc' := 27) (1) dX2_pop_26 rfl (by decide) ?_
    refine wp_isub (pc' := 28) dX2_pop_27 rfl ?_
    rw [nI_pred' (by omega)]
    refine wp_put_2_1 (pc' := 31) (by omega) rfl me_X2_pop_0 ic_X2_pop_2 dX2_pop_28 rfl ?_
    refine wp_aload_n_1 (pc' := 32) dX2_pop_31 rfl ?_
    refine wp_aload_n_0 (pc' := 33) dX2_pop_32 rfl ?_
    refine wp_get_2_0 (pc' := 36) (by omega) rfl rfl me_X2_pop_1 ic_X2_pop_2 dX2_pop_33 rfl ?_
    refine wp_aload_n_0 (pc' := 37) dX2_pop_36 rfl ?_
    refine wp_get_2_1 (pc' := 40) (by omega) rfl me_X2_pop_0 ic_X2_pop_2 dX2_pop_37 rfl ?_
    rw [hup_at]
    refine wp_aald (pc' := 41) (N := 2) (by omega) rfl rfl (by first | exact vp_in_nI (by omega) (by omega) | assumption | (unfold vp_in; decide)) (by rw [nI_clamp (by omega)]; exact hr) dX2_pop_40 rfl ?_
    refine wp_callVv (pc' := 44) (c_X5_copy hn hs hp (Ne.symm (hne (nk - 1) (by omega)))) gX2_pop_X5_copy rfl rfl hy_X5_copy ⟨Nat.le_of_ble_eq_true rfl, Nat.le_of_ble_eq_true rfl⟩ ⟨rfl, rfl⟩ (Nat.le_of_ble_eq_true rfl) ⟨Nat.le_of_ble_eq_true rfl, Nat.le_of_ble_eq_true rfl⟩ (hs.lt (by omega)) (ce5 hs.K) rfl rfl dX2_pop_41 rfl (fun h41 q41 => ?_)
    refine wp_iconst (pc' := 45) (1) dX2_pop_44 rfl (by decide) ?_
    refine wp_zreturn rfl dX2_pop_45 rfl rfl (Nat.le_refl _) (Nat.le_refl _) ?_
    exact qI_of (by rw [if_neg q]; exact ⟨rfl, q41⟩)
theorem c_X2_clear28 (hn : 89 ≤ n) : Ctr l D cy B yX2_clear wsX2_clear rmX2_clear 0 0 n (rf0 π) h lg [.ref (B + 28)] (qV (fun h1 => h1 = hup h 28 1 0) (rf0 π) lg) := by
  refine Ctr.of (cc := cX2_clear) (nL := 1) (own := RX2) (rt := none) (ls := [some (.ref (B + 28))]) (by decide) rfl rfl (Nat.le_of_ble_eq_true rfl) rfl ?_
  refine wp_aload_n_0 (pc' := 1) dX2_clear_0 rfl ?_
  refine wp_iconst (pc' := 2) (0) dX2_clear_1 rfl (by decide) ?_
  refine wp_put_2_1 (pc' := 5) (by omega) rfl me_X2_clear_0 ic_X2_clear_2 dX2_clear_2 rfl ?_
  refine wp_return dX2_clear_5 rfl rfl (Nat.le_refl _) (Nat.le_refl _) ?_
  exact qV_of rfl
theorem c_X2_clear70 (hn : 89 ≤ n) : Ctr l D cy B yX2_clear wsX2_clear rmX2_clear 0 0 n (rf0 π) h lg [.ref (B + 70)] (qV (fun h1 => h1 = hup h 70 1 0) (rf0 π) lg) := by
  refine Ctr.of (cc := cX2_clear) (nL := 1) (own := RX2) (rt := none) (ls := [some (.ref (B + 70))]) (by decide) rfl rfl (Nat.le_of_ble_eq_true rfl) rfl ?_
  refine wp_aload_n_0 (pc' := 1) dX2_clear_0 rfl ?_
  refine wp_iconst (pc' := 2) (0) dX2_clear_1 rfl (by decide) ?_
  refine wp_put_2_1 (pc' := 5) (by omega) rfl me_X2_clear_0 ic_X2_clear_2 dX2_clear_2 rfl ?_
  refine wp_return dX2_clear_5 rfl rfl (Nat.le_refl _) (Nat.le_refl _) ?_
  exact qV_of rfl
end VPM

