abbrev rmX3_readItem : Room := { frames := 3, cells := 0, slots := 0, locals := 66 }
theorem hy_X3_readItem : yX3_readItem.cls = RX3 ∧ yX3_readItem.cls ≠ "java/lang/invoke/MethodHandle" ∧ yX3_readItem.cls ≠ "java/lang/invoke/VarHandle" ∧ (parseMethodDescriptor yX3_readItem.desc).map (fun d => d.parameters.length) = some 0 := by decide +kernel
theorem hz_X3_readItem : yX3_readItem.cls ≠ "java/lang/invoke/MethodHandle" ∧ yX3_readItem.cls ≠ "java/lang/invoke/VarHandle" ∧ (parseMethodDescriptor yX3_readItem.desc).map (fun d => d.parameters.length) = some 0 := by decide +kernel
theorem me_X3_readWalk_3 : Cond.fieldLink RX3 36 "DrawnByLost$Reader" "onlyDeltas" "Z" ∈ wsX3_readWalk := by decide +kernel
theorem me_X3_readWalk_4 : Cond.static yX7_isKind ∈ wsX3_readWalk := by decide +kernel
theorem me_X3_readWalk_5 : Cond.initialized yX7_isKind.cls ∈ wsX3_readWalk := by decide +kernel
theorem me_X3_readItem_0 : Cond.fieldLink RX3 36 "DrawnByLost$Reader" "onlyDeltas" "Z" ∈ wsX3_readItem := by decide +kernel
theorem ic_X3_readItem_3 : ∀ w ∈ wsX30, w ∈ wsX3_readItem := by decide +kernel
-- Reader: an item; the whole text
section VR3
variable {l : Launch} {D : va_G} {cy : CY} {B n : Nat} {h : Hp} {lg : Lg} {π : Nat → Nat}
def okW (len : Nat) (tx ρ : Nat → Nat) (p : Nat) : Prop := 48 ≤ ltr len tx p ∧ ltr len tx p ≤ 51 ∧ ρ 16 < 5 ∧ 2 ≤ nlead len tx 6 (p + 1) ∧ nlead len tx 6 (p + 1) ≤ 5 ∧ ltr len tx (p + 1 + nlead len tx 6 (p + 1)) = 59
theorem WS.xr {h h' : Hp} {len : Nat} {tx ρ : Nat → Nat} {κ p t : Nat} (W : WS h h' len tx ρ κ p t) (xr : XR h 5 ρ) (ok : RowOK ρ) (h5 : t ≤ 5) : XR h' 5 (addW ρ κ t (fun j => ltr len tx (p + j) - 48)) := by
  obtain ⟨w0, w1, w2, w3, w4, w5, w6, w7, w8⟩ := W
  obtain ⟨x1, x2, x3⟩ := xr
  refine ⟨fun i hi => ?_, by rw [addW_16]; exact w4, fun w hw => ?_⟩
  · rw [addW_lo hi, w0 6 (by decide) (by decide) (by decide) (by decide) (by decide)]
    exact x1 i hi
  · rw [addW_16] at hw
    by_cases e : w = ρ 16
    · subst e
      rw [addW_k, addW_n]
      exact ⟨w6, w7, fun j hj => by rw [addW_m hj (by omega)]; exact w8 j hj⟩
    · obtain ⟨y1, y2, y3⟩ := w5 w (by omega)
      obtain ⟨z1, z2, z3⟩ := x3 w (by omega)
      obtain ⟨o1, o2, o3, o4⟩ := ok.2.2 w (by omega)
      rw [addW_old (by omega) (by omega), addW_old (by omega) (by omega)]
      exact ⟨y1.trans z1, y2.trans z2, fun j hj => by rw [addW_old (by omega) (by omega)]; exact (y3 j (by omega)).trans (z3 j hj)⟩
theorem c_X3_readWalk {len p : Nat} {tx ρ : Nat → Nat} (hn : 89 ≤ n) (T : TX h len tx) (hp : h 1 2 = nI p) (hp2 : p < 600) (xr : XR h 5 ρ) (ok : RowOK ρ) : Ctr l D cy B yX3_readWalk wsX3_readWalk rmX3_readWalk 0 0 n (rf0 π) h lg [.ref (B + 1)] (qI (fun x h' => ((okW len tx ρ p ∧ x = 1) ∨ (¬ okW len tx ρ p ∧ x = 0)) ∧ (∀ a, a ≠ 1 → a ≠ 5 → a ≠ 7 → a ≠ 8 → a ≠ 9 → h' a = h a) ∧ h' 1 1 = h 1 1 ∧ (okW len tx ρ p → h' 1 2 = nI (p + 2 + nlead len tx 6 (p + 1)) ∧ h' 1 5 = 0 ∧ XR h' 5 (addW ρ (ltr len tx p - 48) (nlead len tx 6 (p + 1)) (fun j => ltr len tx (p + 1 + j) - 48)))) (rf0 π) lg) := by
  have T1 : TX (hup h 1 5 0) len tx := T.of_eq (hup_off (by decide)) (hup_cell (by decide))
  have T2 : TX (hup (hup h 1 5 0) 1 2 (nI (p + 1))) len tx := T1.of_eq (hup_off (by decide)) (hup_cell (by decide))
  have hw : hup (hup h 1 5 0) 1 2 (nI (p + 1)) 5 4 = nI (ρ 16) := by rw [hup_cell (by decide), hup_cell (by decide)]; exact xr.2.1
  refine Ctr.of (cc := cX3_readWalk) (nL := 6) (own := RX3) (rt := (some .boolean)) (ls := [some (.ref (B + 1)), none, none, none, none, none]) (by decide) rfl rfl (Nat.le_of_ble_eq_true rfl) rfl ?_
  refine wp_aload_n_0 (pc' := 1) dX3_readWalk_0 rfl ?_
  refine wp_iconst (pc' := 2) (0) dX3_readWalk_1 rfl (by decide) ?_
  refine wp_put_3_5 (pc' := 5) (by omega) rfl me_X3_readWalk_3 ic_X3_readWalk_3 (by decide) dX3_readWalk_2 rfl ?_
  refine wp_aload_n_0 (pc' := 6) dX3_readWalk_5 rfl ?_
  refine wp_callVq (pc' := 9) (c_X3_next (p := p) hn T1 (by rw [hup_off (by decide)]; exact hp) (by omega)) gX3_readWalk_X3_next rfl rfl hy_X3_next ⟨Nat.le_of_ble_eq_true rfl, Nat.le_of_ble_eq_true rfl⟩ ⟨rfl, rfl⟩ (Nat.le_of_ble_eq_true rfl) ⟨Nat.le_of_ble_eq_true rfl, Nat.le_of_ble_eq_true rfl⟩ (by omega) (ce3 rfl) rfl rfl dX3_readWalk_6 rfl (fun x6 h6 q6 => ?_)
  obtain ⟨g0, g1⟩ := q6
  subst g0
  subst g1
  refine wp_callSu (pc' := 12) (c_fig T2) gX3_readWalk_X3_figure rfl rfl hz_X3_figure ⟨Nat.le_of_ble_eq_true rfl, Nat.le_of_ble_eq_true rfl⟩ ⟨rfl, rfl⟩ (Nat.le_of_ble_eq_true rfl) ⟨Nat.le_of_ble_eq_true rfl, Nat.le_of_ble_eq_true rfl⟩ rfl dX3_readWalk_9 rfl ?_
  refine wp_istore_n_1 (pc' := 13) dX3_readWalk_12 (by decide) rfl rfl ?_
  refine wp_iload_n_1 (pc' := 14) dX3_readWalk_13 rfl ?_
  refine wp_callSNu (pc' := 17) (c_X7_isKind _) gX3_readWalk_X7_isKind_n94 rfl rfl me_X3_readWalk_5 (by decide +kernel) me_X3_readWalk_4 hz_X7_isKind ⟨Nat.le_of_ble_eq_true rfl, Nat.le_of_ble_eq_true rfl⟩ ⟨rfl, rfl⟩ (Nat.le_of_ble_eq_true rfl) ⟨Nat.le_of_ble_eq_true rfl, Nat.le_of_ble_eq_true rfl⟩ rfl dX3_readWalk_14 rfl ?_
  refine wp_if_eq (pc' := 20) (tgt := 31) dX3_readWalk_17 rfl rfl (fun c17 => ?_) (fun c17 => ?_)
  · skip -- 17 taken
    have no : ¬ okW len tx ρ p := fun z => by
      have z2 := b2i_eq0.mp c17
      simp only [decide_eq_false_iff_not] at z2
      obtain ⟨z3, z4, _⟩ := z
      have e : dig len tx p = some (ltr len tx p - 48) := by unfold dig; rw [if_pos ⟨z3, by omega⟩]
      rw [figI_some e] at z2
      exact z2 ⟨nI_pos' (by omega), nI_le (b := 3) (by omega) (by omega)⟩
    refine wp_iconst (pc' := 32) (0) dX3_readWalk_31 rfl (by decide) ?_
    refine wp_zreturn (by decide) dX3_readWalk_32 rfl rfl (Nat.le_refl _) (Nat.le_refl _) ?_
    exact qI_of ⟨Or.inr ⟨no, rfl⟩, fun a h1 _ _ _ _ => by rw [hup_cell h1, hup_cell h1], by rw [hup_off (by decide), hup_off (by decide)], fun z => absurd z no⟩
  · skip -- 17 not taken
    have z2 := b2i_ne0.mp c17
    simp only [decide_eq_true_eq] at z2
    obtain ⟨κ, hκ⟩ : ∃ κ, dig len tx p = some κ := by
      cases e : dig len tx p with
      | none =>
        have := figI_neg.mpr e
        exact absurd z2.1 (Int32.not_le.mpr this)
      | some a => exact ⟨a, rfl⟩
    have hκ9 := dig_le hκ
    have hκl := dig_ltr hκ
    rw [figI_some hκ] at z2
    have hκ3 : κ ≤ 3 := by have z3 := z2.2; (simp (disch := omega) only [Int32.lt_iff_toInt_lt, Int32.le_iff_toInt_le, ← Int32.toInt_inj, nI_toInt, il_0, il_1, il_2, il_3, il_4, il_5, il_6, il_8, il_9, il_10, il_16, il_26, il_32, il_40, il_n4, il_n1, il_n2, il_11, il_48, il_57, il_59, il_44, il_126, il_200, il_9999, il_66666, il_10000, il_1000000, il_15, il_12, il_256, il_4096, il_53, il_52] at z3; omega)
    rw [figI_some hκ]
    refine wp_aload_n_0 (pc' := 21) dX3_readWalk_20 rfl ?_
    refine wp_get_3_7 (pc' := 24) (by omega) rfl rfl me_X3_readWalk_2 ic_X3_readWalk_3 dX3_readWalk_21 rfl ?_
    refine wp_iload_n_1 (pc' := 25) dX3_readWalk_24 rfl ?_
    refine wp_callVq (pc' := 28) (c_X5_begin hn st5 hw ok.2.1) gX3_readWalk_X5_begin rfl rfl hy_X5_begin ⟨Nat.le_of_ble_eq_true rfl, Nat.le_of_ble_eq_true rfl⟩ ⟨rfl, rfl⟩ (Nat.le_of_ble_eq_true rfl) ⟨Nat.le_of_ble_eq_true rfl, Nat.le_of_ble_eq_true rfl⟩ (by omega) (ce5 rfl) rfl rfl dX3_readWalk_25 rfl (fun x25 h25 q25 => ?_)
    refine wp_if_ne (pc' := 31) (tgt := 33) dX3_readWalk_28 rfl rfl (fun c28 => ?_) (fun c28 => ?_)
    · skip -- 28 taken
      have h5 : ρ 16 < 5 := by
        apply Classical.byContradiction
        intro z
        rw [if_neg z] at q25
        exact c28 q25.1
      rw [if_pos h5] at q25
      obtain ⟨_, g3⟩ := q25
      subst g3
      refine wp_iconst (pc' := 34) (0) dX3_readWalk_33 rfl (by decide) ?_
      refine wp_istore_n_2 (pc' := 35) dX3_readWalk_34 (by decide) rfl rfl ?_
      refine wp_iconst (pc' := 36) (0) dX3_readWalk_35 rfl (by decide) ?_
      refine wp_istore_n_3 (pc' := 37) dX3_readWalk_36 (by decide) rfl rfl ?_
      refine lp_X3_readWalk (p := p + 1) (κ := κ) (ρ := ρ) hn h T (by omega) h5 (fun h' t W nl t5 c59 t2 => ?_) (fun h' e0 e1 no => ?_) 5 0 (by omega) _ ?_ (fun j hj => by omega) _ _ rfl
      · have hok : okW len tx ρ p := ⟨by omega, by omega, h5, by rw [nl]; exact t2, by rw [nl]; exact t5, by rw [nl]; exact c59⟩
        refine qI_of ⟨Or.inl ⟨hok, rfl⟩, fun a h1 h2 h3 h4 h5 => by rw [hup_cell h1]; exact W.1 a h1 h2 h3 h4 h5, by rw [hup_off (by decide)]; exact W.2.1, fun _ => ⟨by rw [hup_at, nl]; congr 1; omega, by rw [hup_off (by decide)]; exact W.2.2.1, ?_⟩⟩
        rw [nl, show ltr len tx p - 48 = κ by omega]
        exact (W.xr xr ok t5).congr (fun a h1 h2 => hup_cell (by omega))
      · have hno : ¬ okW len tx ρ p := fun z => no ⟨z.2.2.2.1, z.2.2.2.2.1, z.2.2.2.2.2⟩
        exact qI_of ⟨Or.inr ⟨hno, rfl⟩, e0, e1, fun z => absurd z hno⟩
      · refine ⟨fun a h1 h2 h3 h4 h5 => ?_, ?_, ?_, ?_, ?_, fun w hw => ⟨?_, ?_, fun j hj => ?_⟩, ?_, ?_, fun j hj => by omega⟩
        · rw [hup_cell h2, hup_cell h4, hup_cell h3, hup_cell h1, hup_cell h1]
        · rw [hup_cell (by decide), hup_cell (by decide), hup_cell (by decide), hup_off (by decide), hup_off (by decide)]
        · rw [hup_cell (by decide), hup_cell (by decide), hup_cell (by decide), hup_off (by decide), hup_at]
        · rw [hup_cell (by decide), hup_cell (by decide), hup_cell (by decide), hup_at]
        · rw [hup_at]
        · rw [hup_cell (by decide), hup_cell (by decide), hup_off (by omega), hup_cell (by decide), hup_cell (by decide)]
        · rw [hup_cell (by decide), hup_off (by omega), hup_cell (by decide), hup_cell (by decide), hup_cell (by decide)]
        · rw [hup_cell (by decide), hup_cell (by decide), hup_cell (by decide), hup_cell (by decide), hup_cell (by decide)]
        · rw [hup_cell (by decide), hup_cell (by decide), hup_at]
        · rw [hup_cell (by decide), hup_at]; rfl
    · skip -- 28 not taken
      have no : ¬ okW len tx ρ p := fun z => by
        rw [if_pos z.2.2.1] at q25
        rw [q25.1] at c28
        exact absurd c28 (by decide)
      have h5 : ¬ ρ 16 < 5 := fun z => by
        rw [if_pos z] at q25
        rw [q25.1] at c28
        exact absurd c28 (by decide)
      rw [if_neg h5] at q25
      obtain ⟨_, g3⟩ := q25
      subst g3
      refine wp_iconst (pc' := 32) (0) dX3_readWalk_31 rfl (by decide) ?_
      refine wp_zreturn (by decide) dX3_readWalk_32 rfl rfl (Nat.le_refl _) (Nat.le_refl _) ?_
      exact qI_of ⟨Or.inr ⟨no, rfl⟩, fun a h1 _ _ _ _ => by rw [hup_cell h1, hup_cell h1], by rw [hup_off (by decide), hup_off (by decide)], fun z => absurd z no⟩
theorem lk_d4 {a b c d oa ob oc od dd x : Int} (ha : ¬ x = a) (hb : ¬ x = b) (hc : ¬ x = c) (hd : ¬ x = d) : Op.lookupswitch.offset [(a, oa), (b, ob), (c, oc), (d, od)] dd x = dd := by
  rw [Op.lookupswitch.offset_cons, if_neg (fun q => ha q.symm), Op.lookupswitch.offset_cons, if_neg (fun q => hb q.symm), Op.lookupswitch.offset_cons, if_neg (fun q => hc q.symm), Op.lookupswitch.offset_cons, if_neg (fun q => hd q.symm)]
  rfl
theorem pair_some {len p : Nat} {tx : Nat → Nat} (h : ¬ b2i (pair len tx p).isSome = 0) : ∃ a b q, pair len tx p = some (a, b, q) := by
  cases e : pair len tx p with
  | none => rw [e] at h; exact absurd rfl h
  | some x => exact ⟨x.1, x.2.1, x.2.2, rfl⟩
theorem pair_none {len p : Nat} {tx : Nat → Nat} (h : b2i (pair len tx p).isSome = 0) : pair len tx p = none := by
  cases e : pair len tx p with
  | none => rfl
  | some x => rw [e] at h; exact absurd h (by simp [b2i])
theorem c_X3_readItem {len p : Nat} {tx : Nat → Nat} {s : PSt} (hn : 89 ≤ n) (T : TX h len tx) (hp : h 1 2 = nI p) (hpl : p < len) (rs : RS h s) (ps : PSok s) : Ctr l D cy B yX3_readItem wsX3_readItem rmX3_readItem 0 0 n (rf0 π) h lg [.ref (B + 1)] (qI (fun x h' => x = b2i (item len tx p s).isSome ∧ (∀ a, a = 0 ∨ a = 2 ∨ 10 ≤ a → h' a = h a) ∧ h' 1 1 = h 1 1 ∧ ∀ q s', item len tx p s = some (q, s') → h' 1 2 = nI q ∧ RS h' s' ∧ PSok s') (rf0 π) lg) := by
  have hl := T.2.1
  have hpk : pkI len tx p = nI (ltr len tx p) := by unfold pkI ltr; rw [if_pos hpl, if_pos hpl]
  have hb := T.2.2 p hpl
  have hL : ltr len tx p < 1000 := by unfold ltr; rw [if_pos hpl]; omega
  have T1 : TX (hup h 1 2 (nI (p + 1))) len tx := T.of_eq (hup_off (by decide)) (hup_cell (by decide))
  obtain ⟨r1, r2, r3, r4⟩ := id rs
  obtain ⟨p1, p2, p3⟩ := id ps
  have hl2 := p1.le
  have none_ : ∀ h' : Hp, (∀ a, a = 0 ∨ a = 2 ∨ 10 ≤ a → h' a = h a) → h' 1 1 = h 1 1 → item len tx p s = none → (fun (x : Int32) (h' : Hp) => x = b2i (item len tx p s).isSome ∧ (∀ a, a = 0 ∨ a = 2 ∨ 10 ≤ a → h' a = h a) ∧ h' 1 1 = h 1 1 ∧ ∀ q s', item len tx p s = some (q, s') → h' 1 2 = nI q ∧ RS h' s' ∧ PSok s') 0 h' := by
    intro h' e1 e2 e3
    exact ⟨by rw [e3]; rfl, e1, e2, fun q s' e => by rw [e3] at e; cases e⟩
  refine Ctr.of (cc := cX3_readItem) (nL := 1) (own := RX3) (rt := (some .boolean)) (ls := [some (.ref (B + 1))]) (by decide) rfl rfl (Nat.le_of_ble_eq_true rfl) rfl ?_
  refine wp_aload_n_0 (pc' := 1) dX3_readItem_0 rfl ?_
  refine wp_callVq (pc' := 4) (c_X3_next hn T hp (by omega)) gX3_readItem_X3_next rfl rfl hy_X3_next ⟨Nat.le_of_ble_eq_true rfl, Nat.le_of_ble_eq_true rfl⟩ ⟨rfl, rfl⟩ (Nat.le_of_ble_eq_true rfl) ⟨Nat.le_of_ble_eq_true rfl, Nat.le_of_ble_eq_true rfl⟩ (by omega) (ce3 rfl) rfl rfl dX3_readItem_1 rfl (fun x1 h1 q1 => ?_)
  obtain ⟨g0, g1⟩ := q1
  subst g0
  subst g1
  rw [hpk]
  rcases (by omega : ltr len tx p = 100 ∨ ltr len tx p = 104 ∨ ltr len tx p = 109 ∨ ltr len tx p = 119 ∨ (ltr len tx p ≠ 100 ∧ ltr len tx p ≠ 104 ∧ ltr len tx p ≠ 109 ∧ ltr len tx p ≠ 119)) with e | e | e | e | e <;> first | rw [e] | skip
  · skip -- case 100
    refine wp_lookup (off := 44) (tgt := 48) dX3_readItem_4 (by decide) rfl rfl ?_
    refine wp_aload_n_0 (pc' := 49) dX3_readItem_48 rfl ?_
    refine wp_get_3_5 (pc' := 52) (by omega) rfl me_X3_readItem_0 ic_X3_readItem_3 dX3_readItem_49 rfl ?_
    refine wp_if_eq (pc' := 55) (tgt := 73) dX3_readItem_52 rfl rfl (fun c52 => ?_) (fun c52 => ?_)
    · skip -- 52 taken
      rw [hup_off (by decide), r4] at c52
      have f0 := b2i_eq0.mp c52
      have f1 : item len tx p s = none := by unfold item; rw [if_pos e, f0]; rfl
      refine wp_iconst (pc' := 74) (0) dX3_readItem_73 rfl (by decide) ?_
      refine wp_zreturn rfl dX3_readItem_74 rfl rfl (Nat.le_refl _) (Nat.le_refl _) ?_
      exact qI_of (none_ _ (fun a ha => by rw [hup_cell (by omega)]) (hup_off (by decide)) f1)
    · skip -- 52 not taken
      rw [hup_off (by decide), r4] at c52
      have f0 := b2i_ne0.mp c52
      refine wp_aload_n_0 (pc' := 56) dX3_readItem_55 rfl ?_
      refine wp_callVq (pc' := 59) (c_X3_readPair (p := p + 1) hn T1 (hup_at _ _ _ _) (by omega)) gX3_readItem_X3_readPair rfl rfl hy_X3_readPair ⟨Nat.le_of_ble_eq_true rfl, Nat.le_of_ble_eq_true rfl⟩ ⟨rfl, rfl⟩ (Nat.le_of_ble_eq_true rfl) ⟨Nat.le_of_ble_eq_true rfl, Nat.le_of_ble_eq_true rfl⟩ (by omega) (ce3 rfl) rfl rfl dX3_readItem_56 rfl (fun x56 h56 q56 => ?_)
      obtain ⟨g0, g1, g2, g3, g4⟩ := q56
      subst g0
      refine wp_if_eq (pc' := 62) (tgt := 73) dX3_readItem_59 rfl rfl (fun c59 => ?_) (fun c59 => ?_)
      · skip -- 59 taken
        have f1 : item len tx p s = none := by unfold item; rw [if_pos e, if_pos f0, pair_none c59]
        refine wp_iconst (pc' := 74) (0) dX3_readItem_73 rfl (by decide) ?_
        refine wp_zreturn rfl dX3_readItem_74 rfl rfl (Nat.le_refl _) (Nat.le_refl _) ?_
        exact qI_of (none_ _ (fun a ha => by rw [g1 a (by omega), hup_cell (by omega)]) (by rw [g2, hup_off (by decide)]) f1)
      · skip -- 59 not taken
        obtain ⟨a, b, q, hq⟩ := pair_some c59
        have hq2 := pair_le hq
        obtain ⟨g5, g6, g7⟩ := g4 a b q hq
        refine wp_aload_n_0 (pc' := 63) dX3_readItem_62 rfl ?_
        refine wp_callVq (pc' := 66) (c_X3_takeShape hn g6 g7 hq2.1 hq2.2.1) gX3_readItem_X3_takeShape rfl rfl hy_X3_takeShape ⟨Nat.le_of_ble_eq_true rfl, Nat.le_of_ble_eq_true rfl⟩ ⟨rfl, rfl⟩ (Nat.le_of_ble_eq_true rfl) ⟨Nat.le_of_ble_eq_true rfl, Nat.le_of_ble_eq_true rfl⟩ (by omega) (ce3 rfl) rfl rfl dX3_readItem_63 rfl (fun x63 h63 q63 => ?_)
        refine wp_if_eq (pc' := 69) (tgt := 73) dX3_readItem_66 rfl rfl (fun c66 => ?_) (fun c66 => ?_)
        · skip -- 66 taken
          have no : ¬ (2 ≤ a ∧ a ≤ 4 ∧ 2 ≤ b ∧ b ≤ 4) := fun z => by
            rw [if_pos z] at q63
            rw [q63.1] at c66
            exact absurd c66 (by decide)
          rw [if_neg no] at q63
          have f1 : item len tx p s = none := by
            unfold item; rw [if_pos e, if_pos f0, hq]
            simp only
            rw [if_neg no]
          obtain ⟨_, g8⟩ := q63
          subst g8
          refine wp_iconst (pc' := 74) (0) dX3_readItem_73 rfl (by decide) ?_
          refine wp_zreturn rfl dX3_readItem_74 rfl rfl (Nat.le_refl _) (Nat.le_refl _) ?_
          exact qI_of (none_ _ (fun a ha => by rw [g1 a (by omega), hup_cell (by omega)]) (by rw [g2, hup_off (by decide)]) f1)
        · skip -- 66 not taken
          have yes : 2 ≤ a ∧ a ≤ 4 ∧ 2 ≤ b ∧ b ≤ 4 := by
            apply Classical.byContradiction
            intro z
            rw [if_neg z] at q63
            exact c66 q63.1
          rw [if_pos yes] at q63
          obtain ⟨_, g8, g9⟩ := q63
          have f1 : item len tx p s = some (q, (a, b, true, s.2.2.2.1, s.2.2.2.2)) := by
            unfold item; rw [if_pos e, if_pos f0, hq]
            simp only
            rw [if_pos yes]
          refine wp_iconst (pc' := 70) (1) dX3_readItem_69 rfl (by decide) ?_
          refine wp_goto (tgt := 74) dX3_readItem_70 rfl ?_
          refine wp_zreturn rfl dX3_readItem_74 rfl rfl (Nat.le_refl _) (Nat.le_refl _) ?_
          refine qI_of ⟨by rw [f1]; rfl, fun a ha => by rw [g8 a (by omega), g1 a (by omega), hup_cell (by omega)], by rw [g8 1 (by decide), g2, hup_off (by decide)], fun q' s' e2 => ?_⟩
          rw [f1] at e2
          cases e2
          refine ⟨by rw [g8 1 (by decide)]; exact g5, ⟨g9, fun m hm => ?_, ?_, ?_⟩, ⟨g9.1, p2, p3⟩⟩
          · rw [g8 4 (by decide), g1 4 (by decide), hup_cell (by decide)]; exact r2 m hm
          · exact r3.congr (fun a h1 h2 => by rw [g8 a (by omega), g1 a (by omega), hup_cell (by omega)])
          · rw [g8 1 (by decide), g3, hup_off (by decide), r4, f0]
  · skip -- case 104
    refine wp_lookup (off := 91) (tgt := 95) dX3_readItem_4 (by decide) rfl rfl ?_
    refine wp_aload_n_0 (pc' := 96) dX3_readItem_95 rfl ?_
    refine wp_callVq (pc' := 99) (c_X3_readPair (p := p + 1) hn T1 (hup_at _ _ _ _) (by omega)) gX3_readItem_X3_readPair rfl rfl hy_X3_readPair ⟨Nat.le_of_ble_eq_true rfl, Nat.le_of_ble_eq_true rfl⟩ ⟨rfl, rfl⟩ (Nat.le_of_ble_eq_true rfl) ⟨Nat.le_of_ble_eq_true rfl, Nat.le_of_ble_eq_true rfl⟩ (by omega) (ce3 rfl) rfl rfl dX3_readItem_96 rfl (fun x96 h96 q96 => ?_)
    obtain ⟨g0, g1, g2, g3, g4⟩ := q96
    subst g0
    refine wp_if_eq (pc' := 102) (tgt := 113) dX3_readItem_99 rfl rfl (fun c99 => ?_) (fun c99 => ?_)
    · skip -- 99 taken
      have f1 : item len tx p s = none := by unfold item; rw [if_neg (by omega), if_neg (by omega), if_pos e, pair_none c99]
      refine wp_iconst (pc' := 114) (0) dX3_readItem_113 rfl (by decide) ?_
      refine wp_zreturn rfl dX3_readItem_114 rfl rfl (Nat.le_refl _) (Nat.le_refl _) ?_
      exact qI_of (none_ _ (fun a ha => by rw [g1 a (by omega), hup_cell (by omega)]) (by rw [g2, hup_off (by decide)]) f1)
    · skip -- 99 not taken
      obtain ⟨a, b, q, hq⟩ := pair_some c99
      have hq2 := pair_le hq
      obtain ⟨g5, g6, g7⟩ := g4 a b q hq
      refine wp_aload_n_0 (pc' := 103) dX3_readItem_102 rfl ?_
      refine wp_callVq (pc' := 106) (c_X3_takeHunger hn g6 g7 hq2.1 hq2.2.1) gX3_readItem_X3_takeHunger rfl rfl hy_X3_takeHunger ⟨Nat.le_of_ble_eq_true rfl, Nat.le_of_ble_eq_true rfl⟩ ⟨rfl, rfl⟩ (Nat.le_of_ble_eq_true rfl) ⟨Nat.le_of_ble_eq_true rfl, Nat.le_of_ble_eq_true rfl⟩ (by omega) (ce3 rfl) rfl rfl dX3_readItem_103 rfl (fun x103 h103 q103 => ?_)
      refine wp_if_eq (pc' := 109) (tgt := 113) dX3_readItem_106 rfl rfl (fun c106 => ?_) (fun c106 => ?_)
      · skip -- 106 taken
        have no : ¬ (a ≤ 5 ∧ 1 ≤ b ∧ b ≤ 9) := fun z => by
          rw [if_pos z] at q103
          rw [q103.1] at c106
          exact absurd c106 (by decide)
        rw [if_neg no] at q103
        have f1 : item len tx p s = none := by
          unfold item; rw [if_neg (by omega), if_neg (by omega), if_pos e, hq]
          simp only
          rw [if_neg no]
        obtain ⟨_, g8⟩ := q103
        subst g8
        refine wp_iconst (pc' := 114) (0) dX3_readItem_113 rfl (by decide) ?_
        refine wp_zreturn rfl dX3_readItem_114 rfl rfl (Nat.le_refl _) (Nat.le_refl _) ?_
        exact qI_of (none_ _ (fun a ha => by rw [hup_cell (by omega), g1 a (by omega), hup_cell (by omega)]) (by rw [hup_off (by decide), g2, hup_off (by decide)]) f1)
      · skip -- 106 not taken
        have yes : a ≤ 5 ∧ 1 ≤ b ∧ b ≤ 9 := by
          apply Classical.byContradiction
          intro z
          rw [if_neg z] at q103
          exact c106 q103.1
        rw [if_pos yes] at q103
        obtain ⟨_, g8⟩ := q103
        subst g8
        have f1 : item len tx p s = some (q, (s.1, s.2.1, false, upN s.2.2.2.1 a b, s.2.2.2.2)) := by
          unfold item; rw [if_neg (by omega), if_neg (by omega), if_pos e, hq]
          simp only
          rw [if_pos yes]
        refine wp_iconst (pc' := 110) (1) dX3_readItem_109 rfl (by decide) ?_
        refine wp_goto (tgt := 114) dX3_readItem_110 rfl ?_
        refine wp_zreturn rfl dX3_readItem_114 rfl rfl (Nat.le_refl _) (Nat.le_refl _) ?_
        refine qI_of ⟨by rw [f1]; rfl, fun a ha => by rw [hup_cell (by omega), hup_cell (by omega), g1 a (by omega), hup_cell (by omega)], by rw [hup_cell (by decide), hup_off (by decide), g2, hup_off (by decide)], fun q' s' e2 => ?_⟩
        rw [f1] at e2
        cases e2
        refine ⟨by rw [hup_cell (by decide), hup_off (by decide)]; exact g5, ⟨r1.of_eq (by rw [hup_cell (by decide), hup_cell (by decide), g1 3 (by decide), hup_cell (by decide)]), fun m hm => ?_, ?_, ?_⟩, ⟨p1, p2, fun m hm => ?_⟩⟩
        · by_cases e3 : m = a
          · subst e3; rw [hup_at]; simp [upN]
          · rw [hup_off e3, hup_cell (by decide), g1 4 (by decide), hup_cell (by decide), r2 m hm]; simp [upN, e3]
        · exact r3.congr (fun a h1 h2 => by rw [hup_cell (by omega), hup_cell (by omega), g1 a (by omega), hup_cell (by omega)])
        · rw [hup_cell (by decide), hup_at]; rfl
        · simp only [upN]
          split
          · exact yes.2
          · exact p3 m hm
  · skip -- case 109
    refine wp_lookup (off := 71) (tgt := 75) dX3_readItem_4 (by decide) rfl rfl ?_
    refine wp_aload_n_0 (pc' := 76) dX3_readItem_75 rfl ?_
    refine wp_callVq (pc' := 79) (c_X3_readPair (p := p + 1) hn T1 (hup_at _ _ _ _) (by omega)) gX3_readItem_X3_readPair rfl rfl hy_X3_readPair ⟨Nat.le_of_ble_eq_true rfl, Nat.le_of_ble_eq_true rfl⟩ ⟨rfl, rfl⟩ (Nat.le_of_ble_eq_true rfl) ⟨Nat.le_of_ble_eq_true rfl, Nat.le_of_ble_eq_true rfl⟩ (by omega) (ce3 rfl) rfl rfl dX3_readItem_76 rfl (fun x76 h76 q76 => ?_)
    obtain ⟨g0, g1, g2, g3, g4⟩ := q76
    subst g0
    refine wp_if_eq (pc' := 82) (tgt := 93) dX3_readItem_79 rfl rfl (fun c79 => ?_) (fun c79 => ?_)
    · skip -- 79 taken
      have f1 : item len tx p s = none := by unfold item; rw [if_neg (by omega), if_pos e, pair_none c79]
      refine wp_iconst (pc' := 94) (0) dX3_readItem_93 rfl (by decide) ?_
      refine wp_zreturn rfl dX3_readItem_94 rfl rfl (Nat.le_refl _) (Nat.le_refl _) ?_
      exact qI_of (none_ _ (fun a ha => by rw [g1 a (by omega), hup_cell (by omega)]) (by rw [g2, hup_off (by decide)]) f1)
    · skip -- 79 not taken
      obtain ⟨a, b, q, hq⟩ := pair_some c79
      have hq2 := pair_le hq
      obtain ⟨g5, g6, g7⟩ := g4 a b q hq
      refine wp_aload_n_0 (pc' := 83) dX3_readItem_82 rfl ?_
      refine wp_callVq (pc' := 86) (c_X3_takeMark (R := s.1) (C := s.2.1) hn g6 g7 hq2.1 hq2.2.1 (r1.of_eq (by rw [g1 3 (by decide), hup_cell (by decide)]))) gX3_readItem_X3_takeMark rfl rfl hy_X3_takeMark ⟨Nat.le_of_ble_eq_true rfl, Nat.le_of_ble_eq_true rfl⟩ ⟨rfl, rfl⟩ (Nat.le_of_ble_eq_true rfl) ⟨Nat.le_of_ble_eq_true rfl, Nat.le_of_ble_eq_true rfl⟩ (by omega) (ce3 rfl) rfl rfl dX3_readItem_83 rfl (fun x83 h83 q83 => ?_)
      refine wp_if_eq (pc' := 89) (tgt := 93) dX3_readItem_86 rfl rfl (fun c86 => ?_) (fun c86 => ?_)
      · skip -- 86 taken
        have no : ¬ (a < s.1 * s.2.1 ∧ b ≤ 5) := fun z => by
          rw [if_pos z] at q83
          rw [q83.1] at c86
          exact absurd c86 (by decide)
        rw [if_neg no] at q83
        have f1 : item len tx p s = none := by
          unfold item; rw [if_neg (by omega), if_pos e, hq]
          simp only
          rw [if_neg no]
        obtain ⟨_, g8⟩ := q83
        subst g8
        refine wp_iconst (pc' := 94) (0) dX3_readItem_93 rfl (by decide) ?_
        refine wp_zreturn rfl dX3_readItem_94 rfl rfl (Nat.le_refl _) (Nat.le_refl _) ?_
        exact qI_of (none_ _ (fun a ha => by rw [hup_cell (by omega), g1 a (by omega), hup_cell (by omega)]) (by rw [hup_off (by decide), g2, hup_off (by decide)]) f1)
      · skip -- 86 not taken
        have yes : a < s.1 * s.2.1 ∧ b ≤ 5 := by
          apply Classical.byContradiction
          intro z
          rw [if_neg z] at q83
          exact c86 q83.1
        rw [if_pos yes] at q83
        obtain ⟨_, g8⟩ := q83
        subst g8
        have f1 : item len tx p s = some (q, (s.1, s.2.1, false, s.2.2.2.1, upN s.2.2.2.2 a b)) := by
          unfold item; rw [if_neg (by omega), if_pos e, hq]
          simp only
          rw [if_pos yes]
        refine wp_iconst (pc' := 90) (1) dX3_readItem_89 rfl (by decide) ?_
        refine wp_goto (tgt := 94) dX3_readItem_90 rfl ?_
        refine wp_zreturn rfl dX3_readItem_94 rfl rfl (Nat.le_refl _) (Nat.le_refl _) ?_
        refine qI_of ⟨by rw [f1]; rfl, fun a ha => by rw [hup_cell (by omega), hup_cell (by omega), g1 a (by omega), hup_cell (by omega)], by rw [hup_cell (by decide), hup_off (by decide), g2, hup_off (by decide)], fun q' s' e2 => ?_⟩
        rw [f1] at e2
        cases e2
        refine ⟨by rw [hup_cell (by decide), hup_off (by decide)]; exact g5, ⟨r1.of_eq (by rw [hup_cell (by decide), hup_cell (by decide), g1 3 (by decide), hup_cell (by decide)]), fun m hm => ?_, ?_, ?_⟩, ⟨p1, rowOK_upN p2 (by omega) yes.2, p3⟩⟩
        · rw [hup_cell (by decide), hup_cell (by decide), g1 4 (by decide), hup_cell (by decide)]; exact r2 m hm
        · have r3' := r3.congr (h' := h76) (fun a h1 h2 => by rw [g1 a (by omega), hup_cell (by omega)])
          obtain ⟨y1, y2, y3⟩ := r3'
          refine ⟨fun i hi => ?_, ?_, fun w hw => ?_⟩
          · by_cases e3 : i = a
            · subst e3; rw [hup_at]; simp [upN]
            · rw [hup_off e3, hup_cell (by decide), y1 i hi]; simp [upN, e3]
          · rw [hup_cell (by decide), hup_cell (by decide), y2]; simp only [upN]; rw [if_neg (by omega)]
          · simp only [upN] at hw ⊢
            rw [if_neg (by omega)] at hw
            obtain ⟨z1, z2, z3⟩ := y3 w hw
            rw [if_neg (by omega), if_neg (by omega)]
            refine ⟨by rw [hup_cell (by decide), hup_cell (by decide)]; exact z1, by rw [hup_cell (by decide), hup_cell (by decide)]; exact z2, fun j hj => ?_⟩
            rw [if_neg (by omega), hup_cell (by decide), hup_cell (by decide)]
            exact z3 j hj
        · rw [hup_cell (by decide), hup_at]; rfl
  · skip -- case 119
    refine wp_lookup (off := 111) (tgt := 115) dX3_readItem_4 (by decide) rfl rfl ?_
    refine wp_aload_n_0 (pc' := 116) dX3_readItem_115 rfl ?_
    refine wp_callVq (pc' := 119) (c_X3_readWalk (p := p + 1) (ρ := s.2.2.2.2) hn T1 (hup_at _ _ _ _) (by omega) (r3.congr (fun a h1 h2 => hup_cell (by omega))) p2) gX3_readItem_X3_readWalk rfl rfl hy_X3_readWalk ⟨Nat.le_of_ble_eq_true rfl, Nat.le_of_ble_eq_true rfl⟩ ⟨rfl, rfl⟩ (Nat.le_of_ble_eq_true rfl) ⟨Nat.le_of_ble_eq_true rfl, Nat.le_of_ble_eq_true rfl⟩ (by omega) (ce3 rfl) rfl rfl dX3_readItem_116 rfl (fun x116 h116 q116 => ?_)
    obtain ⟨g0, g1, g2, g3⟩ := q116
    have x01 : x116 = 0 ∨ x116 = 1 := by
      rcases g0 with ⟨_, z⟩ | ⟨_, z⟩
      · exact Or.inr z
      · exact Or.inl z
    refine wp_zreturn (by rcases x01 with rfl | rfl <;> rfl) dX3_readItem_119 rfl rfl (Nat.le_refl _) (Nat.le_refl _) ?_
    rcases g0 with ⟨yes, rfl⟩ | ⟨no, rfl⟩
    · have y2 := yes
      obtain ⟨y3, y4, y5, y6, y7, y8⟩ := y2
      have f1 : item len tx p s = some (p + 3 + nlead len tx 6 (p + 2), (s.1, s.2.1, false, s.2.2.2.1, addW s.2.2.2.2 (ltr len tx (p + 1) - 48) (nlead len tx 6 (p + 2)) (fun j => ltr len tx (p + 2 + j) - 48))) := by
        unfold item; rw [if_neg (by omega), if_neg (by omega), if_neg (by omega), if_pos e, if_pos ⟨y3, y4, y5, y6, y7, y8⟩]
      obtain ⟨g4, g5, g6⟩ := g3 yes
      refine qI_of ⟨by rw [f1]; rfl, fun a ha => by rw [g1 a (by omega) (by omega) (by omega) (by omega) (by omega), hup_cell (by omega)], by rw [g2, hup_off (by decide)], fun q' s' e2 => ?_⟩
      rw [f1] at e2
      cases e2
      refine ⟨g4, ⟨r1.of_eq (by rw [g1 3 (by decide) (by decide) (by decide) (by decide) (by decide), hup_cell (by decide)]), fun m hm => ?_, g6, by rw [g5]; rfl⟩, ⟨p1, rowOK_addW (κ := ltr len tx (p + 1) - 48) (k := nlead len tx 6 (p + 2)) (f := fun j => ltr len tx (p + 2 + j) - 48) p2 y5 (by omega) y6 y7 (fun j hj => ?_), p3⟩⟩
      · rw [g1 4 (by decide) (by decide) (by decide) (by decide) (by decide), hup_cell (by decide)]; exact r2 m hm
      · have z := (nlead_all (len := len) (tx := tx) 6 (p + 2)).2.1 j hj
        unfold mk5 at z
        simp only [Bool.and_eq_true, decide_eq_true_eq] at z
        omega
    · have f1 : item len tx p s = none := by
        unfold item; rw [if_neg (by omega), if_neg (by omega), if_neg (by omega), if_pos e]; exact if_neg no
      exact qI_of (none_ _ (fun a ha => by rw [g1 a (by omega) (by omega) (by omega) (by omega) (by omega), hup_cell (by omega)]) (by rw [g2, hup_off (by decide)]) f1)
  · skip -- default
    refine wp_lookup (off := 116) (tgt := 120) dX3_readItem_4 (by decide) (by rw [nI_toInt (by omega)]; exact lk_d4 (by omega) (by omega) (by omega) (by omega)) rfl ?_
    refine wp_iconst (pc' := 121) (0) dX3_readItem_120 rfl (by decide) ?_
    refine wp_zreturn rfl dX3_readItem_121 rfl rfl (Nat.le_refl _) (Nat.le_refl _) ?_
    have f1 : item len tx p s = none := by unfold item; rw [if_neg e.1, if_neg e.2.2.1, if_neg e.2.1, if_neg e.2.2.2]
    exact qI_of (none_ _ (fun a ha => by rw [hup_cell (by omega)]) (hup_off (by decide)) f1)
end VR3

