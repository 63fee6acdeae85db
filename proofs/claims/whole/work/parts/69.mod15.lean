abbrev rmX8_empty : Room := { frames := 0, cells := 0, slots := 0, locals := 0 }
theorem hy_X8_empty : yX8_empty.cls = RX8 ∧ yX8_empty.cls ≠ "java/lang/invoke/MethodHandle" ∧ yX8_empty.cls ≠ "java/lang/invoke/VarHandle" ∧ (parseMethodDescriptor yX8_empty.desc).map (fun d => d.parameters.length) = some 0 := by decide +kernel
theorem hz_X8_empty : yX8_empty.cls ≠ "java/lang/invoke/MethodHandle" ∧ yX8_empty.cls ≠ "java/lang/invoke/VarHandle" ∧ (parseMethodDescriptor yX8_empty.desc).map (fun d => d.parameters.length) = some 0 := by decide +kernel
abbrev rmX8_fault : Room := { frames := 4, cells := 0, slots := 0, locals := 92 }
theorem hy_X8_fault : yX8_fault.cls = RX8 ∧ yX8_fault.cls ≠ "java/lang/invoke/MethodHandle" ∧ yX8_fault.cls ≠ "java/lang/invoke/VarHandle" ∧ (parseMethodDescriptor yX8_fault.desc).map (fun d => d.parameters.length) = some 0 := by decide +kernel
theorem hz_X8_fault : yX8_fault.cls ≠ "java/lang/invoke/MethodHandle" ∧ yX8_fault.cls ≠ "java/lang/invoke/VarHandle" ∧ (parseMethodDescriptor yX8_fault.desc).map (fun d => d.parameters.length) = some 0 := by decide +kernel
abbrev rmX8_item : Room := { frames := 2, cells := 0, slots := 0, locals := 49 }
theorem hy_X8_item : yX8_item.cls = RX8 ∧ yX8_item.cls ≠ "java/lang/invoke/MethodHandle" ∧ yX8_item.cls ≠ "java/lang/invoke/VarHandle" ∧ (parseMethodDescriptor yX8_item.desc).map (fun d => d.parameters.length) = some 0 := by decide +kernel
theorem hz_X8_item : yX8_item.cls ≠ "java/lang/invoke/MethodHandle" ∧ yX8_item.cls ≠ "java/lang/invoke/VarHandle" ∧ (parseMethodDescriptor yX8_item.desc).map (fun d => d.parameters.length) = some 0 := by decide +kernel
abbrev rmX8_readAll : Room := { frames := 3, cells := 0, slots := 0, locals := 71 }
theorem hy_X8_readAll : yX8_readAll.cls = RX8 ∧ yX8_readAll.cls ≠ "java/lang/invoke/MethodHandle" ∧ yX8_readAll.cls ≠ "java/lang/invoke/VarHandle" ∧ (parseMethodDescriptor yX8_readAll.desc).map (fun d => d.parameters.length) = some 0 := by decide +kernel
theorem hz_X8_readAll : yX8_readAll.cls ≠ "java/lang/invoke/MethodHandle" ∧ yX8_readAll.cls ≠ "java/lang/invoke/VarHandle" ∧ (parseMethodDescriptor yX8_readAll.desc).map (fun d => d.parameters.length) = some 0 := by decide +kernel
theorem me_X8_item_0 : Cond.fieldLink RX8 78 "DrawnByLostModel" "spot" "I" ∈ wsX8_item := by decide +kernel
theorem me_X8_item_1 : Cond.fieldLink RX8 13 "DrawnByLostModel" "sizes" "[I" ∈ wsX8_item := by decide +kernel
theorem me_X8_item_2 : Cond.fieldLink RX8 31 "DrawnByLostModel" "told" "[I" ∈ wsX8_item := by decide +kernel
theorem me_X8_item_3 : Cond.fieldLink RX8 101 "DrawnByLostModel" "hasItem" "Z" ∈ wsX8_item := by decide +kernel
theorem me_X8_item_4 : Cond.constantLong RX8 89 (2) ∈ wsX8_item := by decide +kernel
theorem me_X8_item_5 : Cond.constantLong RX8 105 (4) ∈ wsX8_item := by decide +kernel
theorem me_X8_item_6 : Cond.constantLong RX8 107 (9) ∈ wsX8_item := by decide +kernel
theorem me_X8_item_7 : Cond.fieldLink RX8 16 "DrawnByLostModel" "hunger" "[I" ∈ wsX8_item := by decide +kernel
theorem me_X8_item_8 : Cond.fieldLink RX8 22 "DrawnByLostModel" "read" "[I" ∈ wsX8_item := by decide +kernel
theorem me_X8_empty_0 : Cond.fieldLink RX8 22 "DrawnByLostModel" "read" "[I" ∈ wsX8_empty := by decide +kernel
theorem me_X8_empty_1 : Cond.fieldLink RX8 16 "DrawnByLostModel" "hunger" "[I" ∈ wsX8_empty := by decide +kernel
theorem me_X8_empty_2 : Cond.fieldLink RX8 13 "DrawnByLostModel" "sizes" "[I" ∈ wsX8_empty := by decide +kernel
theorem me_X8_readAll_0 : Cond.fieldLink RX8 78 "DrawnByLostModel" "spot" "I" ∈ wsX8_readAll := by decide +kernel
theorem me_X8_readAll_1 : Cond.fieldLink RX8 74 "DrawnByLostModel" "length" "I" ∈ wsX8_readAll := by decide +kernel
theorem me_X8_readAll_2 : Cond.fieldLink RX8 101 "DrawnByLostModel" "hasItem" "Z" ∈ wsX8_readAll := by decide +kernel
theorem ic_X8_item_8 : ∀ w ∈ wsX80, w ∈ wsX8_item := by decide +kernel
theorem ic_X8_empty_8 : ∀ w ∈ wsX80, w ∈ wsX8_empty := by decide +kernel
theorem ic_X8_readAll_8 : ∀ w ∈ wsX80, w ∈ wsX8_readAll := by decide +kernel
-- the reference: the whole text
section VMF
variable {l : Launch} {D : va_G} {cy : CY} {B n : Nat} {h : Hp} {lg : Lg} {π : Nat → Nat} {σ : Sg}
/-- what reading leaves as it was -/
def RF (h' h : Hp) : Prop := (∀ a, a < 89 ∨ a = 90 ∨ a = 93 ∨ a = 95 ∨ a = 96 → h' a = h a) ∧ (∀ i, i = 0 ∨ i = 7 ∨ i = 9 → h' 89 i = h 89 i) ∧ (∀ i, i < 2 → h' 91 i = h 91 i) ∧ ∀ m, m < 6 → h' 92 m = h 92 m
theorem RF.rf (h : Hp) : RF h h := ⟨fun _ _ => rfl, fun _ _ => rfl, fun _ _ => rfl, fun _ _ => rfl⟩
theorem RF.tr {h1 h2 h3 : Hp} (a : RF h3 h2) (b : RF h2 h1) : RF h3 h1 := ⟨fun c hc => (a.1 c hc).trans (b.1 c hc), fun i hi => (a.2.1 i hi).trans (b.2.1 i hi), fun i hi => (a.2.2.1 i hi).trans (b.2.2.1 i hi), fun i hi => (a.2.2.2 i hi).trans (b.2.2.2 i hi)⟩
theorem RF.tm {h' : Hp} {len : Nat} {tx : Nat → Nat} (f : RF h' h) (T : TM h len tx) : TM h' len tx := T.of (f.2.1 0 (by omega)) (f.1 90 (by omega))
theorem MI.rf {h' : Hp} (X : MI h σ) (f : RF h' h) : MI h' σ := by
  obtain ⟨T, x2, x3, x4, x5, ⟨b1, b2, b3, b4⟩, ⟨c1, c2, c3, c4⟩⟩ := X
  exact ⟨f.tm T, x2.of (f.2.2.1 0 (by omega)) (f.2.2.1 1 (by omega)), fun k hk => by rw [f.2.2.2 k hk]; exact x3 k hk, x4, fun k hk => by rw [f.1 93 (by omega)]; exact x5 k hk, ⟨(f.2.1 7 (by omega)).trans b1, b2, b3, by unfold BR; rw [f.1 95 (by omega)]; exact b4⟩, ⟨(f.2.1 9 (by omega)).trans c1, c2, c3, by unfold BR; rw [f.1 96 (by omega)]; exact c4⟩⟩
def RSm (h : Hp) (s : PSt) : Prop := h 91 2 = nI s.1 ∧ h 91 3 = nI s.2.1 ∧ h 89 11 = b2i (!s.2.2.1) ∧ (∀ m, m < 6 → h 92 (6 + m) = nI (s.2.2.2.1 m)) ∧ NR h 94 s.2.2.2.2
theorem RSm.of {h' : Hp} {s : PSt} (r : RSm h s) (e1 : h' 91 = h 91) (e2 : h' 89 11 = h 89 11) (e3 : h' 92 = h 92) (e4 : h' 94 = h 94) : RSm h' s := by
  obtain ⟨r1, r2, r3, r4, r5⟩ := r
  exact ⟨by rw [e1]; exact r1, by rw [e1]; exact r2, e2.trans r3, by rw [e3]; exact r4, fun k hk => by rw [e4]; exact r5 k hk⟩
theorem lk_d3 {x : Int} (h1 : x ≠ 104) (h2 : x ≠ 109) (h3 : x ≠ 119) : Op.lookupswitch.offset [(104, 93), (109, 33), (119, 151)] 156 x = 156 := by
  simp [Op.lookupswitch.offset, List.find?, Ne.symm h1, Ne.symm h2, Ne.symm h3]
theorem item_d {len p : Nat} {tx : Nat → Nat} {s : PSt} (e : ltr len tx p = 100) : item len tx p s = if s.2.2.1 = true then (match pair len tx (p + 1) with
      | some (a, b, q) => if 2 ≤ a ∧ a ≤ 4 ∧ 2 ≤ b ∧ b ≤ 4 then some (q, (a, b, true, s.2.2.2.1, s.2.2.2.2)) else none
      | none => none) else none := by unfold item; rw [if_pos e]; rfl
theorem item_m {len p : Nat} {tx : Nat → Nat} {s : PSt} (e : ltr len tx p = 109) : item len tx p s = (match pair len tx (p + 1) with
      | some (a, b, q) => if a < s.1 * s.2.1 ∧ b ≤ 5 then some (q, (s.1, s.2.1, false, s.2.2.2.1, upN s.2.2.2.2 a b)) else none
      | none => none) := by unfold item; rw [if_neg (by omega), if_pos e]; rfl
theorem item_h {len p : Nat} {tx : Nat → Nat} {s : PSt} (e : ltr len tx p = 104) : item len tx p s = (match pair len tx (p + 1) with
      | some (a, b, q) => if a ≤ 5 ∧ 1 ≤ b ∧ b ≤ 9 then some (q, (s.1, s.2.1, false, upN s.2.2.2.1 a b, s.2.2.2.2)) else none
      | none => none) := by unfold item; rw [if_neg (by omega), if_neg (by omega), if_pos e]; rfl
theorem item_w {len p : Nat} {tx : Nat → Nat} {s : PSt} (e : ltr len tx p = 119) (w : wiO len tx (p + 1) s.2.2.2.2) : item len tx p s = some (p + 3 + nlead len tx 6 (p + 2), (s.1, s.2.1, false, s.2.2.2.1, addW s.2.2.2.2 (ltr len tx (p + 1) - 48) (nlead len tx 6 (p + 2)) (fun j => ltr len tx (p + 2 + j) - 48))) := by
  unfold item
  rw [if_neg (by omega), if_neg (by omega), if_neg (by omega), if_pos e]
  exact if_pos w
theorem item_w0 {len p : Nat} {tx : Nat → Nat} {s : PSt} (e : ltr len tx p = 119) (w : ¬ wiO len tx (p + 1) s.2.2.2.2) : item len tx p s = none := by
  unfold item
  rw [if_neg (by omega), if_neg (by omega), if_neg (by omega), if_pos e]
  exact if_neg w
theorem item_0 {len p : Nat} {tx : Nat → Nat} {s : PSt} (e : ltr len tx p ≠ 100 ∧ ltr len tx p ≠ 104 ∧ ltr len tx p ≠ 109 ∧ ltr len tx p ≠ 119) : item len tx p s = none := by
  unfold item
  rw [if_neg e.1, if_neg e.2.2.1, if_neg e.2.1, if_neg e.2.2.2]
theorem item_ok {len p q : Nat} {tx : Nat → Nat} {s s' : PSt} (ps : PSok s) (h : item len tx p s = some (q, s')) : PSok s' := by
  obtain ⟨p1, p2, p3⟩ := ps
  have hl := p1.le
  by_cases e1 : ltr len tx p = 100
  · rw [item_d e1] at h
    split at h
    · split at h
      · split at h
        · rename_i z; cases h; exact ⟨⟨z.1, z.2.1, z.2.2.1, z.2.2.2⟩, p2, p3⟩
        · cases h
      · cases h
    · cases h
  · by_cases e2 : ltr len tx p = 109
    · rw [item_m e2] at h
      split at h
      · split at h
        · rename_i z; cases h; exact ⟨p1, rowOK_upN p2 (by omega) z.2, p3⟩
        · cases h
      · cases h
    · by_cases e3 : ltr len tx p = 104
      · rw [item_h e3] at h
        split at h
        · split at h
          · rename_i z; cases h
            refine ⟨p1, p2, fun m hm => ?_⟩
            show 1 ≤ upN _ _ _ m ∧ upN _ _ _ m ≤ 9
            unfold upN
            split
            · exact z.2
            · exact p3 m hm
          · cases h
        · cases h
      · by_cases e4 : ltr len tx p = 119
        · by_cases w : wiO len tx (p + 1) s.2.2.2.2
          · rw [item_w e4 w] at h
            cases h
            obtain ⟨w1, w2, w3, w4, w5, w6⟩ := w
            refine ⟨p1, rowOK_addW (κ := ltr len tx (p + 1) - 48) (f := fun j => ltr len tx (p + 2 + j) - 48) p2 w3 (by omega) w4 w5 (fun j hj => ?_), p3⟩
            show ltr len tx (p + 2 + j) - 48 ≤ 5
            have := mk5_iff.mp ((nlead_all 6 (p + 2)).2.1 j hj)
            omega
          · rw [item_w0 e4 w] at h; cases h
        · rw [item_0 ⟨e1, e3, e2, e4⟩] at h; cases h
set_option maxHeartbeats 8000000 in
theorem c_X8_item {len p : Nat} {tx : Nat → Nat} {s : PSt} (hn : 105 ≤ n) (T : TM h len tx) (hp : h 89 10 = nI p) (hpl : p < len) (rs : RSm h s) (ps : PSok s) : Ctr l D cy B yX8_item wsX8_item rmX8_item 0 0 n (rf0 π) h lg [.ref (B + 89)] (qI (fun x h' => x = b2i (item len tx p s).isSome ∧ RF h' h ∧ ∀ q s', item len tx p s = some (q, s') → h' 89 10 = nI q ∧ RSm h' s') (rf0 π) lg) := by
  have hl := T.2.1
  have lb := ltr_b (k := p) T
  obtain ⟨r1, r2, r3, r4, r5⟩ := id rs
  obtain ⟨p1, p2, p3⟩ := id ps
  have hl2 := p1.le
  have sh := p1
  have none_ : ∀ h' : Hp, RF h' h → item len tx p s = none → (fun (x : Int32) (h' : Hp) => x = b2i (item len tx p s).isSome ∧ RF h' h ∧ ∀ q s', item len tx p s = some (q, s') → h' 89 10 = nI q ∧ RSm h' s') 0 h' := by
    intro h' e1 e3
    exact ⟨by rw [e3]; rfl, e1, fun q s' e => by rw [e3] at e; cases e⟩
  have some_ : ∀ h' : Hp, RF h' h → ∀ q s', item len tx p s = some (q, s') → h' 89 10 = nI q → RSm h' s' → (fun (x : Int32) (h' : Hp) => x = b2i (item len tx p s).isSome ∧ RF h' h ∧ ∀ q s', item len tx p s = some (q, s') → h' 89 10 = nI q ∧ RSm h' s') 1 h' := by
    intro h' e1 q s' e3 e4 e5
    exact ⟨by rw [e3]; rfl, e1, fun q2 s2 e => by rw [e3] at e; cases e; exact ⟨e4, e5⟩⟩
  by_cases e100 : ltr len tx p = 100
  · have T1 : TM (hup h 89 10 (nI (p + 1))) len tx := T.of (hup_off (by decide)) (hup_cell (by decide))
    have rf2 : ∀ h2 : Hp, ∀ x y, (∀ a, a ≠ 89 → a ≠ 97 → h2 a = hup h 89 10 (nI (p + 1)) a) → (∀ i, i ≠ 10 → h2 89 i = hup h 89 10 (nI (p + 1)) 89 i) → RF (hup (hup h2 91 2 x) 91 3 y) h := fun h2 x y g1 g2 => ⟨fun a ha => by rw [hup_cell (by omega), hup_cell (by omega), g1 a (by omega) (by omega), hup_cell (by omega)], fun i hi => by rw [hup_cell (by decide), hup_cell (by decide), g2 i (by omega), hup_off (by omega)], fun i hi => by rw [hup_off (by omega), hup_off (by omega), g1 91 (by decide) (by decide), hup_cell (by decide)], fun m hm => by rw [hup_cell (by decide), hup_cell (by decide), g1 92 (by decide) (by decide), hup_cell (by decide)]⟩
    refine Ctr.of (cc := cX8_item) (nL := 3) (own := RX8) (rt := (some .boolean)) (ls := [some (.ref (B + 89)), none, none]) (by decide) rfl rfl (Nat.le_of_ble_eq_true rfl) rfl ?_
    refine wp_aload_n_0 (pc' := 1) dX8_item_0 rfl ?_
    refine wp_aload_n_0 (pc' := 2) dX8_item_1 rfl ?_
    refine wp_get_8_10 (pc' := 5) (by omega) rfl me_X8_item_0 ic_X8_item_8 dX8_item_2 rfl ?_
    rw [hp]
    refine wp_callVu (pc' := 8) (c_X8_letterAt hn T (by omega)) gX8_item_X8_letterAt rfl rfl hy_X8_letterAt ⟨Nat.le_of_ble_eq_true rfl, Nat.le_of_ble_eq_true rfl⟩ ⟨rfl, rfl⟩ (Nat.le_of_ble_eq_true rfl) ⟨Nat.le_of_ble_eq_true rfl, Nat.le_of_ble_eq_true rfl⟩ (by omega) (ce8 rfl) rfl rfl dX8_item_5 rfl ?_
    refine wp_istore_n_1 (pc' := 9) dX8_item_8 (by decide) rfl rfl ?_
    refine wp_aload_n_0 (pc' := 10) dX8_item_9 rfl ?_
    refine wp_dup (pc' := 11) dX8_item_10 rfl rfl ?_
    refine wp_get_8_10 (pc' := 14) (by omega) rfl me_X8_item_0 ic_X8_item_8 dX8_item_11 rfl ?_
    rw [hp]
    refine wp_iconst (pc' := 15) (1) dX8_item_14 rfl (by decide) ?_
    refine wp_iadd (pc' := 16) dX8_item_15 rfl ?_
    rw [nI_1]
    refine wp_put_8_10 (pc' := 19) (by omega) rfl me_X8_item_0 ic_X8_item_8 dX8_item_16 rfl ?_
    refine wp_iload_n_1 (pc' := 20) dX8_item_19 rfl ?_
    refine wp_bipush (pc' := 22) (100) dX8_item_20 rfl (by decide) ?_
    refine wp_icmp_ne (pc' := 25) (tgt := 109) dX8_item_22 rfl rfl (fun c22 => by exfalso; exact c22 (by rw [e100]; rfl)) (fun c22 => ?_)
    refine wp_aload_n_0 (pc' := 26) dX8_item_25 rfl ?_
    refine wp_callVq (pc' := 29) (c_X8_twoFigures (p := p + 1) hn T1 (hup_at _ _ _ _) (by omega)) gX8_item_X8_twoFigures rfl rfl hy_X8_twoFigures ⟨Nat.le_of_ble_eq_true rfl, Nat.le_of_ble_eq_true rfl⟩ ⟨rfl, rfl⟩ (Nat.le_of_ble_eq_true rfl) ⟨Nat.le_of_ble_eq_true rfl, Nat.le_of_ble_eq_true rfl⟩ (by omega) (ce8 rfl) rfl rfl dX8_item_26 rfl (fun x26 h26 q26 => ?_)
    obtain ⟨g0, g1, g2, g3⟩ := q26
    subst g0
    refine wp_if_eq (pc' := 32) (tgt := 81) dX8_item_29 rfl rfl (fun c29 => ?_) (fun c29 => ?_)
    · skip -- 29 taken
      refine wp_iconst (pc' := 82) (0) dX8_item_81 rfl (by decide) ?_
      refine wp_istore_n_2 (pc' := 83) dX8_item_82 (by decide) rfl rfl ?_
      refine wp_aload_n_0 (pc' := 84) dX8_item_83 rfl ?_
      refine wp_get_8_2 (pc' := 87) (by omega) rfl rfl me_X8_item_1 ic_X8_item_8 dX8_item_84 rfl ?_
      refine wp_iconst (pc' := 88) (2) dX8_item_87 rfl (by decide) ?_
      refine wp_aload_n_0 (pc' := 89) dX8_item_88 rfl ?_
      refine wp_get_8_12 (pc' := 92) (by omega) rfl rfl me_X8_item_2 ic_X8_item_8 dX8_item_89 rfl ?_
      refine wp_iconst (pc' := 93) (0) dX8_item_92 rfl (by decide) ?_
      refine wp_iald (pc' := 94) (N := 2) (by omega) rfl rfl (by first | exact vp_in_nI (by omega) (by omega) | assumption | (unfold vp_in; decide)) dX8_item_93 rfl ?_
      refine wp_iast (pc' := 95) (N := 4) (by omega) rfl rfl (by first | exact vp_in_nI (by omega) (by omega) | assumption | (unfold vp_in; decide)) dX8_item_94 rfl ?_
      rw [show (2 : Int32).toNatClampNeg = 2 from rfl]
      refine wp_aload_n_0 (pc' := 96) dX8_item_95 rfl ?_
      refine wp_get_8_2 (pc' := 99) (by omega) rfl rfl me_X8_item_1 ic_X8_item_8 dX8_item_96 rfl ?_
      refine wp_iconst (pc' := 100) (3) dX8_item_99 rfl (by decide) ?_
      refine wp_aload_n_0 (pc' := 101) dX8_item_100 rfl ?_
      refine wp_get_8_12 (pc' := 104) (by omega) rfl rfl me_X8_item_2 ic_X8_item_8 dX8_item_101 rfl ?_
      refine wp_iconst (pc' := 105) (1) dX8_item_104 rfl (by decide) ?_
      refine wp_iald (pc' := 106) (N := 2) (by omega) rfl rfl (by first | exact vp_in_nI (by omega) (by omega) | assumption | (unfold vp_in; decide)) dX8_item_105 rfl ?_
      refine wp_iast (pc' := 107) (N := 4) (by omega) rfl rfl (by first | exact vp_in_nI (by omega) (by omega) | assumption | (unfold vp_in; decide)) dX8_item_106 rfl ?_
      rw [show (3 : Int32).toNatClampNeg = 3 from rfl]
      refine wp_iload_n_2 (pc' := 108) dX8_item_107 rfl ?_
      refine wp_zreturn (by decide) dX8_item_108 rfl rfl (Nat.le_refl _) (Nat.le_refl _) ?_
      exact qI_of (none_ _ (rf2 _ _ _ g1 g2) (by rw [item_d e100, pair_none c29]; split <;> rfl))
    · skip -- 29 not taken
      obtain ⟨a, b, q, hq⟩ := pair_some c29
      have hq2 := pair_le hq
      obtain ⟨g5, g6, g7⟩ := g3 a b q hq
      refine wp_aload_n_0 (pc' := 33) dX8_item_32 rfl ?_
      refine wp_get_8_11 (pc' := 36) (by omega) rfl me_X8_item_3 ic_X8_item_8 dX8_item_33 rfl ?_
      rw [g2 11 (by decide), hup_off (by decide), r3]
      refine wp_if_ne (pc' := 39) (tgt := 81) dX8_item_36 rfl rfl (fun c36 => ?_) (fun c36 => ?_)
      · skip -- 36 taken
        refine wp_iconst (pc' := 82) (0) dX8_item_81 rfl (by decide) ?_
        refine wp_istore_n_2 (pc' := 83) dX8_item_82 (by decide) rfl rfl ?_
        refine wp_aload_n_0 (pc' := 84) dX8_item_83 rfl ?_
        refine wp_get_8_2 (pc' := 87) (by omega) rfl rfl me_X8_item_1 ic_X8_item_8 dX8_item_84 rfl ?_
        refine wp_iconst (pc' := 88) (2) dX8_item_87 rfl (by decide) ?_
        refine wp_aload_n_0 (pc' := 89) dX8_item_88 rfl ?_
        refine wp_get_8_12 (pc' := 92) (by omega) rfl rfl me_X8_item_2 ic_X8_item_8 dX8_item_89 rfl ?_
        refine wp_iconst (pc' := 93) (0) dX8_item_92 rfl (by decide) ?_
        refine wp_iald (pc' := 94) (N := 2) (by omega) rfl rfl (by first | exact vp_in_nI (by omega) (by omega) | assumption | (unfold vp_in; decide)) dX8_item_93 rfl ?_
        refine wp_iast (pc' := 95) (N := 4) (by omega) rfl rfl (by first | exact vp_in_nI (by omega) (by omega) | assumption | (unfold vp_in; decide)) dX8_item_94 rfl ?_
        rw [show (2 : Int32).toNatClampNeg = 2 from rfl]
        refine wp_aload_n_0 (pc' := 96) dX8_item_95 rfl ?_
        refine wp_get_8_2 (pc' := 99) (by omega) rfl rfl me_X8_item_1 ic_X8_item_8 dX8_item_96 rfl ?_
        refine wp_iconst (pc' := 100) (3) dX8_item_99 rfl (by decide) ?_
        refine wp_aload_n_0 (pc' := 101) dX8_item_100 rfl ?_
        refine wp_get_8_12 (pc' := 104) (by omega) rfl rfl me_X8_item_2 ic_X8_item_8 dX8_item_101 rfl ?_
        refine wp_iconst (pc' := 105) (1) dX8_item_104 rfl (by decide) ?_
        refine wp_iald (pc' := 106) (N := 2) (by omega) rfl rfl (by first | exact vp_in_nI (by omega) (by omega) | assumption | (unfold vp_in; decide)) dX8_item_105 rfl ?_
        refine wp_iast (pc' := 107) (N := 4) (by omega) rfl rfl (by first | exact vp_in_nI (by omega) (by omega) | assumption | (unfold vp_in; decide)) dX8_item_106 rfl ?_
        rw [show (3 : Int32).toNatClampNeg = 3 from rfl]
        refine wp_iload_n_2 (pc' := 108) dX8_item_107 rfl ?_
        refine wp_zreturn (by decide) dX8_item_108 rfl rfl (Nat.le_refl _) (Nat.le_refl _) ?_
        exact qI_of (none_ _ (rf2 _ _ _ g1 g2) (by
            rw [item_d e100, if_neg (fun z => c36 (by rw [z]; rfl))]))
      · skip -- 36 not taken
        have f0 : s.2.2.1 = true := by
          have := b2i_eq0.mp c36
          simpa using this
        refine wp_aload_n_0 (pc' := 40) dX8_item_39 rfl ?_
        refine wp_get_8_12 (pc' := 43) (by omega) rfl rfl me_X8_item_2 ic_X8_item_8 dX8_item_40 rfl ?_
        refine wp_iconst (pc' := 44) (0) dX8_item_43 rfl (by decide) ?_
        refine wp_iald (pc' := 45) (N := 2) (by omega) rfl rfl (by first | exact vp_in_nI (by omega) (by omega) | assumption | (unfold vp_in; decide)) dX8_item_44 rfl ?_
        rw [show (0 : Int32).toNatClampNeg = 0 from rfl, g6]
        refine wp_i2l (pc' := 46) dX8_item_45 rfl ?_
        refine wp_ldc2 (pc' := 49) (v := (2)) me_X8_item_4 dX8_item_46 rfl ?_
        refine wp_ldc2 (pc' := 52) (v := (4)) me_X8_item_5 dX8_item_49 rfl ?_
        refine wp_callSu (pc' := 55) (c_in_rg (nI a) (lo := 2) (hi := 4) (by omega) (by omega)) gX8_item_X8_in rfl rfl hz_X8_in ⟨Nat.le_of_ble_eq_true rfl, Nat.le_of_ble_eq_true rfl⟩ ⟨rfl, rfl⟩ (Nat.le_of_ble_eq_true rfl) ⟨Nat.le_of_ble_eq_true rfl, Nat.le_of_ble_eq_true rfl⟩ rfl dX8_item_52 rfl ?_
        rw [rg_nI (by omega)]
        refine wp_if_eq (pc' := 58) (tgt := 81) dX8_item_55 rfl rfl (fun c55 => ?_) (fun c55 => ?_)
        · skip -- 55 taken
          refine wp_iconst (pc' := 82) (0) dX8_item_81 rfl (by decide) ?_
          refine wp_istore_n_2 (pc' := 83) dX8_item_82 (by decide) rfl rfl ?_
          refine wp_aload_n_0 (pc' := 84) dX8_item_83 rfl ?_
          refine wp_get_8_2 (pc' := 87) (by omega) rfl rfl me_X8_item_1 ic_X8_item_8 dX8_item_84 rfl ?_
          refine wp_iconst (pc' := 88) (2) dX8_item_87 rfl (by decide) ?_
          refine wp_aload_n_0 (pc' := 89) dX8_item_88 rfl ?_
          refine wp_get_8_12 (pc' := 92) (by omega) rfl rfl me_X8_item_2 ic_X8_item_8 dX8_item_89 rfl ?_
          refine wp_iconst (pc' := 93) (0) dX8_item_92 rfl (by decide) ?_
          refine wp_iald (pc' := 94) (N := 2) (by omega) rfl rfl (by first | exact vp_in_nI (by omega) (by omega) | assumption | (unfold vp_in; decide)) dX8_item_93 rfl ?_
          refine wp_iast (pc' := 95) (N := 4) (by omega) rfl rfl (by first | exact vp_in_nI (by omega) (by omega) | assumption | (unfold vp_in; decide)) dX8_item_94 rfl ?_
          rw [show (2 : Int32).toNatClampNeg = 2 from rfl]
          refine wp_aload_n_0 (pc' := 96) dX8_item_95 rfl ?_
          refine wp_get_8_2 (pc' := 99) (by omega) rfl rfl me_X8_item_1 ic_X8_item_8 dX8_item_96 rfl ?_
          refine wp_iconst (pc' := 100) (3) dX8_item_99 rfl (by decide) ?_
          refine wp_aload_n_0 (pc' := 101) dX8_item_100 rfl ?_
          refine wp_get_8_12 (pc' := 104) (by omega) rfl rfl me_X8_item_2 ic_X8_item_8 dX8_item_101 rfl ?_
          refine wp_iconst (pc' := 105) (1) dX8_item_104 rfl (by decide) ?_
          refine wp_iald (pc' := 106) (N := 2) (by omega) rfl rfl (by first | exact vp_in_nI (by omega) (by omega) | assumption | (unfold vp_in; decide)) dX8_item_105 rfl ?_
          refine wp_iast (pc' := 107) (N := 4) (by omega) rfl rfl (by first | exact vp_in_nI (by omega) (by omega) | assumption | (unfold vp_in; decide)) dX8_item_106 rfl ?_
          rw [show (3 : Int32).toNatClampNeg = 3 from rfl]
          refine wp_iload_n_2 (pc' := 108) dX8_item_107 rfl ?_
          refine wp_zreturn (by decide) dX8_item_108 rfl rfl (Nat.le_refl _) (Nat.le_refl _) ?_
          exact qI_of (none_ _ (rf2 _ _ _ g1 g2) (by
              rw [item_d e100, if_pos f0, hq]
              simp only
              rw [if_neg (fun z => by rw [if_pos ⟨z.1, z.2.1⟩] at c55; exact bS c55)]))
        · skip -- 55 not taken
          have wa : 2 ≤ a ∧ a ≤ 4 := by
            apply Classical.byContradiction
            intro z
            rw [if_neg z] at c55
            exact c55 rfl
          refine wp_aload_n_0 (pc' := 59) dX8_item_58 rfl ?_
          refine wp_get_8_12 (pc' := 62) (by omega) rfl rfl me_X8_item_2 ic_X8_item_8 dX8_item_59 rfl ?_
          refine wp_iconst (pc' := 63) (1) dX8_item_62 rfl (by decide) ?_
          refine wp_iald (pc' := 64) (N := 2) (by omega) rfl rfl (by first | exact vp_in_nI (by omega) (by omega) | assumption | (unfold vp_in; decide)) dX8_item_63 rfl ?_
          rw [show (1 : Int32).toNatClampNeg = 1 from rfl, g7]
          refine wp_i2l (pc' := 65) dX8_item_64 rfl ?_
          refine wp_ldc2 (pc' := 68) (v := (2)) me_X8_item_4 dX8_item_65 rfl ?_
          refine wp_ldc2 (pc' := 71) (v := (4)) me_X8_item_5 dX8_item_68 rfl ?_
          refine wp_callSu (pc' := 74) (c_in_rg (nI b) (lo := 2) (hi := 4) (by omega) (by omega)) gX8_item_X8_in rfl rfl hz_X8_in ⟨Nat.le_of_ble_eq_true rfl, Nat.le_of_ble_eq_true rfl⟩ ⟨rfl, rfl⟩ (Nat.le_of_ble_eq_true rfl) ⟨Nat.le_of_ble_eq_true rfl, Nat.le_of_ble_eq_true rfl⟩ rfl dX8_item_71 rfl ?_
          rw [rg_nI (by omega)]
          refine wp_if_eq (pc' := 77) (tgt := 81) dX8_item_74 rfl rfl (fun c74 => ?_) (fun c74 => ?_)
          · skip -- 74 taken
            refine wp_iconst (pc' := 82) (0) dX8_item_81 rfl (by decide) ?_
            refine wp_istore_n_2 (pc' := 83) dX8_item_82 (by decide) rfl rfl ?_
            refine wp_aload_n_0 (pc' := 84) dX8_item_83 rfl ?_
            refine wp_get_8_2 (pc' := 87) (by omega) rfl rfl me_X8_item_1 ic_X8_item_8 dX8_item_84 rfl ?_
            refine wp_iconst (pc' := 88) (2) dX8_item_87 rfl (by decide) ?_
            refine wp_aload_n_0 (pc' := 89) dX8_item_88 rfl ?_
            refine wp_get_8_12 (pc' := 92) (by omega) rfl rfl me_X8_item_2 ic_X8_item_8 dX8_item_89 rfl ?_
            refine wp_iconst (pc' := 93) (0) dX8_item_92 rfl (by decide) ?_
            refine wp_iald (pc' := 94) (N := 2) (by omega) rfl rfl (by first | exact vp_in_nI (by omega) (by omega) | assumption | (unfold vp_in; decide)) dX8_item_93 rfl ?_
            refine wp_iast (pc' := 95) (N := 4) (by omega) rfl rfl (by first | exact vp_in_nI (by omega) (by omega) | assumption | (unfold vp_in; decide)) dX8_item_94 rfl ?_
            rw [show (2 : Int32).toNatClampNeg = 2 from rfl]
            refine wp_aload_n_0 (pc' := 96) dX8_item_95 rfl ?_
            refine wp_get_8_2 (pc' := 99) (by omega) rfl rfl me_X8_item_1 ic_X8_item_8 dX8_item_96 rfl ?_
            refine wp_iconst (pc' := 100) (3) dX8_item_99 rfl (by decide) ?_
            refine wp_aload_n_0 (pc' := 101) dX8_item_100 rfl ?_
            refine wp_get_8_12 (pc' := 104) (by omega) rfl rfl me_X8_item_2 ic_X8_item_8 dX8_item_101 rfl ?_
            refine wp_iconst (pc' := 105) (1) dX8_item_104 rfl (by decide) ?_
            refine wp_iald (pc' := 106) (N := 2) (by omega) rfl rfl (by first | exact vp_in_nI (by omega) (by omega) | assumption | (unfold vp_in; decide)) dX8_item_105 rfl ?_
            refine wp_iast (pc' := 107) (N := 4) (by omega) rfl rfl (by first | exact vp_in_nI (by omega) (by omega) | assumption | (unfold vp_in; decide)) dX8_item_106 rfl ?_
            rw [show (3 : Int32).toNatClampNeg = 3 from rfl]
            refine wp_iload_n_2 (pc' := 108) dX8_item_107 rfl ?_
            refine wp_zreturn (by decide) dX8_item_108 rfl rfl (Nat.le_refl _) (Nat.le_refl _) ?_
            exact qI_of (none_ _ (rf2 _ _ _ g1 g2) (by
                rw [item_d e100, if_pos f0, hq]
                simp only
                rw [if_neg (fun z => by rw [if_pos ⟨z.2.2.1, z.2.2.2⟩] at c74; exact bS c74)]))
          · skip -- 74 not taken
            have wb : 2 ≤ b ∧ b ≤ 4 := by
              apply Classical.byContradiction
              intro z
              rw [if_neg z] at c74
              exact c74 rfl
            refine wp_iconst (pc' := 78) (1) dX8_item_77 rfl (by decide) ?_
            refine wp_goto (tgt := 82) dX8_item_78 rfl ?_
            refine wp_istore_n_2 (pc' := 83) dX8_item_82 (by decide) rfl rfl ?_
            refine wp_aload_n_0 (pc' := 84) dX8_item_83 rfl ?_
            refine wp_get_8_2 (pc' := 87) (by omega) rfl rfl me_X8_item_1 ic_X8_item_8 dX8_item_84 rfl ?_
            refine wp_iconst (pc' := 88) (2) dX8_item_87 rfl (by decide) ?_
            refine wp_aload_n_0 (pc' := 89) dX8_item_88 rfl ?_
            refine wp_get_8_12 (pc' := 92) (by omega) rfl rfl me_X8_item_2 ic_X8_item_8 dX8_item_89 rfl ?_
            refine wp_iconst (pc' := 93) (0) dX8_item_92 rfl (by decide) ?_
            refine wp_iald (pc' := 94) (N := 2) (by omega) rfl rfl (by first | exact vp_in_nI (by omega) (by omega) | assumption | (unfold vp_in; decide)) dX8_item_93 rfl ?_
            refine wp_iast (pc' := 95) (N := 4) (by omega) rfl rfl (by first | exact vp_in_nI (by omega) (by omega) | assumption | (unfold vp_in; decide)) dX8_item_94 rfl ?_
            rw [show (2 : Int32).toNatClampNeg = 2 from rfl]
            refine wp_aload_n_0 (pc' := 96) dX8_item_95 rfl ?_
            refine wp_get_8_2 (pc' := 99) (by omega) rfl rfl me_X8_item_1 ic_X8_item_8 dX8_item_96 rfl ?_
            refine wp_iconst (pc' := 100) (3) dX8_item_99 rfl (by decide) ?_
            refine wp_aload_n_0 (pc' := 101) dX8_item_100 rfl ?_
            refine wp_get_8_12 (pc' := 104) (by omega) rfl rfl me_X8_item_2 ic_X8_item_8 dX8_item_101 rfl ?_
            refine wp_iconst (pc' := 105) (1) dX8_item_104 rfl (by decide) ?_
            refine wp_iald (pc' := 106) (N := 2) (by omega) rfl rfl (by first | exact vp_in_nI (by omega) (by omega) | assumption | (unfold vp_in; decide)) dX8_item_105 rfl ?_
            refine wp_iast (pc' := 107) (N := 4) (by omega) rfl rfl (by first | exact vp_in_nI (by omega) (by omega) | assumption | (unfold vp_in; decide)) dX8_item_106 rfl ?_
            rw [show (3 : Int32).toNatClampNeg = 3 from rfl]
            refine wp_iload_n_2 (pc' := 108) dX8_item_107 rfl ?_
            refine wp_zreturn (by decide) dX8_item_108 rfl rfl (Nat.le_refl _) (Nat.le_refl _) ?_
            refine qI_of (some_ _ (rf2 _ _ _ g1 g2) q (a, b, true, s.2.2.2.1, s.2.2.2.2) (by
                rw [item_d e100, if_pos f0, hq]
                simp only
                rw [if_pos ⟨wa.1, wa.2, wb.1, wb.2⟩]) (by rw [hup_cell (by decide), hup_cell (by decide)]; exact g5) ⟨?_, ?_, ?_, fun m hm => ?_, fun k hk => ?_⟩)
            · rw [hup_off (by decide), hup_at, show (0 : Int32).toNatClampNeg = 0 from rfl, g6]
            · rw [hup_at, hup_cell (by decide), show (1 : Int32).toNatClampNeg = 1 from rfl, g7]
            · rw [hup_cell (by decide), hup_cell (by decide), g2 11 (by decide), hup_off (by decide), r3, f0]
            · rw [hup_cell (by decide), hup_cell (by decide), g1 92 (by decide) (by decide), hup_cell (by decide)]; exact r4 m hm
            · rw [hup_cell (by decide), hup_cell (by decide), g1 94 (by decide) (by decide), hup_cell (by decide)]; exact r5 k hk
  · have T1 : TM (hup (hup h 89 10 (nI (p + 1))) 89 11 1) len tx := T.of (by rw [hup_off (by decide), hup_off (by decide)]) (by rw [hup_cell (by decide), hup_cell (by decide)])
    have rf1 : RF (hup (hup h 89 10 (nI (p + 1))) 89 11 1) h := ⟨fun a ha => by rw [hup_cell (by omega), hup_cell (by omega)], fun i hi => by rw [hup_off (by omega), hup_off (by omega)], fun i hi => by rw [hup_cell (by decide), hup_cell (by decide)], fun m hm => by rw [hup_cell (by decide), hup_cell (by decide)]⟩
    have rf2 : ∀ h2 : Hp, (∀ a, a ≠ 89 → a ≠ 97 → a ≠ 94 → h2 a = hup (hup h 89 10 (nI (p + 1))) 89 11 1 a) → (∀ i, i ≠ 10 → h2 89 i = hup (hup h 89 10 (nI (p + 1))) 89 11 1 89 i) → RF h2 h := fun h2 g1 g2 => RF.tr ⟨fun a ha => g1 a (by omega) (by omega) (by omega), fun i hi => g2 i (by omega), fun i hi => by rw [g1 91 (by decide) (by decide) (by decide)], fun m hm => by rw [g1 92 (by decide) (by decide) (by decide)]⟩ rf1
    have c0 : ∀ a, a ≠ 89 → hup (hup h 89 10 (nI (p + 1))) 89 11 1 a = h a := fun a ha => by rw [hup_cell ha, hup_cell ha]
    refine Ctr.of (cc := cX8_item) (nL := 3) (own := RX8) (rt := (some .boolean)) (ls := [some (.ref (B + 89)), none, none]) (by decide) rfl rfl (Nat.le_of_ble_eq_true rfl) rfl ?_
    refine wp_aload_n_0 (pc' := 1) dX8_item_0 rfl ?_
    refine wp_aload_n_0 (pc' := 2) dX8_item_1 rfl ?_
    refine wp_get_8_10 (pc' := 5) (by omega) rfl me_X8_item_0 ic_X8_item_8 dX8_item_2 rfl ?_
    rw [hp]
    refine wp_callVu (pc' := 8) (c_X8_letterAt hn T (by omega)) gX8_item_X8_letterAt rfl rfl hy_X8_letterAt ⟨Nat.le_of_ble_eq_true rfl, Nat.le_of_ble_eq_true rfl⟩ ⟨rfl, rfl⟩ (Nat.le_of_ble_eq_true rfl) ⟨Nat.le_of_ble_eq_true rfl, Nat.le_of_ble_eq_true rfl⟩ (by omega) (ce8 rfl) rfl rfl dX8_item_5 rfl ?_
    refine wp_istore_n_1 (pc' := 9) dX8_item_8 (by decide) rfl rfl ?_
    refine wp_aload_n_0 (pc' := 10) dX8_item_9 rfl ?_
    refine wp_dup (pc' := 11) dX8_item_10 rfl rfl ?_
    refine wp_get_8_10 (pc' := 14) (by omega) rfl me_X8_item_0 ic_X8_item_8 dX8_item_11 rfl ?_
    rw [hp]
    refine wp_iconst (pc' := 15) (1) dX8_item_14 rfl (by decide) ?_
    refine wp_iadd (pc' := 16) dX8_item_15 rfl ?_
    rw [nI_1]
    refine wp_put_8_10 (pc' := 19) (by omega) rfl me_X8_item_0 ic_X8_item_8 dX8_item_16 rfl ?_
    refine wp_iload_n_1 (pc' := 20) dX8_item_19 rfl ?_
    refine wp_bipush (pc' := 22) (100) dX8_item_20 rfl (by decide) ?_
    refine wp_icmp_ne (pc' := 25) (tgt := 109) dX8_item_22 rfl rfl (fun c22 => ?_) (fun c22 => by exfalso; exact e100 ((nI_eq (by omega) (by omega)).mp (show nI (ltr len tx p) = nI 100 from c22)))
    refine wp_aload_n_0 (pc' := 110) dX8_item_109 rfl ?_
    refine wp_iconst (pc' := 111) (1) dX8_item_110 rfl (by decide) ?_
    refine wp_put_8_11 (pc' := 114) (by omega) rfl me_X8_item_3 ic_X8_item_8 (by decide) dX8_item_111 rfl ?_
    refine wp_iload_n_1 (pc' := 115) dX8_item_114 rfl ?_
    rcases (by omega : ltr len tx p = 104 ∨ ltr len tx p = 109 ∨ ltr len tx p = 119 ∨ (ltr len tx p ≠ 100 ∧ ltr len tx p ≠ 104 ∧ ltr len tx p ≠ 109 ∧ ltr len tx p ≠ 119)) with e | e | e | e <;> first | rw [e] | skip
    · skip -- case 104
      refine wp_lookup (off := 93) (tgt := 208) dX8_item_115 (by decide) rfl rfl ?_
      refine wp_aload_n_0 (pc' := 209) dX8_item_208 rfl ?_
      refine wp_callVq (pc' := 212) (c_X8_twoFigures (p := p + 1) hn T1 (by rw [hup_off (by decide), hup_at]) (by omega)) gX8_item_X8_twoFigures rfl rfl hy_X8_twoFigures ⟨Nat.le_of_ble_eq_true rfl, Nat.le_of_ble_eq_true rfl⟩ ⟨rfl, rfl⟩ (Nat.le_of_ble_eq_true rfl) ⟨Nat.le_of_ble_eq_true rfl, Nat.le_of_ble_eq_true rfl⟩ (by omega) (ce8 rfl) rfl rfl dX8_item_209 rfl (fun x209 h209 q209 => ?_)
      obtain ⟨g0, g1, g2, g3⟩ := q209
      subst g0
      have f2 := rf2 _ (fun a h1 h2 _ => g1 a h1 h2) g2
      refine wp_if_eq (pc' := 215) (tgt := 242) dX8_item_212 rfl rfl (fun c212 => ?_) (fun c212 => ?_)
      · skip -- 212 taken
        refine wp_iconst (pc' := 243) (0) dX8_item_242 rfl (by decide) ?_
        refine wp_zreturn (by decide) dX8_item_243 rfl rfl (Nat.le_refl _) (Nat.le_refl _) ?_
        exact qI_of (none_ _ f2 (by rw [item_h e, pair_none c212]))
      · skip -- 212 not taken
        obtain ⟨a, b, q, hq⟩ := pair_some c212
        have hq2 := pair_le hq
        obtain ⟨g5, g6, g7⟩ := g3 a b q hq
        refine wp_aload_n_0 (pc' := 216) dX8_item_215 rfl ?_
        refine wp_get_8_12 (pc' := 219) (by omega) rfl rfl me_X8_item_2 ic_X8_item_8 dX8_item_216 rfl ?_
        refine wp_iconst (pc' := 220) (0) dX8_item_219 rfl (by decide) ?_
        refine wp_iald (pc' := 221) (N := 2) (by omega) rfl rfl (by first | exact vp_in_nI (by omega) (by omega) | assumption | (unfold vp_in; decide)) dX8_item_220 rfl ?_
        rw [show (0 : Int32).toNatClampNeg = 0 from rfl, g6]
        refine wp_iconst (pc' := 222) (5) dX8_item_221 rfl (by decide) ?_
        refine wp_icmp_gt (pc' := 225) (tgt := 242) dX8_item_222 rfl rfl (fun c222 => ?_) (fun c222 => ?_)
        · skip -- 222 taken
          refine wp_iconst (pc' := 243) (0) dX8_item_242 rfl (by decide) ?_
          refine wp_zreturn (by decide) dX8_item_243 rfl rfl (Nat.le_refl _) (Nat.le_refl _) ?_
          exact qI_of (none_ _ f2 (by
              rw [item_h e, hq]
              simp only
              rw [if_neg (fun z => nI_nlt (a := 5) (b := a) z.1 (by omega) c222)]))
        · skip -- 222 not taken
          have wa : a ≤ 5 := by (simp (disch := omega) only [Int32.lt_iff_toInt_lt, Int32.le_iff_toInt_le, ← Int32.toInt_inj, nI_toInt, il_0, il_1, il_2, il_3, il_4, il_5, il_6, il_8, il_9, il_10, il_16, il_26, il_32, il_40, il_n4, il_n1, il_n2, il_11, il_48, il_57, il_59, il_44, il_126, il_200, il_9999, il_66666, il_10000, il_1000000, il_15, il_12, il_256, il_4096, il_53, il_52] at c222; omega)
          refine wp_aload_n_0 (pc' := 226) dX8_item_225 rfl ?_
          refine wp_get_8_12 (pc' := 229) (by omega) rfl rfl me_X8_item_2 ic_X8_item_8 dX8_item_226 rfl ?_
          refine wp_iconst (pc' := 230) (1) dX8_item_229 rfl (by decide) ?_
          refine wp_iald (pc' := 231) (N := 2) (by omega) rfl rfl (by first | exact vp_in_nI (by omega) (by omega) | assumption | (unfold vp_in; decide)) dX8_item_230 rfl ?_
          rw [show (1 : Int32).toNatClampNeg = 1 from rfl, g7]
          refine wp_i2l (pc' := 232) dX8_item_231 rfl ?_
          refine wp_lconst (pc' := 233) (1) dX8_item_232 rfl (by decide) ?_
          refine wp_ldc2 (pc' := 236) (v := (9)) me_X8_item_6 dX8_item_233 rfl ?_
          refine wp_callSu (pc' := 239) (c_in_rg (nI b) (lo := 1) (hi := 9) (by omega) (by omega)) gX8_item_X8_in rfl rfl hz_X8_in ⟨Nat.le_of_ble_eq_true rfl, Nat.le_of_ble_eq_true rfl⟩ ⟨rfl, rfl⟩ (Nat.le_of_ble_eq_true rfl) ⟨Nat.le_of_ble_eq_true rfl, Nat.le_of_ble_eq_true rfl⟩ rfl dX8_item_236 rfl ?_
          rw [rg_nI (by omega)]
          refine wp_if_ne (pc' := 242) (tgt := 244) dX8_item_239 rfl rfl (fun c239 => ?_) (fun c239 => ?_)
          · skip -- 239 taken
            have wb : 1 ≤ b ∧ b ≤ 9 := by
              apply Classical.byContradiction
              intro z
              rw [if_neg z] at c239
              exact c239 rfl
            refine wp_aload_n_0 (pc' := 245) dX8_item_244 rfl ?_
            refine wp_get_8_3 (pc' := 248) (by omega) rfl rfl me_X8_item_7 ic_X8_item_8 dX8_item_245 rfl ?_
            refine wp_bipush (pc' := 250) (6) dX8_item_248 rfl (by decide) ?_
            refine wp_aload_n_0 (pc' := 251) dX8_item_250 rfl ?_
            refine wp_get_8_12 (pc' := 254) (by omega) rfl rfl me_X8_item_2 ic_X8_item_8 dX8_item_251 rfl ?_
            refine wp_iconst (pc' := 255) (0) dX8_item_254 rfl (by decide) ?_
            refine wp_iald (pc' := 256) (N := 2) (by omega) rfl rfl (by first | exact vp_in_nI (by omega) (by omega) | assumption | (unfold vp_in; decide)) dX8_item_255 rfl ?_
            rw [show (0 : Int32).toNatClampNeg = 0 from rfl, g6]
            refine wp_iadd (pc' := 257) dX8_item_256 rfl ?_
            rw [show (6 : Int32) = nI 6 from rfl, nI_add]
            refine wp_aload_n_0 (pc' := 258) dX8_item_257 rfl ?_
            refine wp_get_8_12 (pc' := 261) (by omega) rfl rfl me_X8_item_2 ic_X8_item_8 dX8_item_258 rfl ?_
            refine wp_iconst (pc' := 262) (1) dX8_item_261 rfl (by decide) ?_
            refine wp_iald (pc' := 263) (N := 2) (by omega) rfl rfl (by first | exact vp_in_nI (by omega) (by omega) | assumption | (unfold vp_in; decide)) dX8_item_262 rfl ?_
            rw [show (1 : Int32).toNatClampNeg = 1 from rfl, g7]
            refine wp_iast (pc' := 264) (N := 12) (by omega) rfl rfl (by first | exact vp_in_nI (by omega) (by omega) | assumption | (unfold vp_in; decide)) dX8_item_263 rfl ?_
            rw [nI_clamp (by omega)]
            refine wp_iconst (pc' := 265) (1) dX8_item_264 rfl (by decide) ?_
            refine wp_zreturn (by decide) dX8_item_265 rfl rfl (Nat.le_refl _) (Nat.le_refl _) ?_
            refine qI_of (some_ _ (RF.tr ⟨fun c hc => hup_cell (by omega), fun i hi => by rw [hup_cell (by decide)], fun i hi => by rw [hup_cell (by decide)], fun m hm => by rw [hup_off (by omega)]⟩ f2) q _ (by
                rw [item_h e, hq]
                simp only
                rw [if_pos ⟨wa, wb⟩]) (by rw [hup_cell (by decide)]; exact g5) ⟨?_, ?_, ?_, fun m hm => ?_, fun k hk => ?_⟩)
            · rw [hup_cell (by decide), g1 91 (by decide) (by decide), c0 91 (by decide)]; exact r1
            · rw [hup_cell (by decide), g1 91 (by decide) (by decide), c0 91 (by decide)]; exact r2
            · rw [hup_cell (by decide), g2 11 (by decide), hup_at]; rfl
            · show _ = nI (upN s.2.2.2.1 a b m)
              by_cases ek : m = a
              · subst ek; rw [hup_at, upN_at]
              · rw [hup_off (by omega), upN_off ek, g1 92 (by decide) (by decide), c0 92 (by decide)]; exact r4 m hm
            · rw [hup_cell (by decide), g1 94 (by decide) (by decide), c0 94 (by decide)]; exact r5 k hk
          · skip -- 239 not taken
            refine wp_iconst (pc' := 243) (0) dX8_item_242 rfl (by decide) ?_
            refine wp_zreturn (by decide) dX8_item_243 rfl rfl (Nat.le_refl _) (Nat.le_refl _) ?_
            exact qI_of (none_ _ f2 (by
                rw [item_h e, hq]
                simp only
                rw [if_neg (fun z => by rw [if_pos z.2] at c239; exact bS c239)]))
    · skip -- case 109
      refine wp_lookup (off := 33) (tgt := 148) dX8_item_115 (by decide) rfl rfl ?_
      refine wp_aload_n_0 (pc' := 149) dX8_item_148 rfl ?_
      refine wp_callVq (pc' := 152) (c_X8_twoFigures (p := p + 1) hn T1 (by rw [hup_off (by decide), hup_at]) (by omega)) gX8_item_X8_twoFigures rfl rfl hy_X8_twoFigures ⟨Nat.le_of_ble_eq_true rfl, Nat.le_of_ble_eq_true rfl⟩ ⟨rfl, rfl⟩ (Nat.le_of_ble_eq_true rfl) ⟨Nat.le_of_ble_eq_true rfl, Nat.le_of_ble_eq_true rfl⟩ (by omega) (ce8 rfl) rfl rfl dX8_item_149 rfl (fun x149 h149 q149 => ?_)
      obtain ⟨g0, g1, g2, g3⟩ := q149
      subst g0
      have f2 := rf2 _ (fun a h1 h2 _ => g1 a h1 h2) g2
      refine wp_if_eq (pc' := 155) (tgt := 187) dX8_item_152 rfl rfl (fun c152 => ?_) (fun c152 => ?_)
      · skip -- 152 taken
        refine wp_iconst (pc' := 188) (0) dX8_item_187 rfl (by decide) ?_
        refine wp_zreturn (by decide) dX8_item_188 rfl rfl (Nat.le_refl _) (Nat.le_refl _) ?_
        exact qI_of (none_ _ f2 (by rw [item_m e, pair_none c152]))
      · skip -- 152 not taken
        obtain ⟨a, b, q, hq⟩ := pair_some c152
        have hq2 := pair_le hq
        obtain ⟨g5, g6, g7⟩ := g3 a b q hq
        refine wp_aload_n_0 (pc' := 156) dX8_item_155 rfl ?_
        refine wp_get_8_12 (pc' := 159) (by omega) rfl rfl me_X8_item_2 ic_X8_item_8 dX8_item_156 rfl ?_
        refine wp_iconst (pc' := 160) (0) dX8_item_159 rfl (by decide) ?_
        refine wp_iald (pc' := 161) (N := 2) (by omega) rfl rfl (by first | exact vp_in_nI (by omega) (by omega) | assumption | (unfold vp_in; decide)) dX8_item_160 rfl ?_
        rw [show (0 : Int32).toNatClampNeg = 0 from rfl, g6]
        refine wp_aload_n_0 (pc' := 162) dX8_item_161 rfl ?_
        refine wp_get_8_2 (pc' := 165) (by omega) rfl rfl me_X8_item_1 ic_X8_item_8 dX8_item_162 rfl ?_
        refine wp_iconst (pc' := 166) (2) dX8_item_165 rfl (by decide) ?_
        refine wp_iald (pc' := 167) (N := 4) (by omega) rfl rfl (by first | exact vp_in_nI (by omega) (by omega) | assumption | (unfold vp_in; decide)) dX8_item_166 rfl ?_
        rw [show (2 : Int32).toNatClampNeg = 2 from rfl, g1 91 (by decide) (by decide), c0 91 (by decide), r1]
        refine wp_aload_n_0 (pc' := 168) dX8_item_167 rfl ?_
        refine wp_get_8_2 (pc' := 171) (by omega) rfl rfl me_X8_item_1 ic_X8_item_8 dX8_item_168 rfl ?_
        refine wp_iconst (pc' := 172) (3) dX8_item_171 rfl (by decide) ?_
        refine wp_iald (pc' := 173) (N := 4) (by omega) rfl rfl (by first | exact vp_in_nI (by omega) (by omega) | assumption | (unfold vp_in; decide)) dX8_item_172 rfl ?_
        rw [show (3 : Int32).toNatClampNeg = 3 from rfl, g1 91 (by decide) (by decide), c0 91 (by decide), r2]
        refine wp_imul (pc' := 174) dX8_item_173 rfl ?_
        rw [nI_mul]
        refine wp_icmp_ge (pc' := 177) (tgt := 187) dX8_item_174 rfl rfl (fun c174 => ?_) (fun c174 => ?_)
        · skip -- 174 taken
          refine wp_iconst (pc' := 188) (0) dX8_item_187 rfl (by decide) ?_
          refine wp_zreturn (by decide) dX8_item_188 rfl rfl (Nat.le_refl _) (Nat.le_refl _) ?_
          exact qI_of (none_ _ f2 (by
              rw [item_m e, hq]
              simp only
              rw [if_neg (fun z => nI_ge z.1 (by omega) c174)]))
        · skip -- 174 not taken
          have wa : a < s.1 * s.2.1 := by
            apply Classical.byContradiction
            intro z
            exact c174 (nI_le (by omega) (by omega))
          refine wp_aload_n_0 (pc' := 178) dX8_item_177 rfl ?_
          refine wp_get_8_12 (pc' := 181) (by omega) rfl rfl me_X8_item_2 ic_X8_item_8 dX8_item_178 rfl ?_
          refine wp_iconst (pc' := 182) (1) dX8_item_181 rfl (by decide) ?_
          refine wp_iald (pc' := 183) (N := 2) (by omega) rfl rfl (by first | exact vp_in_nI (by omega) (by omega) | assumption | (unfold vp_in; decide)) dX8_item_182 rfl ?_
          rw [show (1 : Int32).toNatClampNeg = 1 from rfl, g7]
          refine wp_iconst (pc' := 184) (5) dX8_item_183 rfl (by decide) ?_
          refine wp_icmp_le (pc' := 187) (tgt := 189) dX8_item_184 rfl rfl (fun c184 => ?_) (fun c184 => ?_)
          · skip -- 184 taken
            have wb : b ≤ 5 := by (simp (disch := omega) only [Int32.lt_iff_toInt_lt, Int32.le_iff_toInt_le, ← Int32.toInt_inj, nI_toInt, il_0, il_1, il_2, il_3, il_4, il_5, il_6, il_8, il_9, il_10, il_16, il_26, il_32, il_40, il_n4, il_n1, il_n2, il_11, il_48, il_57, il_59, il_44, il_126, il_200, il_9999, il_66666, il_10000, il_1000000, il_15, il_12, il_256, il_4096, il_53, il_52] at c184; omega)
            refine wp_aload_n_0 (pc' := 190) dX8_item_189 rfl ?_
            refine wp_get_8_5 (pc' := 193) (by omega) rfl rfl me_X8_item_8 ic_X8_item_8 dX8_item_190 rfl ?_
            refine wp_aload_n_0 (pc' := 194) dX8_item_193 rfl ?_
            refine wp_get_8_12 (pc' := 197) (by omega) rfl rfl me_X8_item_2 ic_X8_item_8 dX8_item_194 rfl ?_
            refine wp_iconst (pc' := 198) (0) dX8_item_197 rfl (by decide) ?_
            refine wp_iald (pc' := 199) (N := 2) (by omega) rfl rfl (by first | exact vp_in_nI (by omega) (by omega) | assumption | (unfold vp_in; decide)) dX8_item_198 rfl ?_
            rw [show (0 : Int32).toNatClampNeg = 0 from rfl, g6]
            refine wp_aload_n_0 (pc' := 200) dX8_item_199 rfl ?_
            refine wp_get_8_12 (pc' := 203) (by omega) rfl rfl me_X8_item_2 ic_X8_item_8 dX8_item_200 rfl ?_
            refine wp_iconst (pc' := 204) (1) dX8_item_203 rfl (by decide) ?_
            refine wp_iald (pc' := 205) (N := 2) (by omega) rfl rfl (by first | exact vp_in_nI (by omega) (by omega) | assumption | (unfold vp_in; decide)) dX8_item_204 rfl ?_
            rw [show (1 : Int32).toNatClampNeg = 1 from rfl, g7]
            refine wp_iast (pc' := 206) (N := 52) (by omega) rfl rfl (vp_in_nI (by omega) (by omega)) dX8_item_205 rfl ?_
            rw [nI_clamp (by omega)]
            refine wp_iconst (pc' := 207) (1) dX8_item_206 rfl (by decide) ?_
            refine wp_zreturn (by decide) dX8_item_207 rfl rfl (Nat.le_refl _) (Nat.le_refl _) ?_
            refine qI_of (some_ _ (RF.tr ⟨fun c hc => hup_cell (by omega), fun i hi => by rw [hup_cell (by decide)], fun i hi => by rw [hup_cell (by decide)], fun m hm => by rw [hup_cell (by decide)]⟩ f2) q _ (by
                rw [item_m e, hq]
                simp only
                rw [if_pos ⟨wa, wb⟩]) (by rw [hup_cell (by decide)]; exact g5) ⟨?_, ?_, ?_, fun m hm => ?_, fun k hk => ?_⟩)
            · rw [hup_cell (by decide), g1 91 (by decide) (by decide), c0 91 (by decide)]; exact r1
            · rw [hup_cell (by decide), g1 91 (by decide) (by decide), c0 91 (by decide)]; exact r2
            · rw [hup_cell (by decide), g2 11 (by decide), hup_at]; rfl
            · rw [hup_cell (by decide), g1 92 (by decide) (by decide), c0 92 (by decide)]; exact r4 m hm
            · show _ = nI (upN s.2.2.2.2 a b k)
              by_cases ek : k = a
              · subst ek; rw [hup_at, upN_at]
              · rw [hup_off ek, upN_off ek, g1 94 (by decide) (by decide), c0 94 (by decide)]; exact r5 k hk
          · skip -- 184 not taken
            refine wp_iconst (pc' := 188) (0) dX8_item_187 rfl (by decide) ?_
            refine wp_zreturn (by decide) dX8_item_188 rfl rfl (Nat.le_refl _) (Nat.le_refl _) ?_
            exact qI_of (none_ _ f2 (by
                rw [item_m e, hq]
                simp only
                rw [if_neg (fun z => c184 (nI_le (a := b) (b := 5) z.2 (by omega)))]))
    · skip -- case 119
      refine wp_lookup (off := 151) (tgt := 266) dX8_item_115 (by decide) rfl rfl ?_
      refine wp_aload_n_0 (pc' := 267) dX8_item_266 rfl ?_
      refine wp_callVq (pc' := 270) (c_X8_walkItem (p := p + 1) (ρ := s.2.2.2.2) hn T1 (by rw [hup_off (by decide), hup_at]) (by omega) (fun k hk => by rw [hup_cell (by decide), hup_cell (by decide)]; exact r5 k hk) p2.2.1) gX8_item_X8_walkItem rfl rfl hy_X8_walkItem ⟨Nat.le_of_ble_eq_true rfl, Nat.le_of_ble_eq_true rfl⟩ ⟨rfl, rfl⟩ (Nat.le_of_ble_eq_true rfl) ⟨Nat.le_of_ble_eq_true rfl, Nat.le_of_ble_eq_true rfl⟩ (by omega) (ce8 rfl) rfl rfl dX8_item_267 rfl (fun x267 h267 q267 => ?_)
      refine wp_zreturn (by rcases q267.2.2 with ⟨z, _⟩ | ⟨z, _⟩ <;> rw [z] <;> decide) dX8_item_270 rfl rfl (Nat.le_refl _) (Nat.le_refl _) ?_
      obtain ⟨g1, g2, g3⟩ := q267
      have f2 := rf2 _ (fun a h1 _ h3 => g1 a h1 h3) g2
      rcases g3 with ⟨rfl, g4⟩ | ⟨rfl, g4, g5, g6⟩
      · exact qI_of (none_ _ f2 (item_w0 e g4))
      · refine qI_of (some_ _ f2 _ _ (item_w e g4) (by rw [g5]) ⟨?_, ?_, ?_, fun m hm => ?_, g6⟩)
        · rw [g1 91 (by decide) (by decide), c0 91 (by decide)]; exact r1
        · rw [g1 91 (by decide) (by decide), c0 91 (by decide)]; exact r2
        · rw [g2 11 (by decide), hup_at]; rfl
        · rw [g1 92 (by decide) (by decide), c0 92 (by decide)]; exact r4 m hm
    · skip -- default
      refine wp_lookup (off := 156) (tgt := 271) dX8_item_115 (by decide) (by rw [nI_toInt (by omega)]; exact lk_d3 (by omega) (by omega) (by omega)) rfl ?_
      refine wp_iconst (pc' := 272) (0) dX8_item_271 rfl (by decide) ?_
      refine wp_zreturn (by decide) dX8_item_272 rfl rfl (Nat.le_refl _) (Nat.le_refl _) ?_
      exact qI_of (none_ _ rf1 (item_0 e))
theorem lp1_X8_empty {post : PO} (hn : 105 ≤ n) (H0 : Hp)
    (K : ∀ h' a1, (∀ a, a ≠ 94 → h' a = H0 a) → (∀ k, k < 52 → h' 94 k = 0) → WP l D cy B cX8_empty 2 RX8 wsX8_empty rmX8_empty none (QE0 D cy B n 0 0 (post)) EX0 n (rf0 π) h' lg 0 0 35 [some (.ref (B + 89)), a1] []) :
    ∀ d i : Nat, i + d = 52 → ∀ h', (∀ a, a ≠ 94 → h' a = H0 a) → (∀ k, k < i → h' 94 k = 0) → WP l D cy B cX8_empty 2 RX8 wsX8_empty rmX8_empty none (QE0 D cy B n 0 0 (post)) EX0 n (rf0 π) h' lg 0 0 16 [some (.ref (B + 89)), some (.int (nI i))] [] := by
  intro d
  induction d with
  | zero =>
    intro i hi h' e0 e1
    have : i = 52 := by omega
    subst this
    refine wp_iload_n_1 (pc' := 17) dX8_empty_16 rfl ?_
    refine wp_bipush (pc' := 19) (52) dX8_empty_17 rfl (by decide) ?_
    refine wp_icmp_ge (pc' := 22) (tgt := 35) dX8_empty_19 rfl rfl (fun c19 => ?_) (fun c19 => by exfalso; exact c19 (by decide))
    exact K h' _ e0 e1
  | succ d ih =>
    intro i hi h' e0 e1
    refine wp_iload_n_1 (pc' := 17) dX8_empty_16 rfl ?_
    refine wp_bipush (pc' := 19) (52) dX8_empty_17 rfl (by decide) ?_
    refine wp_icmp_ge (pc' := 22) (tgt := 35) dX8_empty_19 rfl rfl (fun c19 => by exfalso; exact nI_ge (a := i) (b := 52) (by omega) (by omega) c19) (fun c19 => ?_)
    refine wp_aload_n_0 (pc' := 23) dX8_empty_22 rfl ?_
    refine wp_get_8_5 (pc' := 26) (by omega) rfl rfl me_X8_empty_0 ic_X8_empty_8 dX8_empty_23 rfl ?_
    refine wp_iload_n_1 (pc' := 27) dX8_empty_26 rfl ?_
    refine wp_iconst (pc' := 28) (0) dX8_empty_27 rfl (by decide) ?_
    refine wp_iast (pc' := 29) (N := 52) (by omega) rfl rfl (by first | exact vp_in_nI (by omega) (by omega) | assumption | (unfold vp_in; decide)) dX8_empty_28 rfl ?_
    refine wp_iinc_1 (pc' := 32) (v := nI (i + 1)) dX8_empty_29 (by first | rfl | exact nI_1 _) (by decide) rfl rfl ?_
    refine wp_goto (tgt := 16) dX8_empty_32 rfl ?_
    rw [nI_clamp (by omega)]
    refine ih (i + 1) (by omega) _ (fun a ha => by rw [hup_cell ha]; exact e0 a ha) (fun k hk => ?_)
    by_cases e : k = i
    · subst e; rw [hup_at]
    · rw [hup_off e]; exact e1 k (by omega)
theorem lp2_X8_empty {post : PO} (hn : 105 ≤ n) (H0 : Hp)
    (K : ∀ h', (∀ a, a ≠ 92 → h' a = H0 a) → (∀ m, m < 6 → h' 92 m = H0 92 m) → (∀ m, m < 6 → h' 92 (6 + m) = nI (m + 1)) → post none (rf0 π) h' lg) :
    ∀ d i : Nat, i + d = 6 → ∀ h', (∀ a, a ≠ 92 → h' a = H0 a) → (∀ m, m < 6 → h' 92 m = H0 92 m) → (∀ m, m < i → h' 92 (6 + m) = nI (m + 1)) → WP l D cy B cX8_empty 2 RX8 wsX8_empty rmX8_empty none (QE0 D cy B n 0 0 (post)) EX0 n (rf0 π) h' lg 0 0 37 [some (.ref (B + 89)), some (.int (nI i))] [] := by
  intro d
  induction d with
  | zero =>
    intro i hi h' e0 e1 e2
    have : i = 6 := by omega
    subst this
    refine wp_iload_n_1 (pc' := 38) dX8_empty_37 rfl ?_
    refine wp_bipush (pc' := 40) (6) dX8_empty_38 rfl (by decide) ?_
    refine wp_icmp_ge (pc' := 43) (tgt := 61) dX8_empty_40 rfl rfl (fun c40 => ?_) (fun c40 => by exfalso; exact c40 (by decide))
    refine wp_return dX8_empty_61 rfl rfl (Nat.le_refl _) (Nat.le_refl _) ?_
    exact K h' e0 e1 e2
  | succ d ih =>
    intro i hi h' e0 e1 e2
    refine wp_iload_n_1 (pc' := 38) dX8_empty_37 rfl ?_
    refine wp_bipush (pc' := 40) (6) dX8_empty_38 rfl (by decide) ?_
    refine wp_icmp_ge (pc' := 43) (tgt := 61) dX8_empty_40 rfl rfl (fun c40 => by exfalso; (simp (disch := omega) only [Int32.lt_iff_toInt_lt, Int32.le_iff_toInt_le, ← Int32.toInt_inj, nI_toInt, il_0, il_1, il_2, il_3, il_4, il_5, il_6, il_8, il_9, il_10, il_16, il_26, il_32, il_40, il_n4, il_n1, il_n2, il_11, il_48, il_57, il_59, il_44, il_126, il_200, il_9999, il_66666, il_10000, il_1000000, il_15, il_12, il_256, il_4096, il_53, il_52] at c40; omega)) (fun c40 => ?_)
    refine wp_aload_n_0 (pc' := 44) dX8_empty_43 rfl ?_
    refine wp_get_8_3 (pc' := 47) (by omega) rfl rfl me_X8_empty_1 ic_X8_empty_8 dX8_empty_44 rfl ?_
    refine wp_bipush (pc' := 49) (6) dX8_empty_47 rfl (by decide) ?_
    refine wp_iload_n_1 (pc' := 50) dX8_empty_49 rfl ?_
    refine wp_iadd (pc' := 51) dX8_empty_50 rfl ?_
    rw [show (6 : Int32) = nI 6 from rfl, nI_add]
    refine wp_iload_n_1 (pc' := 52) dX8_empty_51 rfl ?_
    refine wp_iconst (pc' := 53) (1) dX8_empty_52 rfl (by decide) ?_
    refine wp_iadd (pc' := 54) dX8_empty_53 rfl ?_
    rw [nI_1]
    refine wp_iast (pc' := 55) (N := 12) (by omega) rfl rfl (by first | exact vp_in_nI (by omega) (by omega) | assumption | (unfold vp_in; decide)) dX8_empty_54 rfl ?_
    refine wp_iinc_1 (pc' := 58) (v := nI (i + 1)) dX8_empty_55 (by first | rfl | exact nI_1 _) (by decide) rfl rfl ?_
    refine wp_goto (tgt := 37) dX8_empty_58 rfl ?_
    rw [nI_clamp (by omega)]
    refine ih (i + 1) (by omega) _ (fun a ha => by rw [hup_cell ha]; exact e0 a ha) (fun m hm => by rw [hup_off (by omega)]; exact e1 m hm) (fun m hm => ?_)
    by_cases e : m = i
    · subst e; rw [hup_at]
    · rw [hup_off (by omega)]; exact e2 m (by omega)
def Emp (h' h : Hp) : Prop := (∀ a, a ≠ 91 → a ≠ 92 → a ≠ 94 → h' a = h a) ∧ (∀ i, i < 2 → h' 91 i = h 91 i) ∧ h' 91 2 = 4 ∧ h' 91 3 = 4 ∧ (∀ m, m < 6 → h' 92 m = h 92 m) ∧ (∀ m, m < 6 → h' 92 (6 + m) = nI (m + 1)) ∧ ∀ k, k < 52 → h' 94 k = 0
theorem c_X8_empty (hn : 105 ≤ n) : Ctr l D cy B yX8_empty wsX8_empty rmX8_empty 0 0 n (rf0 π) h lg [.ref (B + 89)] (qV (fun h' => Emp h' h) (rf0 π) lg) := by
  refine Ctr.of (cc := cX8_empty) (nL := 2) (own := RX8) (rt := none) (ls := [some (.ref (B + 89)), none]) (by decide) rfl rfl (Nat.le_of_ble_eq_true rfl) rfl ?_
  refine wp_aload_n_0 (pc' := 1) dX8_empty_0 rfl ?_
  refine wp_get_8_2 (pc' := 4) (by omega) rfl rfl me_X8_empty_2 ic_X8_empty_8 dX8_empty_1 rfl ?_
  refine wp_iconst (pc' := 5) (2) dX8_empty_4 rfl (by decide) ?_
  refine wp_iconst (pc' := 6) (4) dX8_empty_5 rfl (by decide) ?_
  refine wp_iast (pc' := 7) (N := 4) (by omega) rfl rfl (by first | exact vp_in_nI (by omega) (by omega) | assumption | (unfold vp_in; decide)) dX8_empty_6 rfl ?_
  refine wp_aload_n_0 (pc' := 8) dX8_empty_7 rfl ?_
  refine wp_get_8_2 (pc' := 11) (by omega) rfl rfl me_X8_empty_2 ic_X8_empty_8 dX8_empty_8 rfl ?_
  refine wp_iconst (pc' := 12) (3) dX8_empty_11 rfl (by decide) ?_
  refine wp_iconst (pc' := 13) (4) dX8_empty_12 rfl (by decide) ?_
  refine wp_iast (pc' := 14) (N := 4) (by omega) rfl rfl (by first | exact vp_in_nI (by omega) (by omega) | assumption | (unfold vp_in; decide)) dX8_empty_13 rfl ?_
  refine wp_iconst (pc' := 15) (0) dX8_empty_14 rfl (by decide) ?_
  refine wp_istore_n_1 (pc' := 16) dX8_empty_15 (by decide) rfl rfl ?_
  rw [show (2 : Int32).toNatClampNeg = 2 from rfl, show (3 : Int32).toNatClampNeg = 3 from rfl]
  refine lp1_X8_empty hn (hup (hup h 91 2 4) 91 3 4) (fun h1 a1 e0 e1 => ?_) 52 0 (by omega) _ (fun _ _ => rfl) (fun k hk => by omega)
  refine wp_iconst (pc' := 36) (0) dX8_empty_35 rfl (by decide) ?_
  refine wp_istore_n_1 (pc' := 37) dX8_empty_36 (by decide) rfl rfl ?_
  refine lp2_X8_empty hn h1 (fun h2 f0 f1 f2 => qV_of ⟨fun a z1 z2 z3 => by rw [f0 a z2, e0 a z3, hup_cell z1, hup_cell z1], fun i hi => by rw [f0 91 (by decide), e0 91 (by decide), hup_off (by omega), hup_off (by omega)], by rw [f0 91 (by decide), e0 91 (by decide), hup_off (by decide), hup_at], by rw [f0 91 (by decide), e0 91 (by decide), hup_at], fun m hm => by rw [f1 m hm, e0 92 (by decide), hup_cell (by decide), hup_cell (by decide)], f2, fun k hk => by rw [f0 94 (by decide)]; exact e1 k hk⟩) 6 0 (by omega) h1 (fun _ _ => rfl) (fun _ _ => rfl) (fun m hm => by omega)
theorem lp_X8_readAll {len : Nat} {tx : Nat → Nat} {post : PO} (hn : 105 ≤ n) (H0 : Hp) (T0 : TM H0 len tx) (x : Int32) (sf : PSt)
    (K : ∀ h', RF h' H0 → (x = -4 → RSm h' sf ∧ PSok sf) → post (some (.int x)) (rf0 π) h' lg) :
    ∀ d i : Nat, i + d = 200 → ∀ h' p s a1, prs len tx d p s = (x, sf) → i ≤ p → RF h' H0 → h' 89 10 = nI p → p ≤ 400 → RSm h' s → PSok s → WP l D cy B cX8_readAll 2 RX8 wsX8_readAll rmX8_readAll (some .int) (QE0 D cy B n 0 0 (post)) EX0 n (rf0 π) h' lg 0 0 14 [some (.ref (B + 89)), a1] [] := by
  have hl := T0.2.1
  intro d
  induction d with
  | zero =>
    intro i hi h' p s a1 hprs hip f e2 hp4 rs ps
    have T := f.tm T0
    simp only [prs] at hprs
    cases hprs
    refine wp_aload_n_0 (pc' := 15) dX8_readAll_14 rfl ?_
    refine wp_get_8_10 (pc' := 18) (by omega) rfl me_X8_readAll_0 ic_X8_readAll_8 dX8_readAll_15 rfl ?_
    rw [e2]
    refine wp_aload_n_0 (pc' := 19) dX8_readAll_18 rfl ?_
    refine wp_get_8_0 (pc' := 22) (by omega) rfl me_X8_readAll_1 ic_X8_readAll_8 dX8_readAll_19 rfl ?_
    rw [T.1]
    refine wp_icmp_ge (pc' := 25) (tgt := 42) dX8_readAll_22 rfl rfl (fun c22 => ?_) (fun c22 => by exfalso; exact c22 (nI_le (by omega) (by omega)))
    refine wp_bipush (pc' := 44) (-4) dX8_readAll_42 rfl (by decide) ?_
    refine wp_ireturn dX8_readAll_44 rfl rfl (Nat.le_refl _) (Nat.le_refl _) ?_
    exact K h' f (fun _ => ⟨rs, ps⟩)
  | succ d ih =>
    intro i hi h' p s a1 hprs hip f e2 hp4 rs ps
    have T := f.tm T0
    simp only [prs] at hprs
    by_cases hlt : p < len
    · rw [if_pos hlt] at hprs
      refine wp_aload_n_0 (pc' := 15) dX8_readAll_14 rfl ?_
      refine wp_get_8_10 (pc' := 18) (by omega) rfl me_X8_readAll_0 ic_X8_readAll_8 dX8_readAll_15 rfl ?_
      rw [e2]
      refine wp_aload_n_0 (pc' := 19) dX8_readAll_18 rfl ?_
      refine wp_get_8_0 (pc' := 22) (by omega) rfl me_X8_readAll_1 ic_X8_readAll_8 dX8_readAll_19 rfl ?_
      rw [T.1]
      refine wp_icmp_ge (pc' := 25) (tgt := 42) dX8_readAll_22 rfl rfl (fun c22 => by exfalso; exact nI_ge hlt (by omega) c22) (fun c22 => ?_)
      refine wp_aload_n_0 (pc' := 26) dX8_readAll_25 rfl ?_
      refine wp_get_8_10 (pc' := 29) (by omega) rfl me_X8_readAll_0 ic_X8_readAll_8 dX8_readAll_26 rfl ?_
      rw [e2]
      refine wp_istore_n_1 (pc' := 30) dX8_readAll_29 (by decide) rfl rfl ?_
      refine wp_aload_n_0 (pc' := 31) dX8_readAll_30 rfl ?_
      refine wp_callVq (pc' := 34) (c_X8_item hn T e2 hlt rs ps) gX8_readAll_X8_item rfl rfl hy_X8_item ⟨Nat.le_of_ble_eq_true rfl, Nat.le_of_ble_eq_true rfl⟩ ⟨rfl, rfl⟩ (Nat.le_of_ble_eq_true rfl) ⟨Nat.le_of_ble_eq_true rfl, Nat.le_of_ble_eq_true rfl⟩ (by omega) (ce8 rfl) rfl rfl dX8_readAll_31 rfl (fun x31 h31 q31 => ?_)
      obtain ⟨g0, g1, g2⟩ := q31
      subst g0
      refine wp_if_ne (pc' := 37) (tgt := 39) dX8_readAll_34 rfl rfl (fun c34 => ?_) (fun c34 => ?_)
      · skip -- 34 taken
        obtain ⟨q, s', f1⟩ : ∃ q s', item len tx p s = some (q, s') := by
          cases e : item len tx p s with
          | none => rw [e] at c34; exact absurd rfl c34
          | some y => exact ⟨y.1, y.2, rfl⟩
        rw [f1] at hprs
        simp only at hprs
        obtain ⟨g4, g5⟩ := g2 q s' f1
        have adv := item_adv f1
        refine wp_goto (tgt := 14) dX8_readAll_39 rfl ?_
        exact ih (i + 1) (by omega) h31 q s' _ hprs (by omega) (g1.tr f) g4 (by omega) g5 (item_ok ps f1)
      · skip -- 34 not taken
        have f1 : item len tx p s = none := by
          cases e : item len tx p s with
          | none => rfl
          | some y => rw [e] at c34; exact absurd c34 bS
        rw [f1] at hprs
        cases hprs
        refine wp_iload_n_1 (pc' := 38) dX8_readAll_37 rfl ?_
        refine wp_ireturn dX8_readAll_38 rfl rfl (Nat.le_refl _) (Nat.le_refl _) ?_
        exact K h31 (g1.tr f) (fun z => by (simp (disch := omega) only [Int32.lt_iff_toInt_lt, Int32.le_iff_toInt_le, ← Int32.toInt_inj, nI_toInt, il_0, il_1, il_2, il_3, il_4, il_5, il_6, il_8, il_9, il_10, il_16, il_26, il_32, il_40, il_n4, il_n1, il_n2, il_11, il_48, il_57, il_59, il_44, il_126, il_200, il_9999, il_66666, il_10000, il_1000000, il_15, il_12, il_256, il_4096, il_53, il_52] at z; omega))
    · rw [if_neg hlt] at hprs
      cases hprs
      refine wp_aload_n_0 (pc' := 15) dX8_readAll_14 rfl ?_
      refine wp_get_8_10 (pc' := 18) (by omega) rfl me_X8_readAll_0 ic_X8_readAll_8 dX8_readAll_15 rfl ?_
      rw [e2]
      refine wp_aload_n_0 (pc' := 19) dX8_readAll_18 rfl ?_
      refine wp_get_8_0 (pc' := 22) (by omega) rfl me_X8_readAll_1 ic_X8_readAll_8 dX8_readAll_19 rfl ?_
      rw [T.1]
      refine wp_icmp_ge (pc' := 25) (tgt := 42) dX8_readAll_22 rfl rfl (fun c22 => ?_) (fun c22 => by exfalso; exact c22 (nI_le (by omega) (by omega)))
      refine wp_bipush (pc' := 44) (-4) dX8_readAll_42 rfl (by decide) ?_
      refine wp_ireturn dX8_readAll_44 rfl rfl (Nat.le_refl _) (Nat.le_refl _) ?_
      exact K h' f (fun _ => ⟨rs, ps⟩)
theorem c_X8_readAll {len : Nat} {tx : Nat → Nat} (hn : 105 ≤ n) (T : TM h len tx) : Ctr l D cy B yX8_readAll wsX8_readAll rmX8_readAll 0 0 n (rf0 π) h lg [.ref (B + 89)] (qI (fun x h' => x = (prs len tx 200 0 ps0).1 ∧ RF h' h ∧ (x = -4 → RSm h' (prs len tx 200 0 ps0).2 ∧ PSok (prs len tx 200 0 ps0).2)) (rf0 π) lg) := by
  refine Ctr.of (cc := cX8_readAll) (nL := 2) (own := RX8) (rt := (some .int)) (ls := [some (.ref (B + 89)), none]) (by decide) rfl rfl (Nat.le_of_ble_eq_true rfl) rfl ?_
  refine wp_aload_n_0 (pc' := 1) dX8_readAll_0 rfl ?_
  refine wp_callVv (pc' := 4) (c_X8_empty hn) gX8_readAll_X8_empty rfl rfl hy_X8_empty ⟨Nat.le_of_ble_eq_true rfl, Nat.le_of_ble_eq_true rfl⟩ ⟨rfl, rfl⟩ (Nat.le_of_ble_eq_true rfl) ⟨Nat.le_of_ble_eq_true rfl, Nat.le_of_ble_eq_true rfl⟩ (by omega) (ce8 rfl) rfl rfl dX8_readAll_1 rfl (fun h1 q1 => ?_)
  obtain ⟨g0, g1, g2, g3, g4, g5, g6⟩ := q1
  have f1 : RF h1 h := ⟨fun a ha => g0 a (by omega) (by omega) (by omega), fun i hi => by rw [g0 89 (by decide) (by decide) (by decide)], g1, g4⟩
  have f2 : RF (hup (hup h1 89 11 0) 89 10 0) h := RF.tr ⟨fun a ha => by rw [hup_cell (by omega), hup_cell (by omega)], fun i hi => by rw [hup_off (by omega), hup_off (by omega)], fun i hi => by rw [hup_cell (by decide), hup_cell (by decide)], fun m hm => by rw [hup_cell (by decide), hup_cell (by decide)]⟩ f1
  refine wp_aload_n_0 (pc' := 5) dX8_readAll_4 rfl ?_
  refine wp_iconst (pc' := 6) (0) dX8_readAll_5 rfl (by decide) ?_
  refine wp_put_8_11 (pc' := 9) (by omega) rfl me_X8_readAll_2 ic_X8_readAll_8 (by decide) dX8_readAll_6 rfl ?_
  refine wp_aload_n_0 (pc' := 10) dX8_readAll_9 rfl ?_
  refine wp_iconst (pc' := 11) (0) dX8_readAll_10 rfl (by decide) ?_
  refine wp_put_8_10 (pc' := 14) (by omega) rfl me_X8_readAll_0 ic_X8_readAll_8 dX8_readAll_11 rfl ?_
  refine lp_X8_readAll hn h T (prs len tx 200 0 ps0).1 (prs len tx 200 0 ps0).2 (fun h3 f3 f4 => qI_of ⟨rfl, f3, f4⟩) 200 0 (by omega) _ 0 ps0 _ rfl (by omega) f2 (hup_at _ _ _ _) (by omega) ⟨?_, ?_, ?_, fun m hm => ?_, fun k hk => ?_⟩ ps0_ok
  · rw [hup_cell (by decide), hup_cell (by decide), g2]; rfl
  · rw [hup_cell (by decide), hup_cell (by decide), g3]; rfl
  · rw [hup_off (by decide), hup_at]; rfl
  · rw [hup_cell (by decide), hup_cell (by decide)]; exact g5 m hm
  · rw [hup_cell (by decide), hup_cell (by decide), g6 k hk]; rfl
theorem c_X8_fault (hn : 105 ≤ n) (X : MI h σ) : Ctr l D cy B yX8_fault wsX8_fault rmX8_fault 0 0 n (rf0 π) h lg [.ref (B + 89)] (ZQ π h (aFault σ) σ) := by
  obtain ⟨T, q, hm, ok, nr, xp, xk⟩ := id X
  refine Ctr.of (cc := cX8_fault) (nL := 1) (own := RX8) (rt := (some .int)) (ls := [some (.ref (B + 89))]) (by decide) rfl rfl (Nat.le_of_ble_eq_true rfl) rfl ?_
  refine wp_aload_n_0 (pc' := 1) dX8_fault_0 rfl ?_
  refine wp_callVq (pc' := 4) (c_X8_readAll hn T) gX8_fault_X8_readAll rfl rfl hy_X8_readAll ⟨Nat.le_of_ble_eq_true rfl, Nat.le_of_ble_eq_true rfl⟩ ⟨rfl, rfl⟩ (Nat.le_of_ble_eq_true rfl) ⟨Nat.le_of_ble_eq_true rfl, Nat.le_of_ble_eq_true rfl⟩ (by omega) (ce8 rfl) rfl rfl dX8_fault_1 rfl (fun x1 h1 q1 => ?_)
  refine wp_ireturn dX8_fault_4 rfl rfl (Nat.le_refl _) (Nat.le_refl _) ?_
  exact ZQ.of q1.1 (X.rf q1.2.1) (fun k hk => q1.2.1.1 k (Or.inl hk))
end VMF

