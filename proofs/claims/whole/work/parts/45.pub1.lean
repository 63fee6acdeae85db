abbrev rmX7_back : Room := { frames := 3, cells := 0, slots := 0, locals := 82 }
theorem hy_X7_back : yX7_back.cls = RX7 ∧ yX7_back.cls ≠ "java/lang/invoke/MethodHandle" ∧ yX7_back.cls ≠ "java/lang/invoke/VarHandle" ∧ (parseMethodDescriptor yX7_back.desc).map (fun d => d.parameters.length) = some 0 := by decide +kernel
theorem hz_X7_back : yX7_back.cls ≠ "java/lang/invoke/MethodHandle" ∧ yX7_back.cls ≠ "java/lang/invoke/VarHandle" ∧ (parseMethodDescriptor yX7_back.desc).map (fun d => d.parameters.length) = some 0 := by decide +kernel
abbrev rmX7_count : Room := { frames := 1, cells := 0, slots := 0, locals := 20 }
theorem hy_X7_count : yX7_count.cls = RX7 ∧ yX7_count.cls ≠ "java/lang/invoke/MethodHandle" ∧ yX7_count.cls ≠ "java/lang/invoke/VarHandle" ∧ (parseMethodDescriptor yX7_count.desc).map (fun d => d.parameters.length) = some 1 := by decide +kernel
theorem hz_X7_count : yX7_count.cls ≠ "java/lang/invoke/MethodHandle" ∧ yX7_count.cls ≠ "java/lang/invoke/VarHandle" ∧ (parseMethodDescriptor yX7_count.desc).map (fun d => d.parameters.length) = some 1 := by decide +kernel
abbrev rmX7_fault : Room := { frames := 5, cells := 0, slots := 0, locals := 108 }
theorem hy_X7_fault : yX7_fault.cls = RX7 ∧ yX7_fault.cls ≠ "java/lang/invoke/MethodHandle" ∧ yX7_fault.cls ≠ "java/lang/invoke/VarHandle" ∧ (parseMethodDescriptor yX7_fault.desc).map (fun d => d.parameters.length) = some 0 := by decide +kernel
theorem hz_X7_fault : yX7_fault.cls ≠ "java/lang/invoke/MethodHandle" ∧ yX7_fault.cls ≠ "java/lang/invoke/VarHandle" ∧ (parseMethodDescriptor yX7_fault.desc).map (fun d => d.parameters.length) = some 0 := by decide +kernel
abbrev rmX7_keep : Room := { frames := 3, cells := 0, slots := 0, locals := 82 }
theorem hy_X7_keep : yX7_keep.cls = RX7 ∧ yX7_keep.cls ≠ "java/lang/invoke/MethodHandle" ∧ yX7_keep.cls ≠ "java/lang/invoke/VarHandle" ∧ (parseMethodDescriptor yX7_keep.desc).map (fun d => d.parameters.length) = some 0 := by decide +kernel
theorem hz_X7_keep : yX7_keep.cls ≠ "java/lang/invoke/MethodHandle" ∧ yX7_keep.cls ≠ "java/lang/invoke/VarHandle" ∧ (parseMethodDescriptor yX7_keep.desc).map (fun d => d.parameters.length) = some 0 := by decide +kernel
abbrev rmX7_lay : Room := { frames := 6, cells := 0, slots := 0, locals := 128 }
theorem hy_X7_lay : yX7_lay.cls = RX7 ∧ yX7_lay.cls ≠ "java/lang/invoke/MethodHandle" ∧ yX7_lay.cls ≠ "java/lang/invoke/VarHandle" ∧ (parseMethodDescriptor yX7_lay.desc).map (fun d => d.parameters.length) = some 0 := by decide +kernel
theorem hz_X7_lay : yX7_lay.cls ≠ "java/lang/invoke/MethodHandle" ∧ yX7_lay.cls ≠ "java/lang/invoke/VarHandle" ∧ (parseMethodDescriptor yX7_lay.desc).map (fun d => d.parameters.length) = some 0 := by decide +kernel
abbrev rmX7_undo : Room := { frames := 3, cells := 0, slots := 0, locals := 82 }
theorem hy_X7_undo : yX7_undo.cls = RX7 ∧ yX7_undo.cls ≠ "java/lang/invoke/MethodHandle" ∧ yX7_undo.cls ≠ "java/lang/invoke/VarHandle" ∧ (parseMethodDescriptor yX7_undo.desc).map (fun d => d.parameters.length) = some 0 := by decide +kernel
theorem hz_X7_undo : yX7_undo.cls ≠ "java/lang/invoke/MethodHandle" ∧ yX7_undo.cls ≠ "java/lang/invoke/VarHandle" ∧ (parseMethodDescriptor yX7_undo.desc).map (fun d => d.parameters.length) = some 0 := by decide +kernel
abbrev rmX7_wipe : Room := { frames := 1, cells := 0, slots := 0, locals := 20 }
theorem hy_X7_wipe : yX7_wipe.cls = RX7 ∧ yX7_wipe.cls ≠ "java/lang/invoke/MethodHandle" ∧ yX7_wipe.cls ≠ "java/lang/invoke/VarHandle" ∧ (parseMethodDescriptor yX7_wipe.desc).map (fun d => d.parameters.length) = some 0 := by decide +kernel
theorem hz_X7_wipe : yX7_wipe.cls ≠ "java/lang/invoke/MethodHandle" ∧ yX7_wipe.cls ≠ "java/lang/invoke/VarHandle" ∧ (parseMethodDescriptor yX7_wipe.desc).map (fun d => d.parameters.length) = some 0 := by decide +kernel
abbrev rmX7_write : Room := { frames := 1, cells := 0, slots := 0, locals := 21 }
theorem hy_X7_write : yX7_write.cls = RX7 ∧ yX7_write.cls ≠ "java/lang/invoke/MethodHandle" ∧ yX7_write.cls ≠ "java/lang/invoke/VarHandle" ∧ (parseMethodDescriptor yX7_write.desc).map (fun d => d.parameters.length) = some 1 := by decide +kernel
theorem hz_X7_write : yX7_write.cls ≠ "java/lang/invoke/MethodHandle" ∧ yX7_write.cls ≠ "java/lang/invoke/VarHandle" ∧ (parseMethodDescriptor yX7_write.desc).map (fun d => d.parameters.length) = some 1 := by decide +kernel
theorem me_X7_write_0 : Cond.fieldLink RX7 10 "DrawnByLost" "reader" "LDrawnByLost$Reader;" ∈ wsX7_write := by decide +kernel
theorem me_X7_write_1 : Cond.fieldLink RX7 87 "DrawnByLost$Reader" "length" "I" ∈ wsX7_write := by decide +kernel
theorem me_X7_wipe_0 : Cond.fieldLink RX7 10 "DrawnByLost" "reader" "LDrawnByLost$Reader;" ∈ wsX7_wipe := by decide +kernel
theorem me_X7_wipe_1 : Cond.fieldLink RX7 87 "DrawnByLost$Reader" "length" "I" ∈ wsX7_wipe := by decide +kernel
theorem me_X7_fault_0 : Cond.fieldLink RX7 10 "DrawnByLost" "reader" "LDrawnByLost$Reader;" ∈ wsX7_fault := by decide +kernel
theorem me_X7_lay_0 : Cond.fieldLink RX7 43 "DrawnByLost" "done" "LDrawnByLost$Pile;" ∈ wsX7_lay := by decide +kernel
theorem me_X7_lay_1 : Cond.fieldLink RX7 47 "DrawnByLost" "kept" "LDrawnByLost$Pile;" ∈ wsX7_lay := by decide +kernel
theorem me_X7_lay_2 : Cond.fieldLink RX7 27 "DrawnByLost" "land" "LDrawnByLost$Land;" ∈ wsX7_lay := by decide +kernel
theorem me_X7_keep_0 : Cond.fieldLink RX7 47 "DrawnByLost" "kept" "LDrawnByLost$Pile;" ∈ wsX7_keep := by decide +kernel
theorem me_X7_keep_1 : Cond.fieldLink RX7 164 "DrawnByLost$Pile" "size" "I" ∈ wsX7_keep := by decide +kernel
theorem me_X7_keep_2 : Cond.fieldLink RX7 31 "DrawnByLost" "now" "LDrawnByLost$Story;" ∈ wsX7_keep := by decide +kernel
theorem me_X7_back_0 : Cond.fieldLink RX7 47 "DrawnByLost" "kept" "LDrawnByLost$Pile;" ∈ wsX7_back := by decide +kernel
theorem me_X7_back_1 : Cond.fieldLink RX7 31 "DrawnByLost" "now" "LDrawnByLost$Story;" ∈ wsX7_back := by decide +kernel
theorem me_X7_back_2 : Cond.fieldLink RX7 43 "DrawnByLost" "done" "LDrawnByLost$Pile;" ∈ wsX7_back := by decide +kernel
theorem me_X7_back_3 : Cond.fieldLink RX7 164 "DrawnByLost$Pile" "size" "I" ∈ wsX7_back := by decide +kernel
theorem me_X7_undo_0 : Cond.fieldLink RX7 43 "DrawnByLost" "done" "LDrawnByLost$Pile;" ∈ wsX7_undo := by decide +kernel
theorem me_X7_undo_1 : Cond.fieldLink RX7 31 "DrawnByLost" "now" "LDrawnByLost$Story;" ∈ wsX7_undo := by decide +kernel
theorem me_X7_undo_2 : Cond.fieldLink RX7 164 "DrawnByLost$Pile" "size" "I" ∈ wsX7_undo := by decide +kernel
theorem me_X7_count_0 : Cond.fieldLink RX7 27 "DrawnByLost" "land" "LDrawnByLost$Land;" ∈ wsX7_count := by decide +kernel
theorem me_X7_count_1 : Cond.fieldLink RX7 247 "DrawnByLost$Land" "rows" "I" ∈ wsX7_count := by decide +kernel
theorem me_X7_count_2 : Cond.fieldLink RX7 31 "DrawnByLost" "now" "LDrawnByLost$Story;" ∈ wsX7_count := by decide +kernel
theorem me_X7_count_3 : Cond.fieldLink RX7 148 "DrawnByLost$Story" "walks" "I" ∈ wsX7_count := by decide +kernel
theorem me_X7_count_4 : Cond.fieldLink RX7 43 "DrawnByLost" "done" "LDrawnByLost$Pile;" ∈ wsX7_count := by decide +kernel
theorem me_X7_count_5 : Cond.fieldLink RX7 164 "DrawnByLost$Pile" "size" "I" ∈ wsX7_count := by decide +kernel
theorem me_X7_count_6 : Cond.fieldLink RX7 47 "DrawnByLost" "kept" "LDrawnByLost$Pile;" ∈ wsX7_count := by decide +kernel
theorem me_X7_count_7 : Cond.fieldLink RX7 10 "DrawnByLost" "reader" "LDrawnByLost$Reader;" ∈ wsX7_count := by decide +kernel
theorem me_X7_count_8 : Cond.fieldLink RX7 87 "DrawnByLost$Reader" "length" "I" ∈ wsX7_count := by decide +kernel
theorem ic_X7_write_7 : ∀ w ∈ wsX70, w ∈ wsX7_write := by decide +kernel
theorem ic_X7_write_3 : ∀ w ∈ wsX30, w ∈ wsX7_write := by decide +kernel
theorem ic_X7_wipe_7 : ∀ w ∈ wsX70, w ∈ wsX7_wipe := by decide +kernel
theorem ic_X7_wipe_3 : ∀ w ∈ wsX30, w ∈ wsX7_wipe := by decide +kernel
theorem ic_X7_fault_7 : ∀ w ∈ wsX70, w ∈ wsX7_fault := by decide +kernel
theorem ic_X7_lay_7 : ∀ w ∈ wsX70, w ∈ wsX7_lay := by decide +kernel
theorem ic_X7_keep_7 : ∀ w ∈ wsX70, w ∈ wsX7_keep := by decide +kernel
theorem ic_X7_keep_2 : ∀ w ∈ wsX20, w ∈ wsX7_keep := by decide +kernel
theorem ic_X7_back_7 : ∀ w ∈ wsX70, w ∈ wsX7_back := by decide +kernel
theorem ic_X7_back_2 : ∀ w ∈ wsX20, w ∈ wsX7_back := by decide +kernel
theorem ic_X7_undo_7 : ∀ w ∈ wsX70, w ∈ wsX7_undo := by decide +kernel
theorem ic_X7_undo_2 : ∀ w ∈ wsX20, w ∈ wsX7_undo := by decide +kernel
theorem ic_X7_count_7 : ∀ w ∈ wsX70, w ∈ wsX7_count := by decide +kernel
theorem ic_X7_count_1 : ∀ w ∈ wsX10, w ∈ wsX7_count := by decide +kernel
theorem ic_X7_count_5 : ∀ w ∈ wsX50, w ∈ wsX7_count := by decide +kernel
theorem ic_X7_count_2 : ∀ w ∈ wsX20, w ∈ wsX7_count := by decide +kernel
theorem ic_X7_count_3 : ∀ w ∈ wsX30, w ∈ wsX7_count := by decide +kernel
-- the class's calls: the text, the delta, what is asked of it, the kept
section VP1
variable {l : Launch} {D : va_G} {cy : CY} {B n : Nat} {h : Hp} {lg : Lg} {π : Nat → Nat} {σ : Sg}
def rg (x : Int32) (lo hi : Nat) : Option Nat := if (lo : Int) ≤ x.toInt ∧ x.toInt ≤ (hi : Int) then some x.toInt.toNat else none
theorem rg_some {x : Int32} {lo hi a : Nat} (h : rg x lo hi = some a) : x = nI a ∧ lo ≤ a ∧ a ≤ hi := by
  unfold rg at h
  split at h
  · rename_i q
    cases h
    refine ⟨?_, by omega, by omega⟩
    have z : ¬ x < 0 := by (simp (disch := omega) only [Int32.lt_iff_toInt_lt, Int32.le_iff_toInt_le, ← Int32.toInt_inj, nI_toInt, il_0, il_1, il_2, il_3, il_4, il_5, il_6, il_8, il_9, il_10, il_16, il_26, il_32, il_40, il_n4, il_n1, il_n2, il_11, il_48, il_57, il_59, il_44, il_126, il_200, il_9999, il_66666, il_10000, il_1000000, il_15, il_12, il_256, il_4096, il_53, il_52] at *; omega)
    obtain ⟨j, hj, rfl⟩ := nI_of z
    rw [nI_toInt (by omega)]
    simp
  · cases h
theorem rg_none {x : Int32} {lo hi : Nat} : rg x lo hi = none ↔ ¬ ((lo : Int) ≤ x.toInt ∧ x.toInt ≤ (hi : Int)) := by
  unfold rg
  split
  · rename_i q; constructor
    · intro z; cases z
    · intro z; exact absurd q z
  · rename_i q; exact ⟨fun _ => q, fun _ => rfl⟩
theorem c_choice (m : Int32) : Ctr l D cy B yX7_isChoice wsX7_isChoice rmX7_isChoice 0 0 n (rf0 π) h lg [.int m] (uI (b2i (ix m 2).isSome) (rf0 π) h lg) := by
  have z := c_X7_isChoice (l := l) (D := D) (cy := cy) (B := B) (n := n) (h := h) (lg := lg) (π := π) m
  rw [show (ix m 2).isSome = decide (m = 0 ∨ m = 1) by
    rw [ix_dec (by omega), Bool.eq_iff_iff, decide_eq_true_eq, decide_eq_true_eq]
    constructor
    · rintro ⟨z1, z2⟩
      by_cases e : m = 0
      · exact Or.inl e
      · right; (simp (disch := omega) only [Int32.lt_iff_toInt_lt, Int32.le_iff_toInt_le, ← Int32.toInt_inj, nI_toInt, il_0, il_1, il_2, il_3, il_4, il_5, il_6, il_8, il_9, il_10, il_16, il_26, il_32, il_40, il_n4, il_n1, il_n2, il_11, il_48, il_57, il_59, il_44, il_126, il_200, il_9999, il_66666, il_10000, il_1000000, il_15, il_12, il_256, il_4096, il_53, il_52] at *; omega)
    · rintro (rfl | rfl) <;> decide]
  exact z
theorem c_mark (m : Int32) : Ctr l D cy B yX7_isMark wsX7_isMark rmX7_isMark 0 0 n (rf0 π) h lg [.int m] (uI (b2i (ix m 6).isSome) (rf0 π) h lg) := by
  have z := c_X7_isMark (l := l) (D := D) (cy := cy) (B := B) (n := n) (h := h) (lg := lg) (π := π) m
  rw [ix_dec (by omega)]
  exact z
theorem c_kind (m : Int32) : Ctr l D cy B yX7_isKind wsX7_isKind rmX7_isKind 0 0 n (rf0 π) h lg [.int m] (uI (b2i (ix m 4).isSome) (rf0 π) h lg) := by
  have z := c_X7_isKind (l := l) (D := D) (cy := cy) (B := B) (n := n) (h := h) (lg := lg) (π := π) m
  rw [ix_dec (by omega), show decide (0 ≤ m ∧ m < nI 4) = decide (0 ≤ m ∧ m ≤ 3) by
    rw [Bool.eq_iff_iff, decide_eq_true_eq, decide_eq_true_eq]
    constructor
    · rintro ⟨z1, z2⟩; exact ⟨z1, by (simp (disch := omega) only [Int32.lt_iff_toInt_lt, Int32.le_iff_toInt_le, ← Int32.toInt_inj, nI_toInt, il_0, il_1, il_2, il_3, il_4, il_5, il_6, il_8, il_9, il_10, il_16, il_26, il_32, il_40, il_n4, il_n1, il_n2, il_11, il_48, il_57, il_59, il_44, il_126, il_200, il_9999, il_66666, il_10000, il_1000000, il_15, il_12, il_256, il_4096, il_53, il_52] at *; omega)⟩
    · rintro ⟨z1, z2⟩; exact ⟨z1, by (simp (disch := omega) only [Int32.lt_iff_toInt_lt, Int32.le_iff_toInt_le, ← Int32.toInt_inj, nI_toInt, il_0, il_1, il_2, il_3, il_4, il_5, il_6, il_8, il_9, il_10, il_16, il_26, il_32, il_40, il_n4, il_n1, il_n2, il_11, il_48, il_57, il_59, il_44, il_126, il_200, il_9999, il_66666, il_10000, il_1000000, il_15, il_12, il_256, il_4096, il_53, il_52] at *; omega)⟩]
  exact z
def aWrite (σ : Sg) (c : Int32) : Int32 := match rg c 32 126 with
  | none => -1
  | some _ => if σ.len < 200 then nI (σ.len + 1) else -3
def sWrite (σ : Sg) (c : Int32) : Sg := match rg c 32 126 with
  | none => σ
  | some a => if σ.len < 200 then ((σ.len + 1, upN σ.tx σ.len a), σ.2) else σ
theorem c_X7_write (hn : 89 ≤ n) (X : XI h π σ) (c : Int32) : Ctr l D cy B yX7_write wsX7_write rmX7_write 0 0 n (rf0 π) h lg [.ref (B + 0), .int c] (XQ h lg (aWrite σ c) (sWrite σ c)) := by
  obtain ⟨T, q, u, ok, xr, xp, xk⟩ := id X
  cases e : rg c 32 126 with
  | none =>
    have z := rg_none.mp e
    rw [show aWrite σ c = -1 by simp only [aWrite, e], show sWrite σ c = σ by simp only [sWrite, e]]
    refine Ctr.of (cc := cX7_write) (nL := 2) (own := RX7) (rt := (some .int)) (ls := [some (.ref (B + 0)), some (.int c)]) (by decide) rfl rfl (Nat.le_of_ble_eq_true rfl) rfl ?_
    refine wp_iload_n_1 (pc' := 1) dX7_write_0 rfl ?_
    refine wp_bipush (pc' := 3) (32) dX7_write_1 rfl (by decide) ?_
    refine wp_icmp_lt (pc' := 6) (tgt := 12) dX7_write_3 rfl rfl (fun c3 => ?_) (fun c3 => ?_)
    · skip -- 3 taken
      refine wp_iconst (pc' := 13) (-1) dX7_write_12 rfl (by decide) ?_
      refine wp_ireturn dX7_write_13 rfl rfl (Nat.le_refl _) (Nat.le_refl _) ?_
      exact XQ.id rfl X
    · skip -- 3 not taken
      refine wp_iload_n_1 (pc' := 7) dX7_write_6 rfl ?_
      refine wp_bipush (pc' := 9) (126) dX7_write_7 rfl (by decide) ?_
      refine wp_icmp_le (pc' := 12) (tgt := 14) dX7_write_9 rfl rfl (fun c9 => by exfalso; (simp (disch := omega) only [Int32.lt_iff_toInt_lt, Int32.le_iff_toInt_le, ← Int32.toInt_inj, nI_toInt, il_0, il_1, il_2, il_3, il_4, il_5, il_6, il_8, il_9, il_10, il_16, il_26, il_32, il_40, il_n4, il_n1, il_n2, il_11, il_48, il_57, il_59, il_44, il_126, il_200, il_9999, il_66666, il_10000, il_1000000, il_15, il_12, il_256, il_4096, il_53, il_52] at *; omega)) (fun c9 => ?_)
      refine wp_iconst (pc' := 13) (-1) dX7_write_12 rfl (by decide) ?_
      refine wp_ireturn dX7_write_13 rfl rfl (Nat.le_refl _) (Nat.le_refl _) ?_
      exact XQ.id rfl X
  | some a =>
    obtain ⟨rfl, z1, z2⟩ := rg_some e
    have T2 := T.2.1
    by_cases z : σ.len < 200
    · rw [show aWrite σ (nI a) = nI (σ.len + 1) by simp only [aWrite, e, z, if_true], show sWrite σ (nI a) = ((σ.len + 1, upN σ.tx σ.len a), σ.2) by simp only [sWrite, e, z, if_true]]
      refine Ctr.of (cc := cX7_write) (nL := 2) (own := RX7) (rt := (some .int)) (ls := [some (.ref (B + 0)), some (.int (nI a))]) (by decide) rfl rfl (Nat.le_of_ble_eq_true rfl) rfl ?_
      refine wp_iload_n_1 (pc' := 1) dX7_write_0 rfl ?_
      refine wp_bipush (pc' := 3) (32) dX7_write_1 rfl (by decide) ?_
      refine wp_icmp_lt (pc' := 6) (tgt := 12) dX7_write_3 rfl rfl (fun c3 => by exfalso; (simp (disch := omega) only [Int32.lt_iff_toInt_lt, Int32.le_iff_toInt_le, ← Int32.toInt_inj, nI_toInt, il_0, il_1, il_2, il_3, il_4, il_5, il_6, il_8, il_9, il_10, il_16, il_26, il_32, il_40, il_n4, il_n1, il_n2, il_11, il_48, il_57, il_59, il_44, il_126, il_200, il_9999, il_66666, il_10000, il_1000000, il_15, il_12, il_256, il_4096, il_53, il_52] at c3; omega)) (fun c3 => ?_)
      refine wp_iload_n_1 (pc' := 7) dX7_write_6 rfl ?_
      refine wp_bipush (pc' := 9) (126) dX7_write_7 rfl (by decide) ?_
      refine wp_icmp_le (pc' := 12) (tgt := 14) dX7_write_9 rfl rfl (fun c9 => ?_) (fun c9 => by exfalso; (simp (disch := omega) only [Int32.lt_iff_toInt_lt, Int32.le_iff_toInt_le, ← Int32.toInt_inj, nI_toInt, il_0, il_1, il_2, il_3, il_4, il_5, il_6, il_8, il_9, il_10, il_16, il_26, il_32, il_40, il_n4, il_n1, il_n2, il_11, il_48, il_57, il_59, il_44, il_126, il_200, il_9999, il_66666, il_10000, il_1000000, il_15, il_12, il_256, il_4096, il_53, il_52] at c9; omega))
      refine wp_aload_n_0 (pc' := 15) dX7_write_14 rfl ?_
      refine wp_get_7_0 (pc' := 18) (by omega) rfl rfl me_X7_write_0 ic_X7_write_7 dX7_write_15 rfl ?_
      refine wp_iload_n_1 (pc' := 19) dX7_write_18 rfl ?_
      refine wp_i2c (pc' := 20) dX7_write_19 rfl ?_
      rw [i2c_nI (by omega)]
      refine wp_callVq (pc' := 23) (c_X3_put hn T (by omega)) gX7_write_X3_put rfl rfl hy_X3_put ⟨Nat.le_of_ble_eq_true rfl, Nat.le_of_ble_eq_true rfl⟩ ⟨rfl, rfl⟩ (Nat.le_of_ble_eq_true rfl) ⟨Nat.le_of_ble_eq_true rfl, Nat.le_of_ble_eq_true rfl⟩ (by omega) (ce3 rfl) rfl rfl dX7_write_20 rfl (fun x20 h20 q20 => ?_)
      rw [if_pos z] at q20
      obtain ⟨g0, g1⟩ := q20
      subst g0
      subst g1
      refine wp_if_eq (pc' := 26) (tgt := 36) dX7_write_23 rfl rfl (fun c23 => by exfalso; exact absurd c23 (by first | exact bS | decide)) (fun c23 => ?_)
      refine wp_aload_n_0 (pc' := 27) dX7_write_26 rfl ?_
      refine wp_get_7_0 (pc' := 30) (by omega) rfl rfl me_X7_write_0 ic_X7_write_7 dX7_write_27 rfl ?_
      refine wp_get_3_1 (pc' := 33) (by omega) rfl me_X7_write_1 ic_X7_write_3 dX7_write_30 rfl ?_
      rw [hup_at]
      refine wp_goto (tgt := 38) dX7_write_33 rfl ?_
      refine wp_ireturn dX7_write_38 rfl rfl (Nat.le_refl _) (Nat.le_refl _) ?_
      refine XQ.of rfl (X.tx ⟨hup_at _ _ _ _, by omega, fun i hi => ?_⟩ (fun a h1 h2 => by rw [hup_cell h1, hup_cell h2])) (fun k hk => by rw [hup_cell (by omega), hup_cell (by omega)])
      rw [hup_cell (by decide)]
      by_cases ei : i = σ.len
      · subst ei; rw [hup_at, upN_at]; exact ⟨rfl, z1, z2⟩
      · rw [hup_off ei, upN_off ei]; exact T.2.2 i (by omega)
    · rw [show aWrite σ (nI a) = -3 by simp only [aWrite, e, z, if_false], show sWrite σ (nI a) = σ by simp only [sWrite, e, z, if_false]]
      refine Ctr.of (cc := cX7_write) (nL := 2) (own := RX7) (rt := (some .int)) (ls := [some (.ref (B + 0)), some (.int (nI a))]) (by decide) rfl rfl (Nat.le_of_ble_eq_true rfl) rfl ?_
      refine wp_iload_n_1 (pc' := 1) dX7_write_0 rfl ?_
      refine wp_bipush (pc' := 3) (32) dX7_write_1 rfl (by decide) ?_
      refine wp_icmp_lt (pc' := 6) (tgt := 12) dX7_write_3 rfl rfl (fun c3 => by exfalso; (simp (disch := omega) only [Int32.lt_iff_toInt_lt, Int32.le_iff_toInt_le, ← Int32.toInt_inj, nI_toInt, il_0, il_1, il_2, il_3, il_4, il_5, il_6, il_8, il_9, il_10, il_16, il_26, il_32, il_40, il_n4, il_n1, il_n2, il_11, il_48, il_57, il_59, il_44, il_126, il_200, il_9999, il_66666, il_10000, il_1000000, il_15, il_12, il_256, il_4096, il_53, il_52] at c3; omega)) (fun c3 => ?_)
      refine wp_iload_n_1 (pc' := 7) dX7_write_6 rfl ?_
      refine wp_bipush (pc' := 9) (126) dX7_write_7 rfl (by decide) ?_
      refine wp_icmp_le (pc' := 12) (tgt := 14) dX7_write_9 rfl rfl (fun c9 => ?_) (fun c9 => by exfalso; (simp (disch := omega) only [Int32.lt_iff_toInt_lt, Int32.le_iff_toInt_le, ← Int32.toInt_inj, nI_toInt, il_0, il_1, il_2, il_3, il_4, il_5, il_6, il_8, il_9, il_10, il_16, il_26, il_32, il_40, il_n4, il_n1, il_n2, il_11, il_48, il_57, il_59, il_44, il_126, il_200, il_9999, il_66666, il_10000, il_1000000, il_15, il_12, il_256, il_4096, il_53, il_52] at c9; omega))
      refine wp_aload_n_0 (pc' := 15) dX7_write_14 rfl ?_
      refine wp_get_7_0 (pc' := 18) (by omega) rfl rfl me_X7_write_0 ic_X7_write_7 dX7_write_15 rfl ?_
      refine wp_iload_n_1 (pc' := 19) dX7_write_18 rfl ?_
      refine wp_i2c (pc' := 20) dX7_write_19 rfl ?_
      rw [i2c_nI (by omega)]
      refine wp_callVq (pc' := 23) (c_X3_put hn T (by omega)) gX7_write_X3_put rfl rfl hy_X3_put ⟨Nat.le_of_ble_eq_true rfl, Nat.le_of_ble_eq_true rfl⟩ ⟨rfl, rfl⟩ (Nat.le_of_ble_eq_true rfl) ⟨Nat.le_of_ble_eq_true rfl, Nat.le_of_ble_eq_true rfl⟩ (by omega) (ce3 rfl) rfl rfl dX7_write_20 rfl (fun x20 h20 q20 => ?_)
      rw [if_neg z] at q20
      obtain ⟨g0, g1⟩ := q20
      subst g0
      subst g1
      refine wp_if_eq (pc' := 26) (tgt := 36) dX7_write_23 rfl rfl (fun c23 => ?_) (fun c23 => by exfalso; exact c23 rfl)
      refine wp_bipush (pc' := 38) (-3) dX7_write_36 rfl (by decide) ?_
      refine wp_ireturn dX7_write_38 rfl rfl (Nat.le_refl _) (Nat.le_refl _) ?_
      exact XQ.id rfl X
def sWipe (σ : Sg) : Sg := ((0, σ.tx), σ.2)
theorem c_X7_wipe (hn : 89 ≤ n) (X : XI h π σ) : Ctr l D cy B yX7_wipe wsX7_wipe rmX7_wipe 0 0 n (rf0 π) h lg [.ref (B + 0)] (XQ h lg (nI σ.len) (sWipe σ)) := by
  obtain ⟨T, q, u, ok, xr, xp, xk⟩ := id X
  refine Ctr.of (cc := cX7_wipe) (nL := 2) (own := RX7) (rt := (some .int)) (ls := [some (.ref (B + 0)), none]) (by decide) rfl rfl (Nat.le_of_ble_eq_true rfl) rfl ?_
  refine wp_aload_n_0 (pc' := 1) dX7_wipe_0 rfl ?_
  refine wp_get_7_0 (pc' := 4) (by omega) rfl rfl me_X7_wipe_0 ic_X7_wipe_7 dX7_wipe_1 rfl ?_
  refine wp_get_3_1 (pc' := 7) (by omega) rfl me_X7_wipe_1 ic_X7_wipe_3 dX7_wipe_4 rfl ?_
  rw [T.1]
  refine wp_istore_n_1 (pc' := 8) dX7_wipe_7 (by decide) rfl rfl ?_
  refine wp_aload_n_0 (pc' := 9) dX7_wipe_8 rfl ?_
  refine wp_get_7_0 (pc' := 12) (by omega) rfl rfl me_X7_wipe_0 ic_X7_wipe_7 dX7_wipe_9 rfl ?_
  refine wp_callVv (pc' := 15) (c_X3_clear hn) gX7_wipe_X3_clear rfl rfl hy_X3_clear ⟨Nat.le_of_ble_eq_true rfl, Nat.le_of_ble_eq_true rfl⟩ ⟨rfl, rfl⟩ (Nat.le_of_ble_eq_true rfl) ⟨Nat.le_of_ble_eq_true rfl, Nat.le_of_ble_eq_true rfl⟩ (by omega) (ce3 rfl) rfl rfl dX7_wipe_12 rfl (fun h12 q12 => ?_)
  subst q12
  refine wp_iload_n_1 (pc' := 16) dX7_wipe_15 rfl ?_
  refine wp_ireturn dX7_wipe_16 rfl rfl (Nat.le_refl _) (Nat.le_refl _) ?_
  exact XQ.of rfl (X.tx ⟨by rw [hup_at]; rfl, by omega, fun i hi => absurd hi (Nat.not_lt_zero i)⟩ (fun a h1 h2 => hup_cell h1)) (fun k hk => hup_cell (by omega))
def aFault (σ : Sg) : Int32 := (prs σ.len σ.tx 200 0 ps0).1
theorem c_X7_fault (hn : 89 ≤ n) (X : XI h π σ) : Ctr l D cy B yX7_fault wsX7_fault rmX7_fault 0 0 n (rf0 π) h lg [.ref (B + 0)] (XQ h lg (aFault σ) σ) := by
  obtain ⟨T, q, u, ok, xr, xp, xk⟩ := id X
  refine Ctr.of (cc := cX7_fault) (nL := 1) (own := RX7) (rt := (some .int)) (ls := [some (.ref (B + 0))]) (by decide) rfl rfl (Nat.le_of_ble_eq_true rfl) rfl ?_
  refine wp_aload_n_0 (pc' := 1) dX7_fault_0 rfl ?_
  refine wp_get_7_0 (pc' := 4) (by omega) rfl rfl me_X7_fault_0 ic_X7_fault_7 dX7_fault_1 rfl ?_
  refine wp_callVq (pc' := 7) (c_X3_read hn T) gX7_fault_X3_read rfl rfl hy_X3_read ⟨Nat.le_of_ble_eq_true rfl, Nat.le_of_ble_eq_true rfl⟩ ⟨rfl, rfl⟩ (Nat.le_of_ble_eq_true rfl) ⟨Nat.le_of_ble_eq_true rfl, Nat.le_of_ble_eq_true rfl⟩ (by omega) (ce3 rfl) rfl rfl dX7_fault_4 rfl (fun x4 h4 q4 => ?_)
  obtain ⟨g0, g1, g2, g3⟩ := q4
  refine wp_ireturn dX7_fault_7 rfl rfl (Nat.le_refl _) (Nat.le_refl _) ?_
  exact XQ.sc g0 X g2 (fun k hk => g1 k (by unfold Kp at hk; omega))
def aLay (σ : Sg) : Int32 := match layO σ.len σ.tx with
  | none => -2
  | some s => nI (s.1 * s.2.1)
def sLay (σ : Sg) : Sg := match layO σ.len σ.tx with
  | none => σ
  | some s => (σ.1, (s.1, s.2.1), (s.2.2.2.1, s.2.2.2.2), (0, σ.bf), (0, σ.kp))
theorem c_X7_lay (hn : 89 ≤ n) (X : XI h π σ) : Ctr l D cy B yX7_lay wsX7_lay rmX7_lay 0 0 n (rf0 π) h lg [.ref (B + 0)] (XQ h lg (aLay σ) (sLay σ)) := by
  obtain ⟨T, q, u, ok, xr, xp, xk⟩ := id X
  cases e : layO σ.len σ.tx with
  | none =>
    rw [show aLay σ = -2 by simp only [aLay, e], show sLay σ = σ by simp only [sLay, e]]
    refine Ctr.of (cc := cX7_lay) (nL := 1) (own := RX7) (rt := (some .int)) (ls := [some (.ref (B + 0))]) (by decide) rfl rfl (Nat.le_of_ble_eq_true rfl) rfl ?_
    refine wp_aload_n_0 (pc' := 1) dX7_lay_0 rfl ?_
    refine wp_callVq (pc' := 4) (c_X7_takeOver hn T) gX7_lay_X7_takeOver rfl rfl hy_X7_takeOver ⟨Nat.le_of_ble_eq_true rfl, Nat.le_of_ble_eq_true rfl⟩ ⟨rfl, rfl⟩ (Nat.le_of_ble_eq_true rfl) ⟨Nat.le_of_ble_eq_true rfl, Nat.le_of_ble_eq_true rfl⟩ (by omega) (ce7 rfl) rfl rfl dX7_lay_1 rfl (fun x1 h1 q1 => ?_)
    obtain ⟨g0, g1, g2⟩ := q1
    rw [e] at g2
    obtain ⟨g3, g4⟩ := g2
    subst g3
    refine wp_if_ne (pc' := 7) (tgt := 10) dX7_lay_4 rfl rfl (fun c4 => by exfalso; exact c4 rfl) (fun c4 => ?_)
    refine wp_bipush (pc' := 9) (-2) dX7_lay_7 rfl (by decide) ?_
    refine wp_ireturn dX7_lay_9 rfl rfl (Nat.le_refl _) (Nat.le_refl _) ?_
    exact XQ.sc rfl X g0 (fun k hk => by unfold Kp at hk; rcases hk with (rfl | hk) | hk; exact g1 2 (by omega); exact g4 k (by omega); exact g4 k (by omega))
  | some s =>
    rw [show aLay σ = nI (s.1 * s.2.1) by simp only [aLay, e], show sLay σ = (σ.1, (s.1, s.2.1), (s.2.2.2.1, s.2.2.2.2), (0, σ.bf), (0, σ.kp)) by simp only [sLay, e]]
    refine Ctr.of (cc := cX7_lay) (nL := 1) (own := RX7) (rt := (some .int)) (ls := [some (.ref (B + 0))]) (by decide) rfl rfl (Nat.le_of_ble_eq_true rfl) rfl ?_
    refine wp_aload_n_0 (pc' := 1) dX7_lay_0 rfl ?_
    refine wp_callVq (pc' := 4) (c_X7_takeOver hn T) gX7_lay_X7_takeOver rfl rfl hy_X7_takeOver ⟨Nat.le_of_ble_eq_true rfl, Nat.le_of_ble_eq_true rfl⟩ ⟨rfl, rfl⟩ (Nat.le_of_ble_eq_true rfl) ⟨Nat.le_of_ble_eq_true rfl, Nat.le_of_ble_eq_true rfl⟩ (by omega) (ce7 rfl) rfl rfl dX7_lay_1 rfl (fun x1 h1 q1 => ?_)
    obtain ⟨g0, g1, g2⟩ := q1
    rw [e] at g2
    obtain ⟨g3, ps, g4, g5, g6⟩ := g2
    subst g3
    refine wp_if_ne (pc' := 7) (tgt := 10) dX7_lay_4 rfl rfl (fun c4 => ?_) (fun c4 => by exfalso; exact absurd c4 (by first | exact bS | decide))
    refine wp_aload_n_0 (pc' := 11) dX7_lay_10 rfl ?_
    refine wp_get_7_5 (pc' := 14) (by omega) rfl rfl me_X7_lay_0 ic_X7_lay_7 dX7_lay_11 rfl ?_
    refine wp_callVv (pc' := 17) (c_X2_clear28 hn) gX7_lay_X2_clear rfl rfl hy_X2_clear ⟨Nat.le_of_ble_eq_true rfl, Nat.le_of_ble_eq_true rfl⟩ ⟨rfl, rfl⟩ (Nat.le_of_ble_eq_true rfl) ⟨Nat.le_of_ble_eq_true rfl, Nat.le_of_ble_eq_true rfl⟩ (by omega) (ce2 rfl) rfl rfl dX7_lay_14 rfl (fun h14 q14 => ?_)
    subst q14
    refine wp_aload_n_0 (pc' := 18) dX7_lay_17 rfl ?_
    refine wp_get_7_6 (pc' := 21) (by omega) rfl rfl me_X7_lay_1 ic_X7_lay_7 dX7_lay_18 rfl ?_
    refine wp_callVv (pc' := 24) (c_X2_clear70 hn) gX7_lay_X2_clear rfl rfl hy_X2_clear ⟨Nat.le_of_ble_eq_true rfl, Nat.le_of_ble_eq_true rfl⟩ ⟨rfl, rfl⟩ (Nat.le_of_ble_eq_true rfl) ⟨Nat.le_of_ble_eq_true rfl, Nat.le_of_ble_eq_true rfl⟩ (by omega) (ce2 rfl) rfl rfl dX7_lay_21 rfl (fun h21 q21 => ?_)
    subst q21
    have qq := (g4.of_eq (h' := hup (hup h1 28 1 0) 70 1 0) (by rw [hup_cell (by decide), hup_cell (by decide)])).places
    refine wp_aload_n_0 (pc' := 25) dX7_lay_24 rfl ?_
    refine wp_get_7_2 (pc' := 28) (by omega) rfl rfl me_X7_lay_2 ic_X7_lay_7 dX7_lay_25 rfl ?_
    refine wp_callVu (pc' := 31) (c_X1_places hn la11) gX7_lay_X1_places rfl rfl hy_X1_places ⟨Nat.le_of_ble_eq_true rfl, Nat.le_of_ble_eq_true rfl⟩ ⟨rfl, rfl⟩ (Nat.le_of_ble_eq_true rfl) ⟨Nat.le_of_ble_eq_true rfl, Nat.le_of_ble_eq_true rfl⟩ (by omega) (ce1 rfl) rfl rfl dX7_lay_28 rfl ?_
    rw [qq]
    refine wp_ireturn dX7_lay_31 rfl rfl (Nat.le_refl _) (Nat.le_refl _) ?_
    refine XQ.of rfl (π := π) ⟨T.of_eq (by rw [hup_cell (by decide), hup_cell (by decide)]; exact g0) (by rw [hup_cell (by decide), hup_cell (by decide)]; exact g1 2 (by omega)), g4.of_eq (by rw [hup_cell (by decide), hup_cell (by decide)]), g5.of_eq (by rw [hup_cell (by decide), hup_cell (by decide)]), ps.2.1, g6.congr (fun a h1 h2 => by rw [hup_cell (by omega), hup_cell (by omega)]), ⟨by rw [hup_cell (by decide), hup_at]; rfl, by show 0 ≤ 8; omega, xp.2.2.1, xp.2.2.2.1, fun i hi => absurd hi (Nat.not_lt_zero i)⟩, ⟨by rw [hup_at]; rfl, by show 0 ≤ 2; omega, fun i hi => absurd hi (Nat.not_lt_zero i)⟩⟩ (fun k hk => by rw [hup_cell (by omega), hup_cell (by omega)]; exact g1 k (by omega))
def aKeep (σ : Sg) : Int32 := if σ.nk < 2 then nI (σ.nk + 1) else -3
def sKeep (σ : Sg) : Sg := if σ.nk < 2 then σ.keep else σ
theorem c_X7_keep (hn : 89 ≤ n) (X : XI h π σ) : Ctr l D cy B yX7_keep wsX7_keep rmX7_keep 0 0 n (rf0 π) h lg [.ref (B + 0)] (XQ h lg (aKeep σ) (sKeep σ)) := by
  obtain ⟨T, q, u, ok, xr, xp, xk⟩ := id X
  have k2 := xk.2.1
  by_cases z : σ.nk < 2
  · rw [show aKeep σ = nI (σ.nk + 1) from if_pos z, show sKeep σ = σ.keep from if_pos z]
    refine Ctr.of (cc := cX7_keep) (nL := 1) (own := RX7) (rt := (some .int)) (ls := [some (.ref (B + 0))]) (by decide) rfl rfl (Nat.le_of_ble_eq_true rfl) rfl ?_
    refine wp_aload_n_0 (pc' := 1) dX7_keep_0 rfl ?_
    refine wp_get_7_6 (pc' := 4) (by omega) rfl rfl me_X7_keep_0 ic_X7_keep_7 dX7_keep_1 rfl ?_
    refine wp_get_2_1 (pc' := 7) (by omega) rfl me_X7_keep_1 ic_X7_keep_2 dX7_keep_4 rfl ?_
    rw [xk.1]
    refine wp_iconst (pc' := 8) (2) dX7_keep_7 rfl (by decide) ?_
    refine wp_icmp_lt (pc' := 11) (tgt := 14) dX7_keep_8 rfl rfl (fun c8 => ?_) (fun c8 => by exfalso; (simp (disch := omega) only [Int32.lt_iff_toInt_lt, Int32.le_iff_toInt_le, ← Int32.toInt_inj, nI_toInt, il_0, il_1, il_2, il_3, il_4, il_5, il_6, il_8, il_9, il_10, il_16, il_26, il_32, il_40, il_n4, il_n1, il_n2, il_11, il_48, il_57, il_59, il_44, il_126, il_200, il_9999, il_66666, il_10000, il_1000000, il_15, il_12, il_256, il_4096, il_53, il_52] at c8; omega))
    refine wp_aload_n_0 (pc' := 15) dX7_keep_14 rfl ?_
    refine wp_get_7_6 (pc' := 18) (by omega) rfl rfl me_X7_keep_0 ic_X7_keep_7 dX7_keep_15 rfl ?_
    refine wp_aload_n_0 (pc' := 19) dX7_keep_18 rfl ?_
    refine wp_get_7_3 (pc' := 22) (by omega) rfl rfl me_X7_keep_2 ic_X7_keep_7 dX7_keep_19 rfl ?_
    refine wp_callV (pc' := 25) (c_X2_push70 hn st18 z xk.1 (fun i hi => by omega)) gX7_keep_X2_push rfl rfl hy_X2_push ⟨Nat.le_of_ble_eq_true rfl, Nat.le_of_ble_eq_true rfl⟩ ⟨rfl, rfl⟩ (Nat.le_of_ble_eq_true rfl) ⟨Nat.le_of_ble_eq_true rfl, Nat.le_of_ble_eq_true rfl⟩ (by omega) (ce2 rfl) rfl rfl dX7_keep_22 rfl (fun v22 r22 h22 l22 q22 => ?_)
    obtain ⟨rfl, rfl, rfl, h2, cp, rfl⟩ := q22
    obtain ⟨X1, f1⟩ := X.kept z cp
    refine wp_aload_n_0 (pc' := 26) dX7_keep_25 rfl ?_
    refine wp_get_7_6 (pc' := 29) (by omega) rfl rfl me_X7_keep_0 ic_X7_keep_7 dX7_keep_26 rfl ?_
    refine wp_get_2_1 (pc' := 32) (by omega) rfl me_X7_keep_1 ic_X7_keep_2 dX7_keep_29 rfl ?_
    rw [hup_at]
    refine wp_ireturn dX7_keep_32 rfl rfl (Nat.le_refl _) (Nat.le_refl _) ?_
    exact XQ.of rfl X1 f1
  · rw [show aKeep σ = -3 from if_neg z, show sKeep σ = σ from if_neg z]
    refine Ctr.of (cc := cX7_keep) (nL := 1) (own := RX7) (rt := (some .int)) (ls := [some (.ref (B + 0))]) (by decide) rfl rfl (Nat.le_of_ble_eq_true rfl) rfl ?_
    refine wp_aload_n_0 (pc' := 1) dX7_keep_0 rfl ?_
    refine wp_get_7_6 (pc' := 4) (by omega) rfl rfl me_X7_keep_0 ic_X7_keep_7 dX7_keep_1 rfl ?_
    refine wp_get_2_1 (pc' := 7) (by omega) rfl me_X7_keep_1 ic_X7_keep_2 dX7_keep_4 rfl ?_
    rw [xk.1]
    refine wp_iconst (pc' := 8) (2) dX7_keep_7 rfl (by decide) ?_
    refine wp_icmp_lt (pc' := 11) (tgt := 14) dX7_keep_8 rfl rfl (fun c8 => by exfalso; (simp (disch := omega) only [Int32.lt_iff_toInt_lt, Int32.le_iff_toInt_le, ← Int32.toInt_inj, nI_toInt, il_0, il_1, il_2, il_3, il_4, il_5, il_6, il_8, il_9, il_10, il_16, il_26, il_32, il_40, il_n4, il_n1, il_n2, il_11, il_48, il_57, il_59, il_44, il_126, il_200, il_9999, il_66666, il_10000, il_1000000, il_15, il_12, il_256, il_4096, il_53, il_52] at c8; omega)) (fun c8 => ?_)
    refine wp_bipush (pc' := 13) (-3) dX7_keep_11 rfl (by decide) ?_
    refine wp_ireturn dX7_keep_13 rfl rfl (Nat.le_refl _) (Nat.le_refl _) ?_
    exact XQ.id rfl X
def aBack (σ : Sg) : Int32 := if σ.nk = 0 then -2 else nI (σ.nk - 1)
def sBack (σ : Sg) : Sg := if σ.nk = 0 then σ else σ.back
theorem c_X7_back (hn : 89 ≤ n) (X : XI h π σ) : Ctr l D cy B yX7_back wsX7_back rmX7_back 0 0 n (rf0 π) h lg [.ref (B + 0)] (XQ h lg (aBack σ) (sBack σ)) := by
  obtain ⟨T, q, u, ok, xr, xp, xk⟩ := id X
  have k2 := xk.2.1
  by_cases z : σ.nk = 0
  · rw [show aBack σ = -2 from if_pos z, show sBack σ = σ from if_pos z]
    refine Ctr.of (cc := cX7_back) (nL := 1) (own := RX7) (rt := (some .int)) (ls := [some (.ref (B + 0))]) (by decide) rfl rfl (Nat.le_of_ble_eq_true rfl) rfl ?_
    refine wp_aload_n_0 (pc' := 1) dX7_back_0 rfl ?_
    refine wp_get_7_6 (pc' := 4) (by omega) rfl rfl me_X7_back_0 ic_X7_back_7 dX7_back_1 rfl ?_
    refine wp_aload_n_0 (pc' := 5) dX7_back_4 rfl ?_
    refine wp_get_7_3 (pc' := 8) (by omega) rfl rfl me_X7_back_1 ic_X7_back_7 dX7_back_5 rfl ?_
    refine wp_callVq (pc' := 11) (c_X2_pop70 hn st18 xk.2.1 xk.1 (fun i hi => by omega)) gX7_back_X2_pop rfl rfl hy_X2_pop ⟨Nat.le_of_ble_eq_true rfl, Nat.le_of_ble_eq_true rfl⟩ ⟨rfl, rfl⟩ (Nat.le_of_ble_eq_true rfl) ⟨Nat.le_of_ble_eq_true rfl, Nat.le_of_ble_eq_true rfl⟩ (by omega) (ce2 rfl) rfl rfl dX7_back_8 rfl (fun x8 h8 q8 => ?_)
    rw [if_pos z] at q8
    obtain ⟨g0, g1⟩ := q8
    subst g0
    subst g1
    refine wp_if_ne (pc' := 14) (tgt := 17) dX7_back_11 rfl rfl (fun c11 => by exfalso; exact c11 rfl) (fun c11 => ?_)
    refine wp_bipush (pc' := 16) (-2) dX7_back_14 rfl (by decide) ?_
    refine wp_ireturn dX7_back_16 rfl rfl (Nat.le_refl _) (Nat.le_refl _) ?_
    exact XQ.id rfl X
  · rw [show aBack σ = nI (σ.nk - 1) from if_neg z, show sBack σ = σ.back from if_neg z]
    refine Ctr.of (cc := cX7_back) (nL := 1) (own := RX7) (rt := (some .int)) (ls := [some (.ref (B + 0))]) (by decide) rfl rfl (Nat.le_of_ble_eq_true rfl) rfl ?_
    refine wp_aload_n_0 (pc' := 1) dX7_back_0 rfl ?_
    refine wp_get_7_6 (pc' := 4) (by omega) rfl rfl me_X7_back_0 ic_X7_back_7 dX7_back_1 rfl ?_
    refine wp_aload_n_0 (pc' := 5) dX7_back_4 rfl ?_
    refine wp_get_7_3 (pc' := 8) (by omega) rfl rfl me_X7_back_1 ic_X7_back_7 dX7_back_5 rfl ?_
    refine wp_callVq (pc' := 11) (c_X2_pop70 hn st18 xk.2.1 xk.1 (fun i hi => by omega)) gX7_back_X2_pop rfl rfl hy_X2_pop ⟨Nat.le_of_ble_eq_true rfl, Nat.le_of_ble_eq_true rfl⟩ ⟨rfl, rfl⟩ (Nat.le_of_ble_eq_true rfl) ⟨Nat.le_of_ble_eq_true rfl, Nat.le_of_ble_eq_true rfl⟩ (by omega) (ce2 rfl) rfl rfl dX7_back_8 rfl (fun x8 h8 q8 => ?_)
    rw [if_neg z] at q8
    obtain ⟨g0, cp⟩ := q8
    subst g0
    obtain ⟨X1, f0, f1⟩ := X.backed z cp
    refine wp_if_ne (pc' := 14) (tgt := 17) dX7_back_11 rfl rfl (fun c11 => ?_) (fun c11 => by exfalso; exact absurd c11 (by first | exact bS | decide))
    refine wp_aload_n_0 (pc' := 18) dX7_back_17 rfl ?_
    refine wp_get_7_5 (pc' := 21) (by omega) rfl rfl me_X7_back_2 ic_X7_back_7 dX7_back_18 rfl ?_
    refine wp_callVv (pc' := 24) (c_X2_clear28 hn) gX7_back_X2_clear rfl rfl hy_X2_clear ⟨Nat.le_of_ble_eq_true rfl, Nat.le_of_ble_eq_true rfl⟩ ⟨rfl, rfl⟩ (Nat.le_of_ble_eq_true rfl) ⟨Nat.le_of_ble_eq_true rfl, Nat.le_of_ble_eq_true rfl⟩ (by omega) (ce2 rfl) rfl rfl dX7_back_21 rfl (fun h21 q21 => ?_)
    subst q21
    refine wp_aload_n_0 (pc' := 25) dX7_back_24 rfl ?_
    refine wp_get_7_6 (pc' := 28) (by omega) rfl rfl me_X7_back_0 ic_X7_back_7 dX7_back_25 rfl ?_
    refine wp_get_2_1 (pc' := 31) (by omega) rfl me_X7_back_3 ic_X7_back_2 dX7_back_28 rfl ?_
    rw [f0]
    refine wp_ireturn dX7_back_31 rfl rfl (Nat.le_refl _) (Nat.le_refl _) ?_
    exact XQ.of rfl X1 f1
def aUndo (σ : Sg) : Int32 := if σ.nu = 0 then -2 else nI (σ.nu - 1)
def sUndo (σ : Sg) : Sg := if σ.nu = 0 then σ else σ.undo
theorem c_X7_undo (hn : 89 ≤ n) (X : XI h π σ) : Ctr l D cy B yX7_undo wsX7_undo rmX7_undo 0 0 n (rf0 π) h lg [.ref (B + 0)] (XQ h lg (aUndo σ) (sUndo σ)) := by
  obtain ⟨T, q, u, ok, xr, xp, xk⟩ := id X
  have k2 := xp.2.1
  by_cases z : σ.nu = 0
  · rw [show aUndo σ = -2 from if_pos z, show sUndo σ = σ from if_pos z]
    refine Ctr.of (cc := cX7_undo) (nL := 1) (own := RX7) (rt := (some .int)) (ls := [some (.ref (B + 0))]) (by decide) rfl rfl (Nat.le_of_ble_eq_true rfl) rfl ?_
    refine wp_aload_n_0 (pc' := 1) dX7_undo_0 rfl ?_
    refine wp_get_7_5 (pc' := 4) (by omega) rfl rfl me_X7_undo_0 ic_X7_undo_7 dX7_undo_1 rfl ?_
    refine wp_aload_n_0 (pc' := 5) dX7_undo_4 rfl ?_
    refine wp_get_7_3 (pc' := 8) (by omega) rfl rfl me_X7_undo_1 ic_X7_undo_7 dX7_undo_5 rfl ?_
    refine wp_callVq (pc' := 11) (c_X2_pop28 hn st18 xp.2.1 xp.1 X.piSt X.piNe) gX7_undo_X2_pop rfl rfl hy_X2_pop ⟨Nat.le_of_ble_eq_true rfl, Nat.le_of_ble_eq_true rfl⟩ ⟨rfl, rfl⟩ (Nat.le_of_ble_eq_true rfl) ⟨Nat.le_of_ble_eq_true rfl, Nat.le_of_ble_eq_true rfl⟩ (by omega) (ce2 rfl) rfl rfl dX7_undo_8 rfl (fun x8 h8 q8 => ?_)
    rw [if_pos z] at q8
    obtain ⟨g0, g1⟩ := q8
    subst g0
    subst g1
    refine wp_if_eq (pc' := 14) (tgt := 24) dX7_undo_11 rfl rfl (fun c11 => ?_) (fun c11 => by exfalso; exact c11 rfl)
    refine wp_bipush (pc' := 26) (-2) dX7_undo_24 rfl (by decide) ?_
    refine wp_ireturn dX7_undo_26 rfl rfl (Nat.le_refl _) (Nat.le_refl _) ?_
    exact XQ.id rfl X
  · rw [show aUndo σ = nI (σ.nu - 1) from if_neg z, show sUndo σ = σ.undo from if_neg z]
    refine Ctr.of (cc := cX7_undo) (nL := 1) (own := RX7) (rt := (some .int)) (ls := [some (.ref (B + 0))]) (by decide) rfl rfl (Nat.le_of_ble_eq_true rfl) rfl ?_
    refine wp_aload_n_0 (pc' := 1) dX7_undo_0 rfl ?_
    refine wp_get_7_5 (pc' := 4) (by omega) rfl rfl me_X7_undo_0 ic_X7_undo_7 dX7_undo_1 rfl ?_
    refine wp_aload_n_0 (pc' := 5) dX7_undo_4 rfl ?_
    refine wp_get_7_3 (pc' := 8) (by omega) rfl rfl me_X7_undo_1 ic_X7_undo_7 dX7_undo_5 rfl ?_
    refine wp_callVq (pc' := 11) (c_X2_pop28 hn st18 xp.2.1 xp.1 X.piSt X.piNe) gX7_undo_X2_pop rfl rfl hy_X2_pop ⟨Nat.le_of_ble_eq_true rfl, Nat.le_of_ble_eq_true rfl⟩ ⟨rfl, rfl⟩ (Nat.le_of_ble_eq_true rfl) ⟨Nat.le_of_ble_eq_true rfl, Nat.le_of_ble_eq_true rfl⟩ (by omega) (ce2 rfl) rfl rfl dX7_undo_8 rfl (fun x8 h8 q8 => ?_)
    rw [if_neg z] at q8
    obtain ⟨g0, cp⟩ := q8
    subst g0
    obtain ⟨X1, f0, f1⟩ := X.popped z cp
    refine wp_if_eq (pc' := 14) (tgt := 24) dX7_undo_11 rfl rfl (fun c11 => by exfalso; exact absurd c11 (by first | exact bS | decide)) (fun c11 => ?_)
    refine wp_aload_n_0 (pc' := 15) dX7_undo_14 rfl ?_
    refine wp_get_7_5 (pc' := 18) (by omega) rfl rfl me_X7_undo_0 ic_X7_undo_7 dX7_undo_15 rfl ?_
    refine wp_get_2_1 (pc' := 21) (by omega) rfl me_X7_undo_2 ic_X7_undo_2 dX7_undo_18 rfl ?_
    rw [f0]
    refine wp_goto (tgt := 26) dX7_undo_21 rfl ?_
    refine wp_ireturn dX7_undo_26 rfl rfl (Nat.le_refl _) (Nat.le_refl _) ?_
    exact XQ.of rfl X1 f1
def aCount (σ : Sg) (x : Int32) : Int32 := match ix x 6 with
  | none => -1
  | some 0 => nI (σ.R * σ.C)
  | some 1 => nI σ.R
  | some 2 => nI (σ.ρ 16)
  | some 3 => nI σ.nu
  | some 4 => nI σ.nk
  | some _ => nI σ.len
theorem six (x : Int32) : x = 0 ∨ x = 1 ∨ x = 2 ∨ x = 3 ∨ x = 4 ∨ x = 5 ∨ (x.toInt < 0 ∨ 5 < x.toInt) := by
  cases e : ix x 6 with
  | none =>
    have := ix_none.mp e
    omega
  | some a =>
    obtain ⟨rfl, h6⟩ := ix_some e
    rcases (by omega : a = 0 ∨ a = 1 ∨ a = 2 ∨ a = 3 ∨ a = 4 ∨ a = 5) with rfl | rfl | rfl | rfl | rfl | rfl
    · exact Or.inl rfl
    · exact Or.inr (Or.inl rfl)
    · exact Or.inr (Or.inr (Or.inl rfl))
    · exact Or.inr (Or.inr (Or.inr (Or.inl rfl)))
    · exact Or.inr (Or.inr (Or.inr (Or.inr (Or.inl rfl))))
    · exact Or.inr (Or.inr (Or.inr (Or.inr (Or.inr (Or.inl rfl)))))
theorem c_X7_count (hn : 89 ≤ n) (X : XI h π σ) (x : Int32) : Ctr l D cy B yX7_count wsX7_count rmX7_count 0 0 n (rf0 π) h lg [.ref (B + 0), .int x] (XQ h lg (aCount σ x) σ) := by
  obtain ⟨T, q, u, ok, xr, xp, xk⟩ := id X
  refine Ctr.of (cc := cX7_count) (nL := 2) (own := RX7) (rt := (some .int)) (ls := [some (.ref (B + 0)), some (.int x)]) (by decide) rfl rfl (Nat.le_of_ble_eq_true rfl) rfl ?_
  refine wp_iload_n_1 (pc' := 1) dX7_count_0 rfl ?_
  rcases six x with rfl | rfl | rfl | rfl | rfl | rfl | z
  · skip -- case 0
    refine wp_tblIn (off := 39) (tgt := 40) dX7_count_1 (by decide) (by decide) rfl rfl ?_
    refine wp_aload_n_0 (pc' := 41) dX7_count_40 rfl ?_
    refine wp_get_7_2 (pc' := 44) (by omega) rfl rfl me_X7_count_0 ic_X7_count_7 dX7_count_41 rfl ?_
    refine wp_callVu (pc' := 47) (c_X1_places hn la11) gX7_count_X1_places rfl rfl hy_X1_places ⟨Nat.le_of_ble_eq_true rfl, Nat.le_of_ble_eq_true rfl⟩ ⟨rfl, rfl⟩ (Nat.le_of_ble_eq_true rfl) ⟨Nat.le_of_ble_eq_true rfl, Nat.le_of_ble_eq_true rfl⟩ (by omega) (ce1 rfl) rfl rfl dX7_count_44 rfl ?_
    rw [q.places]
    refine wp_ireturn dX7_count_47 rfl rfl (Nat.le_refl _) (Nat.le_refl _) ?_
    exact XQ.id (by simp only [aCount, show ix (0 : Int32) 6 = some 0 by decide]) X
  · skip -- case 1
    refine wp_tblIn (off := 47) (tgt := 48) dX7_count_1 (by decide) (by decide) rfl rfl ?_
    refine wp_aload_n_0 (pc' := 49) dX7_count_48 rfl ?_
    refine wp_get_7_2 (pc' := 52) (by omega) rfl rfl me_X7_count_0 ic_X7_count_7 dX7_count_49 rfl ?_
    refine wp_get_1_0 (pc' := 55) (by omega) rfl me_X7_count_1 ic_X7_count_1 dX7_count_52 rfl ?_
    rw [q.2.1]
    refine wp_ireturn dX7_count_55 rfl rfl (Nat.le_refl _) (Nat.le_refl _) ?_
    exact XQ.id (by simp only [aCount, show ix (1 : Int32) 6 = some 1 by decide]) X
  · skip -- case 2
    refine wp_tblIn (off := 55) (tgt := 56) dX7_count_1 (by decide) (by decide) rfl rfl ?_
    refine wp_aload_n_0 (pc' := 57) dX7_count_56 rfl ?_
    refine wp_get_7_3 (pc' := 60) (by omega) rfl rfl me_X7_count_2 ic_X7_count_7 dX7_count_57 rfl ?_
    refine wp_get_5_4 (pc' := 63) (by omega) rfl me_X7_count_3 ic_X7_count_5 dX7_count_60 rfl ?_
    rw [xr.2.1]
    refine wp_ireturn dX7_count_63 rfl rfl (Nat.le_refl _) (Nat.le_refl _) ?_
    exact XQ.id (by simp only [aCount, show ix (2 : Int32) 6 = some 2 by decide]) X
  · skip -- case 3
    refine wp_tblIn (off := 63) (tgt := 64) dX7_count_1 (by decide) (by decide) rfl rfl ?_
    refine wp_aload_n_0 (pc' := 65) dX7_count_64 rfl ?_
    refine wp_get_7_5 (pc' := 68) (by omega) rfl rfl me_X7_count_4 ic_X7_count_7 dX7_count_65 rfl ?_
    refine wp_get_2_1 (pc' := 71) (by omega) rfl me_X7_count_5 ic_X7_count_2 dX7_count_68 rfl ?_
    rw [xp.1]
    refine wp_ireturn dX7_count_71 rfl rfl (Nat.le_refl _) (Nat.le_refl _) ?_
    exact XQ.id (by simp only [aCount, show ix (3 : Int32) 6 = some 3 by decide]) X
  · skip -- case 4
    refine wp_tblIn (off := 71) (tgt := 72) dX7_count_1 (by decide) (by decide) rfl rfl ?_
    refine wp_aload_n_0 (pc' := 73) dX7_count_72 rfl ?_
    refine wp_get_7_6 (pc' := 76) (by omega) rfl rfl me_X7_count_6 ic_X7_count_7 dX7_count_73 rfl ?_
    refine wp_get_2_1 (pc' := 79) (by omega) rfl me_X7_count_5 ic_X7_count_2 dX7_count_76 rfl ?_
    rw [xk.1]
    refine wp_ireturn dX7_count_79 rfl rfl (Nat.le_refl _) (Nat.le_refl _) ?_
    exact XQ.id (by simp only [aCount, show ix (4 : Int32) 6 = some 4 by decide]) X
  · skip -- case 5
    refine wp_tblIn (off := 79) (tgt := 80) dX7_count_1 (by decide) (by decide) rfl rfl ?_
    refine wp_aload_n_0 (pc' := 81) dX7_count_80 rfl ?_
    refine wp_get_7_0 (pc' := 84) (by omega) rfl rfl me_X7_count_7 ic_X7_count_7 dX7_count_81 rfl ?_
    refine wp_get_3_1 (pc' := 87) (by omega) rfl me_X7_count_8 ic_X7_count_3 dX7_count_84 rfl ?_
    rw [T.1]
    refine wp_ireturn dX7_count_87 rfl rfl (Nat.le_refl _) (Nat.le_refl _) ?_
    exact XQ.id (by simp only [aCount, show ix (5 : Int32) 6 = some 5 by decide]) X
  · skip -- default
    refine wp_tblOut (tgt := 88) dX7_count_1 (by assumption) rfl ?_
    refine wp_iconst (pc' := 89) (-1) dX7_count_88 rfl (by decide) ?_
    refine wp_ireturn dX7_count_89 rfl rfl (Nat.le_refl _) (Nat.le_refl _) ?_
    exact XQ.id (by simp only [aCount, show ix x 6 = none from ix_none.mpr (by omega)]) X
end VP1

