abbrev CY : Type := ClassId × ClassId × ClassId × ClassId × Nat × Nat
abbrev Rf : Type := Nat → Nat → Option Nat
abbrev Hp : Type := Nat → Nat → Int32
abbrev Lg : Type := Nat → Int64
abbrev PO : Type := Option Value → Rf → Hp → Lg → Prop
def kdL : List Nat := [7, 3, 9, 1, 10, 5, 10, 10, 10, 10, 0, 1, 10, 10, 10, 10, 10, 10, 5, 10, 10, 10, 10, 5, 10, 10, 10, 10, 2, 12, 5, 10, 10, 10, 10, 5, 10, 10, 10, 10, 5, 10, 10, 10, 10, 5, 10, 10, 10, 10, 5, 10, 10, 10, 10, 5, 10, 10, 10, 10, 5, 10, 10, 10, 10, 5, 10, 10, 10, 10, 2, 12, 5, 10, 10, 10, 10, 5, 10, 10, 10, 10, 6, 10, 10, 10, 4, 10, 10, 8, 10, 10, 10, 10, 10, 10, 10, 10, 10, 10, 10, 10, 11, 10, 10]
def lnL : List Nat := [0, 0, 200, 0, 6, 0, 16, 5, 5, 25, 0, 0, 6, 6, 5, 5, 16, 16, 0, 16, 5, 5, 25, 0, 16, 5, 5, 25, 0, 8, 0, 16, 5, 5, 25, 0, 16, 5, 5, 25, 0, 16, 5, 5, 25, 0, 16, 5, 5, 25, 0, 16, 5, 5, 25, 0, 16, 5, 5, 25, 0, 16, 5, 5, 25, 0, 16, 5, 5, 25, 0, 2, 0, 16, 5, 5, 25, 0, 16, 5, 5, 25, 0, 16, 16, 16, 0, 4, 4, 0, 200, 4, 12, 52, 52, 416, 104, 2, 5, 80, 80, 16, 32, 16, 16]
def kd (k : Nat) : Nat := kdL.getD k 0
def ln (k : Nat) : Nat := lnL.getD k 0
def rv (B : Nat) (o : Option Nat) : Value := va_rf (o.map (B + ·))
theorem rv_some (B j : Nat) : rv B (some j) = .ref (B + j) := rfl
def ce (B : Nat) (cy : CY) (r : Rf) (h : Hp) (lg : Lg) (k : Nat) : va_E := match kd k with
  | 0 => .inr (0, [rv B (r k 0), rv B (r k 1), rv B (r k 2), rv B (r k 3), rv B (r k 4), rv B (r k 5)])
  | 1 => .inr (1, [.int (h k 0), .int (h k 1), .int (h k 2), .int (h k 3), .int (h k 4), rv B (r k 5)])
  | 2 => .inr (2, [rv B (r k 0), .int (h k 1)])
  | 3 => .inr (3, [rv B (r k 0), .int (h k 1), .int (h k 2), .int (h k 3), .int (h k 4), .int (h k 5), rv B (r k 6), rv B (r k 7)])
  | 4 => .inr (4, [rv B (r k 0), rv B (r k 1)])
  | 5 => .inr (5, [rv B (r k 0), rv B (r k 1), rv B (r k 2), rv B (r k 3), .int (h k 4)])
  | 6 => .inr (6, [rv B (r k 0), rv B (r k 1), rv B (r k 2)])
  | 7 => .inr (7, [rv B (r k 0), rv B (r k 1), rv B (r k 2), rv B (r k 3), rv B (r k 4), rv B (r k 5), rv B (r k 6), rv B (r k 7), rv B (r k 8)])
  | 8 => .inr (8, [.int (h k 0), rv B (r k 1), rv B (r k 2), rv B (r k 3), rv B (r k 4), rv B (r k 5), rv B (r k 6), .int (h k 7), rv B (r k 8), .int (h k 9), .int (h k 10), .int (h k 11), rv B (r k 12), .int (h k 13), .int (h k 14), rv B (r k 15), rv B (r k 16), rv B (r k 17), rv B (r k 18), rv B (r k 19), rv B (r k 20), rv B (r k 21)])
  | 9 => .inl (cy.1, ln k, .inl (h k))
  | 10 => .inl (cy.2.1, ln k, .inl (h k))
  | 11 => .inl (cy.2.2.1, ln k, .inr (.inl lg))
  | _ => .inl (cy.2.2.2.1, ln k, .inr (.inr (.inr (.inr (fun i => (r k i).map (B + ·))))))
theorem ce0 {B : Nat} {cy : CY} {r : Rf} {h : Hp} {lg : Lg} {k : Nat} (hk : kd k = 0) : ce B cy r h lg k = .inr (0, [rv B (r k 0), rv B (r k 1), rv B (r k 2), rv B (r k 3), rv B (r k 4), rv B (r k 5)]) := by simp only [ce, hk]
theorem ce1 {B : Nat} {cy : CY} {r : Rf} {h : Hp} {lg : Lg} {k : Nat} (hk : kd k = 1) : ce B cy r h lg k = .inr (1, [.int (h k 0), .int (h k 1), .int (h k 2), .int (h k 3), .int (h k 4), rv B (r k 5)]) := by simp only [ce, hk]
theorem ce2 {B : Nat} {cy : CY} {r : Rf} {h : Hp} {lg : Lg} {k : Nat} (hk : kd k = 2) : ce B cy r h lg k = .inr (2, [rv B (r k 0), .int (h k 1)]) := by simp only [ce, hk]
theorem ce3 {B : Nat} {cy : CY} {r : Rf} {h : Hp} {lg : Lg} {k : Nat} (hk : kd k = 3) : ce B cy r h lg k = .inr (3, [rv B (r k 0), .int (h k 1), .int (h k 2), .int (h k 3), .int (h k 4), .int (h k 5), rv B (r k 6), rv B (r k 7)]) := by simp only [ce, hk]
theorem ce4 {B : Nat} {cy : CY} {r : Rf} {h : Hp} {lg : Lg} {k : Nat} (hk : kd k = 4) : ce B cy r h lg k = .inr (4, [rv B (r k 0), rv B (r k 1)]) := by simp only [ce, hk]
theorem ce5 {B : Nat} {cy : CY} {r : Rf} {h : Hp} {lg : Lg} {k : Nat} (hk : kd k = 5) : ce B cy r h lg k = .inr (5, [rv B (r k 0), rv B (r k 1), rv B (r k 2), rv B (r k 3), .int (h k 4)]) := by simp only [ce, hk]
theorem ce6 {B : Nat} {cy : CY} {r : Rf} {h : Hp} {lg : Lg} {k : Nat} (hk : kd k = 6) : ce B cy r h lg k = .inr (6, [rv B (r k 0), rv B (r k 1), rv B (r k 2)]) := by simp only [ce, hk]
theorem ce7 {B : Nat} {cy : CY} {r : Rf} {h : Hp} {lg : Lg} {k : Nat} (hk : kd k = 7) : ce B cy r h lg k = .inr (7, [rv B (r k 0), rv B (r k 1), rv B (r k 2), rv B (r k 3), rv B (r k 4), rv B (r k 5), rv B (r k 6), rv B (r k 7), rv B (r k 8)]) := by simp only [ce, hk]
theorem ce8 {B : Nat} {cy : CY} {r : Rf} {h : Hp} {lg : Lg} {k : Nat} (hk : kd k = 8) : ce B cy r h lg k = .inr (8, [.int (h k 0), rv B (r k 1), rv B (r k 2), rv B (r k 3), rv B (r k 4), rv B (r k 5), rv B (r k 6), .int (h k 7), rv B (r k 8), .int (h k 9), .int (h k 10), .int (h k 11), rv B (r k 12), .int (h k 13), .int (h k 14), rv B (r k 15), rv B (r k 16), rv B (r k 17), rv B (r k 18), rv B (r k 19), rv B (r k 20), rv B (r k 21)]) := by simp only [ce, hk]
theorem ce9 {B : Nat} {cy : CY} {r : Rf} {h : Hp} {lg : Lg} {k : Nat} (hk : kd k = 9) : ce B cy r h lg k = .inl (cy.1, ln k, .inl (h k)) := by simp only [ce, hk]
theorem ce10 {B : Nat} {cy : CY} {r : Rf} {h : Hp} {lg : Lg} {k : Nat} (hk : kd k = 10) : ce B cy r h lg k = .inl (cy.2.1, ln k, .inl (h k)) := by simp only [ce, hk]
theorem ce11 {B : Nat} {cy : CY} {r : Rf} {h : Hp} {lg : Lg} {k : Nat} (hk : kd k = 11) : ce B cy r h lg k = .inl (cy.2.2.1, ln k, .inr (.inl lg)) := by simp only [ce, hk]
theorem ce12 {B : Nat} {cy : CY} {r : Rf} {h : Hp} {lg : Lg} {k : Nat} (hk : kd k = 12) : ce B cy r h lg k = .inl (cy.2.2.2.1, ln k, .inr (.inr (.inr (.inr (fun i => (r k i).map (B + ·)))))) := by simp only [ce, hk]
def hup (h : Hp) (k i : Nat) (v : Int32) : Hp := fun a => if a = k then upd (h k) i v else h a
def rup (r : Rf) (k i : Nat) (v : Option Nat) : Rf := fun a j => if a = k ∧ j = i then v else r a j
def lup (f : Lg) (i : Nat) (v : Int64) : Lg := fun j => if j = i then v else f j
theorem hup_self (h : Hp) (k i : Nat) (v : Int32) : hup h k i v k = upd (h k) i v := by simp [hup]
theorem hup_cell {h : Hp} {k a i : Nat} {v : Int32} (ha : a ≠ k) : hup h k i v a = h a := by simp [hup, ha]
theorem hup_at (h : Hp) (k i : Nat) (v : Int32) : hup h k i v k i = v := by simp [hup, upd]
theorem hup_off {h : Hp} {k i j : Nat} {v : Int32} (hj : j ≠ i) : hup h k i v k j = h k j := by simp [hup, upd, hj]
theorem rup_cell {r : Rf} {k a i : Nat} {v : Option Nat} (ha : a ≠ k) : rup r k i v a = r a := by funext j; simp [rup, ha]
theorem rup_at (r : Rf) (k i : Nat) (v : Option Nat) : rup r k i v k i = v := by simp [rup]
theorem rup_off {r : Rf} {k i j : Nat} {v : Option Nat} (hj : j ≠ i) : rup r k i v k j = r k j := by simp [rup, hj]
theorem kd_long {k : Nat} (hk : kd k = 11) : k = 102 := by
  by_cases q : k < 105
  · have z : ∀ k, k < 105 → kd k = 11 → k = 102 := by decide +kernel
    exact z k q hk
  · have : kd k = 0 := by
      unfold kd
      rw [List.getD_eq_getElem?_getD, List.getElem?_eq_none (by simp [kdL]; omega)]
      rfl
    omega
theorem ce_same {B : Nat} {cy : CY} {r r' : Rf} {h h' : Hp} {lg lg' : Lg} {k : Nat} (h1 : r' k = r k) (h2 : h' k = h k) (h3 : lg' = lg ∨ kd k ≠ 11) : ce B cy r' h' lg' k = ce B cy r h lg k := by
  rcases h3 with rfl | h3
  · simp only [ce, h1, h2]
  · unfold ce
    simp only [h1, h2]
    split <;> first | rfl | (exfalso; exact h3 (by assumption))
def wl (B : Nat) (cy : CY) (n : Nat) (r : Rf) (h : Hp) (lg : Lg) : va_W := (List.range n).map (fun k => (B + k, ce B cy r h lg k))
theorem wl_len (B : Nat) (cy : CY) (n : Nat) (r : Rf) (h : Hp) (lg : Lg) : (wl B cy n r h lg).length = n := by simp [wl]
theorem wl_get {B : Nat} {cy : CY} {n : Nat} {r : Rf} {h : Hp} {lg : Lg} {k : Nat} (hk : k < n) : (wl B cy n r h lg)[k]? = some (B + k, ce B cy r h lg k) := by
  simp [wl, hk]
theorem wl_inv {B : Nat} {cy : CY} {n : Nat} {r : Rf} {h : Hp} {lg : Lg} {k : Nat} {q : Nat × va_E} (hq : (wl B cy n r h lg)[k]? = some q) : k < n ∧ q = (B + k, ce B cy r h lg k) := by
  have hk : k < n := by
    have := (List.getElem?_eq_some_iff.mp hq).1
    rwa [wl_len] at this
  rw [wl_get hk] at hq
  exact ⟨hk, (Option.some.inj hq).symm⟩
theorem wl_D (B : Nat) (cy : CY) (n : Nat) (r : Rf) (h : Hp) (lg : Lg) : va_D (fun q => B ≤ q) (wl B cy n r h lg) := by
  refine ⟨fun i j p q hi hj hpq => ?_, fun k q hk => ?_⟩
  · obtain ⟨-, rfl⟩ := wl_inv hi
    obtain ⟨-, rfl⟩ := wl_inv hj
    have : B + i = B + j := hpq
    omega
  · obtain ⟨-, rfl⟩ := wl_inv hk
    exact Nat.le_add_right B k
theorem wl_set {B : Nat} {cy : CY} {n : Nat} {r r' : Rf} {h h' : Hp} {lg lg' : Lg} {k : Nat} {e : va_E} (hk : k < n) (he : ce B cy r' h' lg' k = e) (hs : ∀ a, a ≠ k → ce B cy r' h' lg' a = ce B cy r h lg a) : (wl B cy n r h lg).set k (B + k, e) = wl B cy n r' h' lg' := by
  apply List.ext_getElem?
  intro i
  by_cases hi : i < n
  · rw [wl_get hi]
    by_cases hik : i = k
    · subst hik
      rw [List.getElem?_set_self (by rw [wl_len]; exact hi), he]
    · rw [List.getElem?_set_ne (Ne.symm hik), wl_get hi, hs i hik]
  · rw [List.getElem?_eq_none (by rw [List.length_set, wl_len]; omega), List.getElem?_eq_none (by rw [wl_len]; omega)]
theorem wl_push {B : Nat} {cy : CY} {n : Nat} {r : Rf} {h : Hp} {lg : Lg} : wl B cy n r h lg ++ [(B + n, ce B cy r h lg n)] = wl B cy (n + 1) r h lg := by
  simp [wl, List.range_succ]
def tysY (cy : CY) : List (ClassId × FieldType) := [(cy.1, .char), (cy.2.1, .int), (cy.2.2.1, .long), (cy.2.2.2.1, .object "DrawnByLost$Story")]
def lh (lsA : Array Slot) (nL : Nat) (ls : List (Option Value)) : Prop := lsA.size = nL ∧ lv_wf lsA ∧ ∀ (i : Nat) (v : Value), ls[i]? = some (some v) → lsA[i]? = some (.val v)
def alf (ls : List (Option Value)) : List (Nat × Value) := (List.range ls.length).filterMap (fun i => match ls[i]? with | some (some v) => some (i, v) | _ => none)
theorem alf_mem {ls : List (Option Value)} {i : Nat} {v : Value} : (i, v) ∈ alf ls ↔ ls[i]? = some (some v) := by
  unfold alf
  rw [List.mem_filterMap]
  constructor
  · rintro ⟨j, hj, hq⟩
    split at hq
    · rename_i w hw
      cases hq
      exact hw
    · cases hq
  · intro hq
    refine ⟨i, List.mem_range.mpr (List.getElem?_eq_some_iff.mp hq).1, ?_⟩
    simp [hq]
theorem lh.has {lsA : Array Slot} {nL : Nat} {ls : List (Option Value)} (hq : lh lsA nL ls) : lv_has lsA nL (alf ls) := ⟨hq.1, hq.2.1, fun q hm => hq.2.2 q.1 q.2 (alf_mem.mp hm)⟩
def okc (a : Option Value) : Bool := match a with
  | some (.long _) => false
  | some (.double _) => false
  | _ => true
def okp (ls : List (Option Value)) (i : Nat) : Bool := match i with
  | 0 => true
  | j + 1 => match ls[j]? with | some a => okc a | none => true
theorem okp_use {ls : List (Option Value)} {i j : Nat} {v : Value} (ho : okp ls i = true) (hj : j + 1 = i) (hv : ls[j]? = some (some v)) : ¬ v.category = 2 := by
  subst hj
  simp only [okp, hv] at ho
  cases v <;> first | (intro q; cases q; done) | (simp [okc] at ho)
theorem lh.st1 {lsA : Array Slot} {nL i : Nat} {ls : List (Option Value)} {v : Value} (ho : okp ls i = true) (hq : lv_has lsA nL ((i, v) :: (alf ls).filter (fun q => !(q.1 == i) && !(q.1 + 1 == i && q.2.category == 2)))) : lh lsA nL (ls.set i (some v)) := by
  refine ⟨hq.1, hq.2.1, fun j w hj => ?_⟩
  by_cases hji : j = i
  · subst hji
    have hlt : j < ls.length := by
      have := (List.getElem?_eq_some_iff.mp hj).1
      rwa [List.length_set] at this
    rw [List.getElem?_set_self hlt] at hj
    cases hj
    exact hq.2.2 (j, v) List.mem_cons_self
  · rw [List.getElem?_set_ne (Ne.symm hji)] at hj
    refine hq.2.2 (j, w) (List.mem_cons_of_mem _ (List.mem_filter.mpr ⟨alf_mem.mpr hj, ?_⟩))
    simp only [Bool.and_eq_true, Bool.not_eq_true', beq_eq_false_iff_ne, ne_eq, Bool.and_eq_false_iff]
    refine ⟨hji, ?_⟩
    by_cases hj1 : j + 1 = i
    · exact Or.inr (okp_use ho hj1 hj)
    · exact Or.inl hj1
theorem lh.st2 {lsA : Array Slot} {nL i : Nat} {ls : List (Option Value)} {v : Value} (ho : okp ls i = true) (hq : lv_has lsA nL ((i, v) :: (alf ls).filter (fun q => !(q.1 == i) && (!(q.1 == i + 1) && !(q.1 + 1 == i && q.2.category == 2))))) : lh lsA nL ((ls.set i (some v)).set (i + 1) none) := by
  refine ⟨hq.1, hq.2.1, fun j w hj => ?_⟩
  by_cases hj1 : j = i + 1
  · subst hj1
    by_cases hlt : i + 1 < (ls.set i (some v)).length
    · rw [List.getElem?_set_self hlt] at hj
      cases hj
    · rw [List.getElem?_eq_none (by rw [List.length_set]; omega)] at hj
      cases hj
  rw [List.getElem?_set_ne (Ne.symm hj1)] at hj
  by_cases hji : j = i
  · subst hji
    have hlt : j < ls.length := by
      have := (List.getElem?_eq_some_iff.mp hj).1
      rwa [List.length_set] at this
    rw [List.getElem?_set_self hlt] at hj
    cases hj
    exact hq.2.2 (j, v) List.mem_cons_self
  · rw [List.getElem?_set_ne (Ne.symm hji)] at hj
    refine hq.2.2 (j, w) (List.mem_cons_of_mem _ (List.mem_filter.mpr ⟨alf_mem.mpr hj, ?_⟩))
    simp only [Bool.and_eq_true, Bool.not_eq_true', beq_eq_false_iff_ne, ne_eq, Bool.and_eq_false_iff]
    refine ⟨hji, hj1, ?_⟩
    by_cases hj2 : j + 1 = i
    · exact Or.inr (okp_use ho hj2 hj)
    · exact Or.inl hj2
def nestL : List (String × Nat × MethodName) := [(RX7, 18, yX0_init), (RX7, 30, yX5_init), (RX7, 52, yX6_init), (RX7, 59, yX4_init), (RX7, 9, yX3_init), (RX0, 11, yX1_init), (RX0, 38, yX7_isMark), (RX1, 31, yX7_isMark), (RX2, 21, yX5_init), (RX3, 17, yX1_init), (RX3, 24, yX5_init), (RX3, 83, yX7_isMark), (RX3, 94, yX7_isKind)]
def NW (U : State) : Prop := (∀ q ∈ nestL, va_Nw (.methodLinkNest q.1 q.2.1 q.2.2 "DrawnByLost") U) ∧ va_AO "DrawnByLost$Story" U
def txS : String := "d3,4;m1,1;m2,2;m4,3;m5,1;m7,4;m9,2;m10,5;h5,2;w0012;w1213;w2354;w301;w0315;"
def txB : List Int32 := [100, 51, 44, 52, 59, 109, 49, 44, 49, 59, 109, 50, 44, 50, 59, 109, 52, 44, 51, 59, 109, 53, 44, 49, 59, 109, 55, 44, 52, 59, 109, 57, 44, 50, 59, 109, 49, 48, 44, 53, 59, 104, 53, 44, 50, 59, 119, 48, 48, 49, 50, 59, 119, 49, 50, 49, 51, 59, 119, 50, 51, 53, 52, 59, 119, 51, 48, 49, 59, 119, 48, 51, 49, 53, 59]
/-- the string constant, the two statics that it's read with -/
def SC (cy : CY) (A : Nat → Prop) (U : State) (H : Heap) : Prop := va_O "java/lang/String" cy.2.2.2.2.1 A U H ∧ va_OF "java/lang/String" "coder" "B" (.int 0) cy.2.2.2.2.1 A U H ∧ va_OF "java/lang/String" "value" "[B" (.ref cy.2.2.2.2.2) cy.2.2.2.2.1 A U H ∧ va_T .byte cy.2.2.2.2.2 75 (fun j => .int (txB.getD j 0)) A U H ∧ va_Z "java/lang/String" "COMPACT_STRINGS" "Z" (.int 1) A U H ∧ va_Zq "jdk/internal/util/Preconditions" "SIOOBE_FORMATTER" "Ljava/util/function/BiFunction;" A U H
theorem SC.moved {cy : CY} {A : Nat → Prop} {u U : State} {H : Heap} (hvm : u.vm.Alike U.vm) (q : SC cy A u H) : SC cy A U H := ⟨va_O.moved hvm q.1, va_OF.moved hvm q.2.1, va_OF.moved hvm q.2.2.1, va_T.moved hvm q.2.2.2.1, va_Z.moved hvm q.2.2.2.2.1, va_Zq.moved hvm q.2.2.2.2.2⟩
theorem SC.kept {cy : CY} {A : Nat → Prop} {U : State} {H H1 : Heap} (q : SC cy A U H) (hq : ∀ a : Nat, a < H.size → ¬ A a → H1[a]? = H[a]?) : SC cy A U H1 := ⟨q.1.kept hq, q.2.1.kept hq, q.2.2.1.kept hq, q.2.2.2.1.kept hq, q.2.2.2.2.1.kept hq, q.2.2.2.2.2.kept hq⟩
def KN (D : va_G) (cy : CY) (B : Nat) (U : State) : Prop := va_K D vwCl (tysY cy) U ∧ NW U ∧ vk_R RX7 64 txS cy.2.2.2.2.1 U ∧ SC cy (fun q => B ≤ q) U U.heap
theorem KN.warm {D : va_G} {cy : CY} {B : Nat} {s U : State} (hW : s.WarmedH U.vm) (hH : ∀ a : Nat, a < s.heap.size → ¬ B ≤ a → U.heap[a]? = s.heap[a]?) (hK : KN D cy B s) : KN D cy B U := ⟨va_K.moved hW.alike hK.1, ⟨fun q hq => va_Nw.warmM hW (hK.2.1.1 q hq), va_AO.moved hW.alike hK.2.1.2⟩, hK.2.2.1.warm hW, (hK.2.2.2.moved hW.alike).kept hH⟩
def Cx (l : Launch) (D : va_G) (cy : CY) (B : Nat) (cc : ByteArray) (nL : Nat) (own : String) (ws : List Cond) (rt : Option FieldType) (EX : State → Method → Array Value → Prop) (p : Program) (s : State) (m : MethodId) (args : Array Value) (meth : Method) (c : Code) : Prop :=
  p.tables.exec = Jvm.exec ∧ c.code = cc ∧ c.maxLocals = nL ∧ s.vm.findClass own = some m.cls ∧ (∀ w ∈ ws, w.before args s = true) ∧ meth.sig.returnType = rt ∧ meth.locks = false ∧ KN D cy B s ∧ B ≤ s.heap.size ∧ EX s meth args
/-- the machine, at pc of a method with locals ls and operand stack st over the world (n, r, h, lg), comes to the end QE -/
def WP (l : Launch) (D : va_G) (cy : CY) (B : Nat) (cc : ByteArray) (nL : Nat) (own : String) (ws : List Cond) (R : Room) (rt : Option FieldType) (QE : List Frame → Array Value → State → State → Prop) (EX : State → Method → Array Value → Prop) (n : Nat) (r : Rf) (h : Hp) (lg : Lg) (ca sa pc : Nat) (ls : List (Option Value)) (st : List Value) : Prop :=
  ∀ (p : Program) (e : Env) (s : State) (m : MethodId) (args : Array Value) (below : List Frame) (meth : Method) (c : Code) (H : Heap) (locs : List Loc) (lsA : Array Slot), Cx l D cy B cc nL own ws rt EX p s m args meth c → va_P D vwCl (wl B cy n r h lg) H → B + n = s.heap.size + ca → va_S (fun q => B ≤ q) s.heap H locs → lh lsA nL ls →
    W p l e R s m args below meth c H locs ca sa (QE below args s) (F0 m pc lsA st)
def Sx (D : va_G) (cy : CY) (B : Nat) (n : Nat) (r : Rf) (h : Hp) (lg : Lg) (U : State) : Prop := va_P D vwCl (wl B cy n r h lg) U.heap ∧ U.heap.size = B + n ∧ KN D cy B U
def Qr (D : va_G) (cy : CY) (B n : Nat) (post : PO) : Array Value → State → Outcome → State → Prop := fun _ st oc t => (∃ (v : Option Value) (r : Rf) (h : Hp) (lg : Lg), oc = .returned v ∧ post v r h lg ∧ Sx D cy B n r h lg t) ∧ va_F (fun q => B ≤ q) st t
/-- a method's contract at a world -/
def Ctr (l : Launch) (D : va_G) (cy : CY) (B : Nat) (y : MethodName) (ws : List Cond) (rm : Room) (mc ms : Nat) (n : Nat) (r : Rf) (h : Hp) (lg : Lg) (args : List Value) (post : PO) : Prop :=
  Met l y ws rm (va_Pc args (Sx D cy B n r h lg)) (Qr D cy B (n + mc) post) mc ms (fun q => B ≤ q)
def QE0 (D : va_G) (cy : CY) (B n mc ms : Nat) (post : PO) : List Frame → Array Value → State → State → Prop := fun below a s => MQ below (Qr D cy B n post) a s mc ms (fun q => B ≤ q)
theorem W_size {p : Program} {l : Launch} {e : Env} {R : Room} {s : State} {m : MethodId} {args : Array Value} {below : List Frame} {meth : Method} {c : Code} {H : Heap} {locs : List Loc} {ca sa : Nat} {Q : State → Prop} {g : JFrame} (k : s.heap.size ≤ H.size → H.size ≤ s.heap.size + ca → W p l e R s m args below meth c H locs ca sa Q g) : W p l e R s m args below meth c H locs ca sa Q g := by
  intro T hT X
  have h1 := X.same.2.1
  have h2 := X.same.2.2.1
  have e1 : (T.setVm s.vm).heap = H := hT
  rw [e1] at h1 h2
  exact k h1 h2 T hT X
theorem wl_size {D : va_G} {cy : CY} {B n ca : Nat} {r : Rf} {h : Hp} {lg : Lg} {H : Heap} {z : Nat} (hP : va_P D vwCl (wl B cy n r h lg) H) (hZ : B + n = z + ca) (hB : B ≤ z) (h1 : z ≤ H.size) (h2 : H.size ≤ z + ca) : H.size = B + n := by
  cases n with
  | zero => omega
  | succ j =>
    have := (hP j _ (wl_get (Nat.lt_succ_self j))).lt
    dsimp only at this
    omega
def EX0 : State → Method → Array Value → Prop := fun _ _ _ => True
def EXi : State → Method → Array Value → Prop := fun _ meth _ => meth.name = "<init>"
def argl : List Value → List (Option Value)
  | [] => []
  | .long x :: vs => some (.long x) :: none :: argl vs
  | .double x :: vs => some (.double x) :: none :: argl vs
  | v :: vs => some v :: argl vs
theorem argl_mem : ∀ (vs : List Value) (k i : Nat) (v : Value), (argl vs)[i]? = some (some v) → (k + i, v) ∈ lv_args k vs := by
  intro vs
  induction vs with
  | nil => intro k i v hq; simp [argl] at hq
  | cons a vs ih =>
    intro k i v hq
    have two : a.category = 2 → (argl (a :: vs)) = some a :: none :: argl vs := by
      intro z
      cases a <;> first | rfl | (simp [Value.category] at z)
    have one : ¬ a.category = 2 → (argl (a :: vs)) = some a :: argl vs := by
      intro z
      cases a <;> first | rfl | (simp [Value.category] at z)
    by_cases z : a.category = 2
    · rw [two z] at hq
      simp only [lv_args, z, if_true]
      match i, hq with
      | 0, hq => simp at hq; subst hq; exact List.mem_cons_self
      | 1, hq => simp at hq
      | i + 2, hq =>
        have := ih (k + 2) i v (by simpa using hq)
        rw [show k + (i + 2) = k + 2 + i by omega]
        exact List.mem_cons_of_mem _ this
    · rw [one z] at hq
      simp only [lv_args, z, if_false]
      match i, hq with
      | 0, hq => simp at hq; subst hq; exact List.mem_cons_self
      | i + 1, hq =>
        have := ih (k + 1) i v (by simpa using hq)
        rw [show k + (i + 1) = k + 1 + i by omega]
        exact List.mem_cons_of_mem _ this
theorem argl_entry (vs : List Value) {nL : Nat} {ls : List (Option Value)} (hn : (lg_sl vs).length ≤ nL) (hl : argl vs ++ List.replicate (nL - (argl vs).length) none = ls) : lh ((lg_sl vs ++ List.replicate (nL - (lg_sl vs).length) Slot.unset).toArray) nL ls := by
  obtain ⟨h1, h2, h3⟩ := lv_entry vs hn
  refine ⟨h1, h2, fun i v hi => ?_⟩
  subst hl
  have hm : (argl vs)[i]? = some (some v) := by
    by_cases q : i < (argl vs).length
    · rwa [List.getElem?_append_left q] at hi
    · rw [List.getElem?_append_right (by omega)] at hi
      rw [List.getElem?_replicate] at hi
      split at hi <;> cases hi
  have := argl_mem vs 0 i v hm
  rw [Nat.zero_add] at this
  exact h3 (i, v) this

