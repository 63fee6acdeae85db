
def bt (x : Int32) (i : Nat) : Bool := x.toBitVec.getLsbD i
theorem b_ext {x y : Int32} (h : ∀ i, i < 32 → bt x i = bt y i) : x = y := Int32.toBitVec_inj.mp (BitVec.eq_of_getLsbD_eq (fun i hi => h i hi))
theorem b_or (x y : Int32) (i : Nat) : bt (x ||| y) i = (bt x i || bt y i) := by unfold bt; rw [Int32.toBitVec_or, BitVec.getLsbD_or]
theorem b_and (x y : Int32) (i : Nat) : bt (x &&& y) i = (bt x i && bt y i) := by unfold bt; rw [Int32.toBitVec_and, BitVec.getLsbD_and]
theorem b_xor (x y : Int32) (i : Nat) : bt (x ^^^ y) i = (bt x i ^^ bt y i) := by unfold bt; rw [Int32.toBitVec_xor, BitVec.getLsbD_xor]
theorem b_big {x : Int32} {i : Nat} (h : 32 ≤ i) : bt x i = false := BitVec.getLsbD_of_ge _ _ h
theorem b_255 (i : Nat) : bt 255 i = decide (i < 8) := by
  rcases Nat.lt_or_ge i 32 with h | h
  · exact (by decide +kernel : ∀ i, i < 32 → bt 255 i = decide (i < 8)) i h
  · rw [b_big h, decide_eq_false (by omega)]
theorem b_65535 (i : Nat) : bt 65535 i = decide (i < 16) := by
  rcases Nat.lt_or_ge i 32 with h | h
  · exact (by decide +kernel : ∀ i, i < 32 → bt 65535 i = decide (i < 16)) i h
  · rw [b_big h, decide_eq_false (by omega)]
theorem b_m1 : ∀ i, i < 32 → bt (-1) i = true := by decide +kernel
theorem b_0 (i : Nat) : bt 0 i = false := BitVec.getLsbD_zero
theorem s_l : ∀ n, n < 32 → ((nI n &&& 31).toBitVec.smod 32).toNat = n := by decide +kernel
theorem s_u : ∀ n, n < 32 → (((nI n).toUInt32 &&& Int32.toUInt32 31).toBitVec % 32).toNat = n := by decide +kernel
theorem b_shl (n : Nat) (hn : n < 32) (x : Int32) {i : Nat} (hi : i < 32) : bt (x <<< (nI n &&& 31)) i = (decide (n ≤ i) && bt x (i - n)) := by
  unfold bt
  rw [Int32.toBitVec_shiftLeft]
  show (x.toBitVec <<< ((nI n &&& 31).toBitVec.smod 32).toNat).getLsbD i = _
  rw [s_l n hn, BitVec.getLsbD_shiftLeft]
  rcases Nat.lt_or_ge i n with h | h
  · simp [h, Nat.not_le.mpr h]
  · simp [hi, h, Nat.not_lt.mpr h]
theorem b_ushr (n : Nat) (hn : n < 32) (x : Int32) (i : Nat) : bt ((x.toUInt32 >>> ((nI n).toUInt32 &&& Int32.toUInt32 31)).toInt32) i = bt x (n + i) := by
  show (x.toUInt32 >>> ((nI n).toUInt32 &&& Int32.toUInt32 31)).toBitVec.getLsbD i = x.toUInt32.toBitVec.getLsbD (n + i)
  rw [UInt32.toBitVec_shiftRight]
  show (x.toUInt32.toBitVec >>> (((nI n).toUInt32 &&& Int32.toUInt32 31).toBitVec % 32).toNat).getLsbD i = _
  rw [s_u n hn, BitVec.getLsbD_ushiftRight]
theorem b_sshr (n : Nat) (hn : n < 32) (x : Int32) {i : Nat} (hi : i < 32) : bt (x >>> (nI n &&& 31)) i = if n + i < 32 then bt x (n + i) else bt x 31 := by
  unfold bt
  rw [Int32.toBitVec_shiftRight]
  show (x.toBitVec.sshiftRight ((nI n &&& 31).toBitVec.smod 32).toNat).getLsbD i = _
  rw [s_l n hn, BitVec.getLsbD_sshiftRight, BitVec.msb_eq_getLsbD_last]
  simp [hi]
-- ===== sets of places as ints =====
theorem b_one {n : Nat} (hn : n < 32) {i : Nat} (hi : i < 32) : bt ((1 : Int32) <<< (nI n &&& 31)) i = decide (i = n) := by
  rw [b_shl n hn 1 hi]
  have z : ∀ j, j < 32 → bt 1 j = decide (j = 0) := by decide +kernel
  by_cases h : n ≤ i
  · rw [z (i - n) (by omega)]
    by_cases e : i = n
    · subst e; simp
    · have : ¬ i - n = 0 := by omega
      simp [h, e, this]
  · have : ¬ i = n := by omega
    simp [h, this]
def SN : Nat → (Nat → Bool) → Int32
  | 0, _ => 0
  | n + 1, f => SN n f ||| (if f n = true then (1 : Int32) <<< (nI n &&& 31) else 0)
def S (f : Nat → Bool) : Int32 := SN 16 f
theorem b_SN (f : Nat → Bool) : ∀ n, n ≤ 32 → ∀ i, i < 32 → bt (SN n f) i = (decide (i < n) && f i) := by
  intro n
  induction n with
  | zero => intro _ i _; simp [SN, b_0]
  | succ n ih =>
    intro hn i hi
    simp only [SN]
    rw [b_or, ih (by omega) i hi]
    by_cases hf : f n = true
    · rw [if_pos hf, b_one (by omega) hi]
      by_cases e : i = n
      · subst e; simp [hf]
      · by_cases q : i < n
        · simp [q, Nat.lt_succ_of_lt q, e]
        · have : ¬ i < n + 1 := by omega
          simp [q, e, this]
    · rw [if_neg hf, b_0]
      by_cases e : i = n
      · subst e
        have : f i = false := by simpa using hf
        simp [this]
      · by_cases q : i < n
        · simp [q, Nat.lt_succ_of_lt q]
        · have : ¬ i < n + 1 := by omega
          simp [q, this]
theorem b_S (f : Nat → Bool) {i : Nat} (hi : i < 32) : bt (S f) i = (decide (i < 16) && f i) := b_SN f 16 (by omega) i hi
theorem S_ext {f g : Nat → Bool} (h : ∀ i, i < 16 → f i = g i) : S f = S g := b_ext fun i hi => by
  rw [b_S f hi, b_S g hi]
  by_cases q : i < 16
  · rw [h i q]
  · simp [q]
theorem S_inj {f g : Nat → Bool} (h : S f = S g) {i : Nat} (hi : i < 16) : f i = g i := by
  have h1 : bt (S f) i = bt (S g) i := by rw [h]
  rw [b_S f (by omega), b_S g (by omega)] at h1
  simpa [hi] using h1
theorem S_eq {f g : Nat → Bool} : S f = S g ↔ ∀ i, i < 16 → f i = g i := ⟨fun h i hi => S_inj h hi, S_ext⟩
theorem S_zero : S (fun _ => false) = 0 := b_ext fun i hi => by rw [b_S _ hi, b_0]; simp
theorem S_eq0 {f : Nat → Bool} : S f = 0 ↔ ∀ i, i < 16 → f i = false := by rw [← S_zero, S_eq]
theorem SN_S {f : Nat → Bool} {P : Nat} (hP : P ≤ 16) (h : ∀ i, P ≤ i → i < 16 → f i = false) : SN P f = S f := b_ext fun i hi => by
  rw [b_SN f P (by omega) i hi, b_S f hi]
  by_cases q : i < P
  · have : i < 16 := by omega
    simp [q, this]
  · by_cases q2 : i < 16
    · simp [q, q2, h i (by omega) q2]
    · simp [q, q2]
theorem SN_lim (f : Nat → Bool) {P : Nat} (hP : P ≤ 16) : SN P f = S (fun i => decide (i < P) && f i) := b_ext fun i hi => by
  rw [b_SN f P (by omega) i hi, b_S _ hi]
  by_cases q : i < P
  · have : i < 16 := by omega
    simp [q, this]
  · simp [q]
theorem S_and (f g : Nat → Bool) : S f &&& S g = S (fun i => f i && g i) := b_ext fun i hi => by
  rw [b_and, b_S f hi, b_S g hi, b_S _ hi]
  cases decide (i < 16) <;> simp
theorem S_or (f g : Nat → Bool) : S f ||| S g = S (fun i => f i || g i) := b_ext fun i hi => by
  rw [b_or, b_S f hi, b_S g hi, b_S _ hi]
  cases decide (i < 16) <;> simp
theorem S_andnot (f g : Nat → Bool) : S f &&& (S g ^^^ (-1)) = S (fun i => f i && !g i) := b_ext fun i hi => by
  rw [b_and, b_xor, b_S f hi, b_S g hi, b_S _ hi, b_m1 i hi]
  cases decide (i < 16) <;> simp
theorem S_one {x : Nat} (hx : x < 16) : (1 : Int32) <<< (nI x &&& 31) = S (fun i => decide (i = x)) := b_ext fun i hi => by
  rw [b_one (by omega) hi, b_S _ hi]
  by_cases e : i = x
  · subst e; simp [hx]
  · simp [e]
theorem S_shl {f : Nat → Bool} {c : Nat} (hc : c < 16) {g : Nat → Bool} (h : ∀ i, i < 32 → (decide (i < 16) && g i) = (decide (c ≤ i) && (decide (i - c < 16) && f (i - c)))) : S f <<< (nI c &&& 31) = S g := b_ext fun i hi => by
  rw [b_shl c (by omega) _ hi, b_S _ (by omega), b_S g hi, h i hi]
theorem S_ushr (f : Nat → Bool) {c : Nat} (hc : c < 16) : ((S f).toUInt32 >>> ((nI c).toUInt32 &&& Int32.toUInt32 31)).toInt32 = S (fun i => decide (c + i < 16) && f (c + i)) := b_ext fun i hi => by
  rw [b_ushr c (by omega)]
  by_cases q : c + i < 32
  · rw [b_S f q, b_S _ hi]
    by_cases q2 : i < 16
    · simp [q2]
    · have : ¬ c + i < 16 := by omega
      simp [q2, this]
  · rw [b_big (by omega), b_S _ hi]
    have : ¬ i < 16 := by omega
    simp [this]
theorem b_test (s : Int32) {x : Nat} (hx : x < 31) : (s >>> (nI x &&& 31)) &&& 1 = b2i (bt s x) := b_ext fun i hi => by
  rw [b_and, b_sshr x (by omega) s hi]
  have z : ∀ j, j < 32 → bt 1 j = decide (j = 0) := by decide +kernel
  rw [z i hi]
  by_cases e : i = 0
  · subst e
    have h32 : x < 32 := by omega
    rw [Nat.add_zero, if_pos h32]
    cases hb : bt s x
    · simp [b2i, b_0]
    · simp [b2i, z]
  · cases hb : bt s x
    · simp [e, b2i, b_0]
    · simp [e, b2i, z i hi]
theorem S_test (f : Nat → Bool) {x : Nat} (hx : x < 16) : (S f >>> (nI x &&& 31)) &&& 1 = b2i (f x) := by
  rw [b_test _ (by omega), b_S f (by omega)]
  simp [hx]
theorem S_hit (f : Nat → Bool) {y : Nat} (hy : y < 16) : S f &&& ((1 : Int32) <<< (nI y &&& 31)) = 0 ↔ f y = false := by
  rw [S_one hy, S_and, S_eq0]
  constructor
  · intro h
    have := h y hy
    simpa using this
  · intro h i _
    by_cases e : i = y
    · subst e; simp [h]
    · simp [e]

