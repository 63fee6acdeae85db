
-- Integer.bitCount of a set of places
theorem nx_and (a b : Nat) : nI a &&& nI b = nI (a &&& b) := by
  apply Int32.toBitVec_inj.1
  show BitVec.ofNat 32 a &&& BitVec.ofNat 32 b = BitVec.ofNat 32 (a &&& b)
  apply BitVec.eq_of_getLsbD_eq
  intro i hi
  simp [hi]
def cnt (f : Nat → Bool) : Nat := sumN 16 (fun i => one (f i))
def ush (x : Int32) (j : Int32) : Int32 := (x.toUInt32 >>> (j.toUInt32 &&& Int32.toUInt32 31)).toInt32
def bcI (x : Int32) : Int32 :=
  let a := x - (ush x 1 &&& 1431655765)
  let b := (a &&& 858993459) + (ush a 2 &&& 858993459)
  let c := (b + ush b 4) &&& 252645135
  let d := c + ush c 8
  let e := d + ush d 16
  e &&& 63
def bcA (v : Nat) : Nat := v - ((v >>> 1) &&& 1431655765)
def bcB (a : Nat) : Nat := (a &&& 858993459) + ((a >>> 2) &&& 858993459)
def bcC (b : Nat) : Nat := (b + (b >>> 4)) &&& 252645135
def bcD (c : Nat) : Nat := c + (c >>> 8)
def bcE (d : Nat) : Nat := d + (d >>> 16)
def popN (v : Nat) : Nat := v % 2 + v / 2 % 2 + v / 4 % 2 + v / 8 % 2 + v / 16 % 2 + v / 32 % 2 + v / 64 % 2 + v / 128 % 2 + v / 256 % 2 + v / 512 % 2 + v / 1024 % 2 + v / 2048 % 2 + v / 4096 % 2 + v / 8192 % 2 + v / 16384 % 2 + v / 32768 % 2
def bcN (v : Nat) : Nat := (bcE (bcD (bcC (bcB (bcA v))))) &&& 63
def allN : Nat → (Nat → Bool) → Bool
  | 0, _ => true
  | n + 1, p => p n && allN n p
theorem allN_use {p : Nat → Bool} : ∀ n, allN n p = true → ∀ i, i < n → p i = true := by
  intro n
  induction n with
  | zero => intro _ i hi; omega
  | succ n ih =>
    intro h i hi
    simp only [allN, Bool.and_eq_true] at h
    by_cases e : i = n
    · subst e; exact h.1
    · exact ih h.2 i (by omega)
def bcChk (c : Nat) : Bool := allN 16 (fun a => allN 256 (fun b => Nat.beq (bcN ((c * 16 + a) * 256 + b)) (popN ((c * 16 + a) * 256 + b))))
theorem bc_0 : bcChk 0 = true := by decide +kernel
theorem bc_1 : bcChk 1 = true := by decide +kernel
theorem bc_2 : bcChk 2 = true := by decide +kernel
theorem bc_3 : bcChk 3 = true := by decide +kernel
theorem bc_4 : bcChk 4 = true := by decide +kernel
theorem bc_5 : bcChk 5 = true := by decide +kernel
theorem bc_6 : bcChk 6 = true := by decide +kernel
theorem bc_7 : bcChk 7 = true := by decide +kernel
theorem bc_8 : bcChk 8 = true := by decide +kernel
theorem bc_9 : bcChk 9 = true := by decide +kernel
theorem bc_10 : bcChk 10 = true := by decide +kernel
theorem bc_11 : bcChk 11 = true := by decide +kernel
theorem bc_12 : bcChk 12 = true := by decide +kernel
theorem bc_13 : bcChk 13 = true := by decide +kernel
theorem bc_14 : bcChk 14 = true := by decide +kernel
theorem bc_15 : bcChk 15 = true := by decide +kernel
theorem bc_all : ∀ c, c < 16 → bcChk c = true := by
  intro c hc
  match c, hc with
  | 0, _ => exact bc_0
  | 1, _ => exact bc_1
  | 2, _ => exact bc_2
  | 3, _ => exact bc_3
  | 4, _ => exact bc_4
  | 5, _ => exact bc_5
  | 6, _ => exact bc_6
  | 7, _ => exact bc_7
  | 8, _ => exact bc_8
  | 9, _ => exact bc_9
  | 10, _ => exact bc_10
  | 11, _ => exact bc_11
  | 12, _ => exact bc_12
  | 13, _ => exact bc_13
  | 14, _ => exact bc_14
  | 15, _ => exact bc_15
  | c + 16, h => exact absurd h (by omega)
theorem bcN_pop {v : Nat} (hv : v < 65536) : bcN v = popN v := by
  have h1 := allN_use _ (bc_all (v / 4096) (by omega)) (v / 256 % 16) (by omega)
  have h2 := allN_use _ h1 (v % 256) (by omega)
  have e : (v / 4096 * 16 + v / 256 % 16) * 256 + v % 256 = v := by omega
  rw [e] at h2
  exact Nat.eq_of_beq_eq_true h2
theorem bt_nI {k i : Nat} (hi : i < 32) : bt (nI k) i = k.testBit i := by
  unfold bt
  show (BitVec.ofNat 32 k).getLsbD i = _
  rw [BitVec.getLsbD_ofNat]
  simp [hi]
theorem ush_nI {k j : Nat} (hk : k < 2 ^ 32) (hj : j < 32) : ush (nI k) (nI j) = nI (k >>> j) := b_ext fun i hi => by
  unfold ush
  rw [b_ushr j hj, bt_nI hi, Nat.testBit_shiftRight]
  by_cases q : j + i < 32
  · rw [bt_nI q]
  · rw [b_big (by omega), Nat.testBit_lt_two_pow (Nat.lt_of_lt_of_le hk (Nat.pow_le_pow_right (by omega) (by omega)))]
theorem bcI_nI {v : Nat} (hv : v < 65536) : bcI (nI v) = nI (popN v) := by
  have h2 : (v >>> 1) &&& 1431655765 ≤ v := Nat.le_trans Nat.and_le_left (Nat.shiftRight_le v 1)
  have hA : bcA v < 65536 := by unfold bcA; omega
  have hB : bcB (bcA v) < 131072 := by
    have q1 : bcA v &&& 858993459 ≤ bcA v := Nat.and_le_left
    have q2 : (bcA v >>> 2) &&& 858993459 ≤ bcA v >>> 2 := Nat.and_le_left
    have q3 := Nat.shiftRight_le (bcA v) 2
    unfold bcB
    omega
  have hC : bcC (bcB (bcA v)) < 262144 := by
    have q1 : (bcB (bcA v) + (bcB (bcA v) >>> 4)) &&& 252645135 ≤ bcB (bcA v) + (bcB (bcA v) >>> 4) := Nat.and_le_left
    have q2 := Nat.shiftRight_le (bcB (bcA v)) 4
    unfold bcC
    omega
  have hD : bcD (bcC (bcB (bcA v))) < 524288 := by
    have q2 := Nat.shiftRight_le (bcC (bcB (bcA v))) 8
    unfold bcD
    omega
  have e1 : nI v - (ush (nI v) 1 &&& 1431655765) = nI (bcA v) := by
    show nI v - (ush (nI v) (nI 1) &&& nI 1431655765) = _
    rw [ush_nI (by omega) (by omega), nx_and, nI_sub h2]; rfl
  have e2 : (nI (bcA v) &&& 858993459) + (ush (nI (bcA v)) 2 &&& 858993459) = nI (bcB (bcA v)) := by
    show (nI (bcA v) &&& nI 858993459) + (ush (nI (bcA v)) (nI 2) &&& nI 858993459) = _
    rw [ush_nI (by omega) (by omega), nx_and, nx_and, nI_add]; rfl
  have e3 : (nI (bcB (bcA v)) + ush (nI (bcB (bcA v))) 4) &&& 252645135 = nI (bcC (bcB (bcA v))) := by
    show (nI (bcB (bcA v)) + ush (nI (bcB (bcA v))) (nI 4)) &&& nI 252645135 = _
    rw [ush_nI (by omega) (by omega), nI_add, nx_and]; rfl
  have e4 : nI (bcC (bcB (bcA v))) + ush (nI (bcC (bcB (bcA v)))) 8 = nI (bcD (bcC (bcB (bcA v)))) := by
    show nI (bcC (bcB (bcA v))) + ush (nI (bcC (bcB (bcA v)))) (nI 8) = _
    rw [ush_nI (by omega) (by omega), nI_add]; rfl
  have e5 : nI (bcD (bcC (bcB (bcA v)))) + ush (nI (bcD (bcC (bcB (bcA v))))) 16 = nI (bcE (bcD (bcC (bcB (bcA v))))) := by
    show nI (bcD (bcC (bcB (bcA v)))) + ush (nI (bcD (bcC (bcB (bcA v))))) (nI 16) = _
    rw [ush_nI (by omega) (by omega), nI_add]; rfl
  unfold bcI
  simp only [e1, e2, e3, e4, e5]
  show _ &&& nI 63 = _
  rw [nx_and, ← bcN_pop hv]; rfl
theorem S_val (f : Nat → Bool) : ∃ v, v < 65536 ∧ S f = nI v ∧ ∀ i, i < 16 → v.testBit i = f i := by
  refine ⟨(S f).toBitVec.toNat, ?_, ?_, ?_⟩
  · show _ < 2 ^ 16
    apply Nat.lt_pow_two_of_testBit
    intro i hi
    show bt (S f) i = false
    by_cases q : i < 32
    · rw [b_S f q]
      have : ¬ i < 16 := by omega
      simp [this]
    · exact b_big (by omega)
  · exact Int32.toBitVec_inj.mp (by show _ = BitVec.ofNat 32 _; simp)
  · intro i hi
    show bt (S f) i = f i
    rw [b_S f (by omega)]
    simp [hi]
theorem tb_mod (v i : Nat) : v / 2 ^ i % 2 = one (v.testBit i) := by
  rw [Nat.testBit_eq_decide_div_mod_eq]
  by_cases h : v / 2 ^ i % 2 = 1
  · simp [one, h]
  · have : v / 2 ^ i % 2 = 0 := by omega
    simp [one, this]
theorem popN_cnt {v : Nat} {f : Nat → Bool} (h : ∀ i, i < 16 → v.testBit i = f i) : popN v = cnt f := by
  have e : ∀ i, i < 16 → v / 2 ^ i % 2 = one (f i) := fun i hi => by rw [tb_mod, h i hi]
  have e0 := e 0 (by omega)
  rw [Nat.pow_zero, Nat.div_one] at e0
  unfold popN cnt
  simp only [sumN]
  rw [← e0, ← e 1 (by omega), ← e 2 (by omega), ← e 3 (by omega), ← e 4 (by omega), ← e 5 (by omega), ← e 6 (by omega), ← e 7 (by omega), ← e 8 (by omega), ← e 9 (by omega), ← e 10 (by omega), ← e 11 (by omega), ← e 12 (by omega), ← e 13 (by omega), ← e 14 (by omega), ← e 15 (by omega)]
  simp
theorem bcI_S (f : Nat → Bool) : bcI (S f) = nI (cnt f) := by
  obtain ⟨v, h1, h2, h3⟩ := S_val f
  rw [h2, bcI_nI h1, popN_cnt h3]
theorem cnt_1 {f : Nat → Bool} {x : Nat} (hx : x < 16) (hf : f x = true) : cnt f = 1 ↔ ∀ i, i < 16 → f i = true → i = x := by
  constructor
  · intro h i hi h2
    by_cases e : i = x
    · exact e
    · exfalso
      have two : ∀ n, (∀ a b, a < n → b < n → a ≠ b → f a = true → f b = true → 2 ≤ sumN n (fun i => one (f i))) := by
        intro n
        induction n with
        | zero => intro a b ha; omega
        | succ n ih =>
          intro a b ha hb hab h1 h2
          simp only [sumN]
          by_cases ea : a = n
          · subst ea
            have := sumN_pos (n := a) (f := fun i => one (f i)) |>.mpr ⟨b, by omega, one_pos.mpr h2⟩
            have : 0 < one (f a) := one_pos.mpr h1
            omega
          · by_cases eb : b = n
            · subst eb
              have := sumN_pos (n := b) (f := fun i => one (f i)) |>.mpr ⟨a, by omega, one_pos.mpr h1⟩
              have : 0 < one (f b) := one_pos.mpr h2
              omega
            · have := ih a b (by omega) (by omega) hab h1 h2
              omega
      have := two 16 i x hi hx e h2 hf
      unfold cnt at h
      omega
  · intro h
    have key : ∀ n, x < n → n ≤ 16 → sumN n (fun i => one (f i)) = 1 := by
      intro n
      induction n with
      | zero => intro q; omega
      | succ n ih =>
        intro h1 h2
        simp only [sumN]
        by_cases e : x = n
        · subst e
          rw [sumN_congr (g := fun _ => 0) (fun i hi => by
            cases q : f i
            · rfl
            · exact absurd (h i (by omega) q) (by omega)), sumN_zero, hf]
          rfl
        · rw [ih (by omega) (by omega)]
          cases q : f n
          · rfl
          · exact absurd (h n (by omega) q).symm e
    exact key 16 hx (Nat.le_refl _)

