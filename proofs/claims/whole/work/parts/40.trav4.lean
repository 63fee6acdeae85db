
-- Traveller: chance (numbers)
section VT4
def lI (a : Nat) : Int64 := Int64.ofNat a
theorem lI_toInt {a : Nat} (h : a < 2 ^ 63) : (lI a).toInt = (a : Int) := Int64.toInt_ofNat_of_lt h
theorem lI_add (a b : Nat) : lI a + lI b = lI (a + b) := (Int64.ofNat_add a b).symm
theorem lI_mul (a b : Nat) : lI a * lI b = lI (a * b) := (Int64.ofNat_mul a b).symm
theorem nI_long {a : Nat} (h : a < 2 ^ 31) : (nI a).toInt64 = lI a := by
  apply Int64.toInt_inj.mp
  rw [Int32.toInt_toInt64, nI_toInt h, lI_toInt (by omega)]
theorem lI_pos {a : Nat} (h0 : 0 < a) (h : a < 2 ^ 63) : (0 : Int64) < lI a := by
  rw [Int64.lt_iff_toInt_lt, lI_toInt h]
  show (0 : Int) < _
  omega
theorem lI_ne0 {a : Nat} (h0 : 0 < a) (h : a < 2 ^ 63) : ¬ lI a = 0 := by
  intro e
  have := congrArg Int64.toInt e
  rw [lI_toInt h] at this
  have z : (0 : Int64).toInt = 0 := by decide
  omega
def odP (R C : Nat) (mk t : Nat → Nat) : Nat → Nat → Nat
  | 0 => fun x => one (atB R C mk (t 0) x)
  | i + 1 => laP R C (atB R C mk (t (i + 1))) (odP R C mk t i) (R * C)
theorem odP_le {R C : Nat} {mk t : Nat → Nat} (h : Sh R C) : ∀ i x, odP R C mk t i x ≤ 192 ^ i := by
  intro i
  induction i with
  | zero => intro x; exact one_le _
  | succ i ih =>
    intro x
    show laP R C _ (odP R C mk t i) (R * C) x ≤ _
    unfold laP
    refine Nat.le_trans (sumN_le (b := 12 * 192 ^ i) fun y _ => ?_) ?_
    · unfold shr
      have a := ih y
      have b : 12 / cnt (nbr R C y) ≤ 12 := Nat.div_le_self _ _
      have c : odP R C mk t i y * (12 / cnt (nbr R C y)) ≤ 192 ^ i * 12 := Nat.mul_le_mul a b
      have d : one (nbr R C y x && atB R C mk (t (i + 1)) x) ≤ 1 := one_le _
      have e := Nat.mul_le_mul d c
      omega
    · have := h.le
      rw [Nat.pow_succ]
      have e : R * C * (12 * 192 ^ i) ≤ 16 * (12 * 192 ^ i) := Nat.mul_le_mul_right _ this
      omega
def chQ (R C : Nat) (mk t : Nat → Nat) (m : Nat) : Int32 := ((100000 : Int64) * lI (sumN 16 (odP R C mk t m)) / lI (R * C * 12 ^ m)).toInt32
end VT4

