
-- the layout's constant references, symbolic stories and lands, small words
def rfL : List (List (Option Nat)) := [[some 1, some 10, some 11, some 18, some 23, some 28, some 70, some 82, some 86], [some 2, none, none, none, none, none, some 3, some 5], [], [none, none, none, none, none, some 4], [], [some 6, some 7, some 8, some 9], [], [], [], [], [some 11, some 13, some 14, some 15, some 16, some 17], [none, none, none, none, none, some 12], [], [], [], [], [], [], [some 19, some 20, some 21, some 22], [], [], [], [], [some 24, some 25, some 26, some 27], [], [], [], [], [some 29], [], [some 31, some 32, some 33, some 34], [], [], [], [], [some 36, some 37, some 38, some 39], [], [], [], [], [some 41, some 42, some 43, some 44], [], [], [], [], [some 46, some 47, some 48, some 49], [], [], [], [], [some 51, some 52, some 53, some 54], [], [], [], [], [some 56, some 57, some 58, some 59], [], [], [], [], [some 61, some 62, some 63, some 64], [], [], [], [], [some 66, some 67, some 68, some 69], [], [], [], [], [some 71], [some 72, some 77], [some 73, some 74, some 75, some 76], [], [], [], [], [some 78, some 79, some 80, some 81], [], [], [], [], [some 83, some 84, some 85], [], [], [], [some 87, some 88], [], [], [none, some 90, some 91, some 92, some 93, some 94, some 95, none, some 96, none, none, none, some 97, none, none, some 98, some 99, some 100, some 101, some 102, some 103, some 104], [], [], [], [], [], [], [], [], [], [], [], [], [], [], []]
def rf0 (π : Nat → Nat) : Rf := fun k i => if k = 29 then (if i < 8 then some (π i) else none) else (rfL.getD k []).getD i none
def stL : List Nat := [5, 18, 23, 30, 35, 40, 45, 50, 55, 60, 65, 72, 77]
def St (k : Nat) : Prop := k ∈ stL
def La (k : Nat) : Prop := k ∈ [3, 11]
theorem St_kd : ∀ k ∈ stL, kd k = 5 := by decide
theorem St.K {k : Nat} (hs : St k) : kd k = 5 := St_kd k hs
theorem St_kd1 : ∀ k ∈ stL, kd (k + 1) = 10 := by decide
theorem St.K1 {k : Nat} (hs : St k) : kd (k + 1) = 10 := St_kd1 k hs
theorem St_kd2 : ∀ k ∈ stL, kd (k + 2) = 10 := by decide
theorem St.K2 {k : Nat} (hs : St k) : kd (k + 2) = 10 := St_kd2 k hs
theorem St_kd3 : ∀ k ∈ stL, kd (k + 3) = 10 := by decide
theorem St.K3 {k : Nat} (hs : St k) : kd (k + 3) = 10 := St_kd3 k hs
theorem St_kd4 : ∀ k ∈ stL, kd (k + 4) = 10 := by decide
theorem St.K4 {k : Nat} (hs : St k) : kd (k + 4) = 10 := St_kd4 k hs
theorem St_ln1 : ∀ k ∈ stL, ln (k + 1) = 16 := by decide
theorem St.ln1 {k : Nat} (hs : St k) : ln (k + 1) = 16 := St_ln1 k hs
theorem St_ln2 : ∀ k ∈ stL, ln (k + 2) = 5 := by decide
theorem St.ln2 {k : Nat} (hs : St k) : ln (k + 2) = 5 := St_ln2 k hs
theorem St_ln3 : ∀ k ∈ stL, ln (k + 3) = 5 := by decide
theorem St.ln3 {k : Nat} (hs : St k) : ln (k + 3) = 5 := St_ln3 k hs
theorem St_ln4 : ∀ k ∈ stL, ln (k + 4) = 25 := by decide
theorem St.ln4 {k : Nat} (hs : St k) : ln (k + 4) = 25 := St_ln4 k hs
theorem St_lt89 : ∀ k ∈ stL, k + 4 < 89 := by decide
theorem St.lt89 {k : Nat} (hs : St k) : k + 4 < 89 := St_lt89 k hs
theorem St.lt {k n : Nat} (hs : St k) (hn : 89 ≤ n) : k < n := by have := hs.lt89; omega
theorem St.lt1 {k n : Nat} (hs : St k) (hn : 89 ≤ n) : k + 1 < n := by have := hs.lt89; omega
theorem St.lt2 {k n : Nat} (hs : St k) (hn : 89 ≤ n) : k + 2 < n := by have := hs.lt89; omega
theorem St.lt3 {k n : Nat} (hs : St k) (hn : 89 ≤ n) : k + 3 < n := by have := hs.lt89; omega
theorem St.lt4 {k n : Nat} (hs : St k) (hn : 89 ≤ n) : k + 4 < n := by have := hs.lt89; omega
theorem La_kd : ∀ k ∈ [3, 11], kd k = 1 := by decide
theorem La.K {k : Nat} (hs : La k) : kd k = 1 := La_kd k hs
theorem La_kd1 : ∀ k ∈ [3, 11], kd (k + 1) = 10 := by decide
theorem La.K1 {k : Nat} (hs : La k) : kd (k + 1) = 10 := La_kd1 k hs
theorem La_ln1 : ∀ k ∈ [3, 11], ln (k + 1) = 6 := by decide
theorem La.ln1 {k : Nat} (hs : La k) : ln (k + 1) = 6 := La_ln1 k hs
theorem La_lt89 : ∀ k ∈ [3, 11], k + 1 < 89 := by decide
theorem La.lt89 {k : Nat} (hs : La k) : k + 1 < 89 := La_lt89 k hs
theorem La.lt {k n : Nat} (hs : La k) (hn : 89 ≤ n) : k < n := by have := hs.lt89; omega
theorem La.lt1 {k n : Nat} (hs : La k) (hn : 89 ≤ n) : k + 1 < n := by have := hs.lt89; omega
theorem rf_ne {π : Nat → Nat} {k : Nat} (h : k ≠ 29) (i : Nat) : rf0 π k i = (rfL.getD k []).getD i none := by simp [rf0, h]
theorem St_r0 : ∀ k ∈ stL, k ≠ 29 ∧ (rfL.getD k []).getD 0 none = some (k + 1) := by decide
theorem St.r0 {π : Nat → Nat} {k : Nat} (hs : St k) : rf0 π k 0 = some (k + 1) := (rf_ne (St_r0 k hs).1 0).trans (St_r0 k hs).2
theorem St_r1 : ∀ k ∈ stL, k ≠ 29 ∧ (rfL.getD k []).getD 1 none = some (k + 2) := by decide
theorem St.r1 {π : Nat → Nat} {k : Nat} (hs : St k) : rf0 π k 1 = some (k + 2) := (rf_ne (St_r1 k hs).1 1).trans (St_r1 k hs).2
theorem St_r2 : ∀ k ∈ stL, k ≠ 29 ∧ (rfL.getD k []).getD 2 none = some (k + 3) := by decide
theorem St.r2 {π : Nat → Nat} {k : Nat} (hs : St k) : rf0 π k 2 = some (k + 3) := (rf_ne (St_r2 k hs).1 2).trans (St_r2 k hs).2
theorem St_r3 : ∀ k ∈ stL, k ≠ 29 ∧ (rfL.getD k []).getD 3 none = some (k + 4) := by decide
theorem St.r3 {π : Nat → Nat} {k : Nat} (hs : St k) : rf0 π k 3 = some (k + 4) := (rf_ne (St_r3 k hs).1 3).trans (St_r3 k hs).2
theorem La_r5 : ∀ k ∈ [3, 11], k ≠ 29 ∧ (rfL.getD k []).getD 5 none = some (k + 1) := by decide
theorem La.r5 {π : Nat → Nat} {k : Nat} (hs : La k) : rf0 π k 5 = some (k + 1) := (rf_ne (La_r5 k hs).1 5).trans (La_r5 k hs).2
def b2i (b : Bool) : Int32 := if b then 1 else 0
theorem b2i_01 (b : Bool) : b2i b = 0 ∨ b2i b = 1 := by cases b <;> simp [b2i]
theorem b2i_nar (b : Bool) : narrow .boolean (.int (b2i b)) = .int (b2i b) := by cases b <;> decide
theorem b2i_eq0 {b : Bool} : b2i b = 0 ↔ b = false := by cases b <;> simp [b2i]
theorem b2i_ne0 {b : Bool} : ¬ b2i b = 0 ↔ b = true := by cases b <;> simp [b2i]
theorem b2i_t {p : Prop} [inst : Decidable p] (h : p) : (1 : Int32) = b2i (decide p) := by simp [b2i, h]
theorem b2i_f {p : Prop} [inst : Decidable p] (h : ¬ p) : (0 : Int32) = b2i (decide p) := by simp [b2i, h]
theorem il_0 : (0 : Int32).toInt = 0 := by decide
theorem il_1 : (1 : Int32).toInt = 1 := by decide
theorem il_2 : (2 : Int32).toInt = 2 := by decide
theorem il_3 : (3 : Int32).toInt = 3 := by decide
theorem il_4 : (4 : Int32).toInt = 4 := by decide
theorem il_5 : (5 : Int32).toInt = 5 := by decide
theorem il_6 : (6 : Int32).toInt = 6 := by decide
theorem il_8 : (8 : Int32).toInt = 8 := by decide
theorem il_9 : (9 : Int32).toInt = 9 := by decide
theorem il_10 : (10 : Int32).toInt = 10 := by decide
theorem il_11 : (11 : Int32).toInt = 11 := by decide
theorem il_12 : (12 : Int32).toInt = 12 := by decide
theorem il_15 : (15 : Int32).toInt = 15 := by decide
theorem il_16 : (16 : Int32).toInt = 16 := by decide
theorem il_26 : (26 : Int32).toInt = 26 := by decide
theorem il_32 : (32 : Int32).toInt = 32 := by decide
theorem il_40 : (40 : Int32).toInt = 40 := by decide
theorem il_44 : (44 : Int32).toInt = 44 := by decide
theorem il_48 : (48 : Int32).toInt = 48 := by decide
theorem il_52 : (52 : Int32).toInt = 52 := by decide
theorem il_53 : (53 : Int32).toInt = 53 := by decide
theorem il_57 : (57 : Int32).toInt = 57 := by decide
theorem il_59 : (59 : Int32).toInt = 59 := by decide
theorem il_126 : (126 : Int32).toInt = 126 := by decide
theorem il_200 : (200 : Int32).toInt = 200 := by decide
theorem il_256 : (256 : Int32).toInt = 256 := by decide
theorem il_4096 : (4096 : Int32).toInt = 4096 := by decide
theorem il_9999 : (9999 : Int32).toInt = 9999 := by decide
theorem il_10000 : (10000 : Int32).toInt = 10000 := by decide
theorem il_66666 : (66666 : Int32).toInt = 66666 := by decide
theorem il_1000000 : (1000000 : Int32).toInt = 1000000 := by decide
theorem il_n1 : (-1 : Int32).toInt = -1 := by decide
theorem il_n2 : (-2 : Int32).toInt = -2 := by decide
theorem il_n4 : (-4 : Int32).toInt = -4 := by decide
theorem uI_of {x v : Int32} {r : Rf} {h : Hp} {lg : Lg} (e : x = v) : uI v r h lg (some (.int x)) r h lg := ⟨by rw [e], rfl, rfl, rfl⟩
theorem qI_of {f : Int32 → Hp → Prop} {x : Int32} {r : Rf} {h : Hp} {lg : Lg} (e : f x h) : qI f r lg (some (.int x)) r h lg := ⟨x, rfl, rfl, rfl, e⟩
theorem qV_of {f : Hp → Prop} {r : Rf} {h : Hp} {lg : Lg} (e : f h) : qV f r lg none r h lg := ⟨rfl, rfl, rfl, e⟩
theorem nI_lit0 : nI 0 = 0 := by decide
theorem nI_lit1 : nI 1 = 1 := by decide
theorem nI_c (x : Int32) (h : ¬ x < 0) : nI x.toNatClampNeg = x := by
  obtain ⟨j, hj, rfl⟩ := nI_of h
  rw [nI_clamp hj]
theorem nI_mul (a b : Nat) : nI a * nI b = nI (a * b) := (Int32.ofNat_mul a b).symm
theorem nI_sub {a b : Nat} (h : b ≤ a) : nI a - nI b = nI (a - b) := by
  obtain ⟨c, rfl⟩ : ∃ c, a = c + b := ⟨a - b, by omega⟩
  rw [← nI_add, Nat.add_sub_cancel]
  simp

