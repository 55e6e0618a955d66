/-! THE INVARIANT between the class's columns and the reference's -/
def sm (f : Nat → Int32) : Nat → Int32
  | 0 => 0
  | n + 1 => sm f n + f n
def marr (f : Nat) : Bool := decide (f < 6) || (decide (7 ≤ f) && decide (f < 21)) || (decide (27 ≤ f) && decide (f < 31)) || decide (f = 32)
def mlen (f : Nat) : Nat := if f < 6 then 12 else if f < 21 then 10 else if f < 31 then 30 else 6
/-- bits p k: the class's and the reference's 'has' -/
def bit1 (p k : Int32) : Prop := (p >>> (k &&& 31)) &&& 1 = 1
/-- a bound by its thousandths -/
def thB (t : Nat) : UInt32 := FP.fdiv (FP.i2f (nI t)) 1148846080
/-- shape -/
def P0 (σ : St) : Prop := (gL σ 7 = 1 ∧ gL σ 8 = 1 ∧ gL σ 60 = 1 ∧ gL σ 61 = 1 ∧ gN σ 60 0 = 1 ∧ gN σ 61 0 = 1) ∧ (gR σ 7 0 0 = 1 ∧ gR σ 7 1 0 = 1 ∧ gR σ 7 2 0 = 1 ∧ gR σ 7 3 0 = 1 ∧ gR σ 7 4 0 = 1 ∧ gR σ 7 5 0 = 2 ∧ gR σ 7 6 0 = 1) ∧ (∀ f, marr f = true → gL σ (100 + f) = 1 ∧ gR σ 8 f 0 = 1 ∧ gN σ (100 + f) 0 = mlen f) ∧ (gL σ 205 = 12 ∧ ∀ d, d < 12 → gN σ 205 d = 10 ∧ gR σ 105 d 0 = d + 1) ∧ (gL σ 227 = 30 ∧ ∀ g, g < 30 → gN σ 227 g = 6 ∧ gR σ 127 g 0 = g + 1)
/-- scalars -/
def P1 (σ : St) : Prop := (gV σ 8 6 0 = nI (gL σ 2) ∧ gV σ 8 21 0 = nI (gL σ 1) ∧ gV σ 8 31 0 = nI (gL σ 4)) ∧ gV σ 8 22 0 = gV σ 7 9 0 ∧ gV σ 8 23 0 = gV σ 7 7 0 ∧ gV σ 8 24 0 = gV σ 7 8 0 ∧ (gV σ 8 25 0 = gV σ 7 10 0 ∧ ∃ t, t ≤ 1000 ∧ gV σ 7 10 0 = (thB t).toInt32) ∧ (gV σ 8 26 0 = gV σ 7 11 0 ∧ ∃ t, t ≤ 9999 ∧ gV σ 7 11 0 = (thB t).toInt32) ∧ gV σ 8 35 0 = gV σ 7 12 0 ∧ gL σ 2 ≤ 12 ∧ gL σ 1 ≤ 10 ∧ gL σ 4 ≤ 30
/-- devices -/
def P2 (σ : St) : Prop := (∀ d, d < gL σ 2 → gV σ 2 0 d = gV σ 100 d 0 ∧ gV σ 2 1 d = gV σ 101 d 0 ∧ gV σ 2 2 d = gV σ 102 d 0 ∧ gV σ 103 d 0 = nI (gR σ 2 3 d) - 1 ∧ gV σ 2 5 d = gV σ 104 d 0 ∧ gV σ 2 4 d = (if gR σ 2 3 d = 0 then 0 else gV σ 205 (gR σ 2 3 d - 1) d)) ∧ (∀ d, d < gL σ 2 → gR σ 2 3 d ≠ 0 → bit1 (gV σ 108 (gR σ 2 3 d - 1) 0) (gV σ 100 d 0) ∧ bit1 (gV σ 109 (gR σ 2 3 d - 1) 0) (gV σ 101 d 0)) ∧ ((∀ d, gL σ 2 ≤ d → gV σ 104 d 0 = 0) ∧ ∀ d, ∃ m, m < 256 ∧ gV σ 104 d 0 = nI m) ∧ (∀ d b, gL σ 2 ≤ d ∨ gL σ 1 ≤ b → gV σ 205 b d = 0) ∧ (∀ d b, d < gL σ 2 → b < gL σ 1 → gV σ 205 b d ≠ 0 → gR σ 2 3 d ≠ 0 ∧ gV σ 107 b 0 ≤ gV σ 107 (gR σ 2 3 d - 1) 0) ∧ ∀ d b, ∃ m, m ≤ 5 ∧ gV σ 205 b d = nI m
def stOk (x : Int32) : Prop := x = 100 ∨ x = 119 ∨ x = 114 ∨ x = 97
/-- builds -/
def P3 (σ : St) : Prop := (∀ b, b < gL σ 1 → gV σ 1 0 b = nI b ∧ gV σ 1 1 b = gV σ 107 b 0 ∧ gV σ 1 3 b = gV σ 110 b 0 ∧ gV σ 1 4 b = gV σ 111 b 0 ∧ gV σ 113 b 0 = nI (gR σ 1 5 b) - 1 ∧ gR σ 1 5 b ≤ b ∧ gR σ 1 6 b = b + 1) ∧ (∀ b, b < gL σ 1 → 1 ≤ gR σ 1 2 b ∧ gV σ 5 0 (gR σ 1 2 b - 1) = gV σ 108 b 0 ∧ gV σ 5 1 (gR σ 1 2 b - 1) = gV σ 109 b 0 ∧ gV σ 5 2 (gR σ 1 2 b - 1) = gV σ 112 b 0) ∧ (∀ b, b < gL σ 1 → gV σ 1 7 b = gV σ 114 b 0 ∧ stOk (gV σ 114 b 0) ∧ gV σ 1 8 b = gV σ 116 b 0 ∧ gV σ 1 9 b = gV σ 115 b 0 ∧ gV σ 1 10 b = gV σ 117 b 0 ∧ gV σ 1 11 b = gV σ 118 b 0 ∧ gV σ 1 12 b = gV σ 119 b 0 ∧ gV σ 1 13 b = gV σ 120 b 0) ∧ (∀ b, b < gL σ 1 → gV σ 1 14 b = sm (fun d => if 0 < gV σ 205 b d then 1 else 0) (gL σ 2) ∧ gV σ 1 15 b = sm (fun d => gV σ 205 b d) (gL σ 2)) ∧ (∀ b, b < gL σ 1 → gR σ 1 5 b ≠ 0 → gV σ 108 b 0 = gV σ 108 (gR σ 1 5 b - 1) 0 ∧ gV σ 109 b 0 = gV σ 109 (gR σ 1 5 b - 1) 0) ∧ (∀ b, b < gL σ 1 → (∃ p, p ≤ 100 ∧ gV σ 117 b 0 = nI p) ∧ ∃ p, p ≤ 100 ∧ gV σ 118 b 0 = nI p) ∧ ((∀ b b', b < gL σ 1 → b' < gL σ 1 → gV σ 107 b 0 = gV σ 107 b' 0 → b = b') ∧ ∀ b, b < gL σ 1 → ∃ m, 1 ≤ m ∧ m ≤ 999 ∧ gV σ 107 b 0 = nI m) ∧ ∀ b, gL σ 1 ≤ b → gV σ 115 b 0 = 0 ∧ gV σ 116 b 0 = 0 ∧ gV σ 117 b 0 = 0 ∧ gV σ 118 b 0 = 0 ∧ gV σ 119 b 0 = 0 ∧ gV σ 120 b 0 = 0
/-- groups and stacks -/
def P4 (σ : St) : Prop := (gL σ 6 = gL σ 4 + 2 ∧ gL σ 16 = gL σ 4 + 2 ∧ ∀ i, i < gL σ 4 + 2 → gR σ 6 0 i = i + 1 ∧ gN σ 16 i = 6) ∧ (∀ g, g < gL σ 4 → gV σ 4 0 g = nI g ∧ gR σ 4 1 g = g + 3 ∧ gV σ 4 2 g = gV σ 129 g 0 ∧ gV σ 4 3 g = gV σ 130 g 0) ∧ (∀ g, g < gL σ 4 → ∃ n, 1 ≤ n ∧ n ≤ 6 ∧ gV σ 6 1 (g + 2) = nI n ∧ gV σ 128 g 0 = nI n ∧ ∀ j, j < n → gV σ 16 j (g + 2) = gV σ 227 j g ∧ ∃ c, c < 65536 ∧ gV σ 227 j g = nI c) ∧ (∃ n, n ≤ 6 ∧ gV σ 6 1 0 = nI n ∧ gV σ 8 33 0 = nI n ∧ ∀ j, j < n → gV σ 16 j 0 = gV σ 132 j 0 ∧ ∃ c, c < 65536 ∧ gV σ 132 j 0 = nI c) ∧ ∀ g, gL σ 4 ≤ g → gV σ 129 g 0 = 0 ∧ gV σ 130 g 0 = 0
/-- counts by bucket -/
def P5 (σ : St) : Prop := (gL σ 20 = gL σ 1 ∧ gL σ 21 = gL σ 1 ∧ gL σ 22 = gL σ 3 ∧ gL σ 23 = gL σ 3 ∧ gL σ 3 ≤ gL σ 2) ∧ (∀ b, b < gL σ 1 → gR σ 20 0 b = b + 1 ∧ gN σ 21 b = 101 ∧ gV σ 20 1 b = sm (fun d => if gR σ 2 3 d = b + 1 then 1 else 0) (gL σ 2) ∧ ∀ j, j ≤ 100 → gV σ 21 j b = sm (fun d => if gR σ 2 3 d = b + 1 ∧ gV σ 2 2 d < nI j then 1 else 0) (gL σ 2)) ∧ (∀ i, i < gL σ 3 → gR σ 3 2 i = i + 1 ∧ gR σ 22 0 i = i + 1 ∧ gN σ 23 i = 101 ∧ ∀ j, j ≤ 100 → gV σ 23 j i = sm (fun d => if (gV σ 2 0 d = gV σ 3 0 i ∧ gV σ 2 1 d = gV σ 3 1 i) ∧ gV σ 2 2 d < nI j then 1 else 0) (gL σ 2)) ∧ (∀ i i', i < gL σ 3 → i' < gL σ 3 → gV σ 3 0 i = gV σ 3 0 i' → gV σ 3 1 i = gV σ 3 1 i' → i = i') ∧ ∀ d, d < gL σ 2 → ∃ i, i < gL σ 3 ∧ gV σ 2 0 d = gV σ 3 0 i ∧ gV σ 2 1 d = gV σ 3 1 i
/-- the text -/
def P6 (σ : St) : Prop := ∃ v0 n, 0 < gL σ 9 ∧ gR σ 9 0 0 = v0 + 1 ∧ v0 < gL σ 50 ∧ gV σ 9 1 0 = 0 ∧ gV σ 9 3 0 = nI n ∧ n ≤ gN σ 50 v0 ∧ gN σ 50 v0 ≤ 64 ∧ 16 ≤ gN σ 50 v0 ∧ n ≤ 30 ∧ ∀ j w, fits .byte (.int (gV σ 50 j w)) = true
def P7 (σ : St) : Prop := Lst σ 30 (gL σ 2) ∧ Lst σ 31 (gL σ 3) ∧ Lst σ 32 (gL σ 1) ∧ Lst σ 33 (gL σ 4)
def PI (σ : St) : Prop := P0 σ ∧ P1 σ ∧ P2 σ ∧ P3 σ ∧ P4 σ ∧ P5 σ ∧ P6 σ ∧ P7 σ
/-- the object o of the class stands in the ghost heap g, in the state σ -/
def SD (X : Cx) (o : Option Nat) (σ : St) (g : GM) : Prop := ∃ A : Ad, WF A σ ∧ hX X A ∧ o = some (A.1 7 0) ∧ g = hp A σ
/-! leaves -/
section LV
variable {X : Cx} {px : String → GM → Prop} {g : GM}
theorem nb0 : narrow .boolean (.int 0) = .int 0 := rfl
theorem nb1 : narrow .boolean (.int 1) = .int 1 := rfl
theorem le_lt {a b : Int32} : a ≤ b ↔ ¬ b < a := by
  rw [Int32.le_iff_toInt_le, Int32.lt_iff_toInt_lt]; omega
theorem q_out {post : Int32 → GM → Prop} {v a b : Int32} : w_X7_outside X post px v a b g = post (if v < a ∨ b < v then 1 else 0) g := by
  unfold w_X7_outside w_X7_outside_b10 w_X7_outside_b15
  rw [p_and nb0, p_and nb1]
  by_cases h1 : v < a
  · rw [if_pos h1, if_pos (Or.inl h1)]
  · rw [if_neg h1]
    by_cases h2 : b < v
    · rw [if_neg (fun z => le_lt.mp z h2), if_pos (Or.inr h2)]
    · rw [if_pos (le_lt.mpr h2), if_neg (fun z => z.elim h1 h2)]
theorem cmpS (x : Int64) : lg_cmp x x = 0 := by
  unfold lg_cmp; simp
end LV
theorem i10 : ¬ (1 : Int32) = 0 := by decide
theorem i00 : (0 : Int32) ≤ 0 := by decide
theorem i01 : ¬ (1 : Int32) ≤ 0 := by decide
theorem ii_0_1 : ((0 : Int32) = 1) = False := eq_false (by decide)
theorem ii_0_2 : ((0 : Int32) = 2) = False := eq_false (by decide)
theorem ii_0_3 : ((0 : Int32) = 3) = False := eq_false (by decide)
theorem ii_0_4 : ((0 : Int32) = 4) = False := eq_false (by decide)
theorem ii_1_0 : ((1 : Int32) = 0) = False := eq_false (by decide)
theorem ii_1_2 : ((1 : Int32) = 2) = False := eq_false (by decide)
theorem ii_1_3 : ((1 : Int32) = 3) = False := eq_false (by decide)
theorem ii_1_4 : ((1 : Int32) = 4) = False := eq_false (by decide)
theorem il_1 : ((1 : Int32) ≤ 0) = False := eq_false (by decide)
theorem ii_2_0 : ((2 : Int32) = 0) = False := eq_false (by decide)
theorem ii_2_1 : ((2 : Int32) = 1) = False := eq_false (by decide)
theorem ii_2_3 : ((2 : Int32) = 3) = False := eq_false (by decide)
theorem ii_2_4 : ((2 : Int32) = 4) = False := eq_false (by decide)
theorem il_2 : ((2 : Int32) ≤ 0) = False := eq_false (by decide)
theorem ii_3_0 : ((3 : Int32) = 0) = False := eq_false (by decide)
theorem ii_3_1 : ((3 : Int32) = 1) = False := eq_false (by decide)
theorem ii_3_2 : ((3 : Int32) = 2) = False := eq_false (by decide)
theorem ii_3_4 : ((3 : Int32) = 4) = False := eq_false (by decide)
theorem il_3 : ((3 : Int32) ≤ 0) = False := eq_false (by decide)
theorem ii_4_0 : ((4 : Int32) = 0) = False := eq_false (by decide)
theorem ii_4_1 : ((4 : Int32) = 1) = False := eq_false (by decide)
theorem ii_4_2 : ((4 : Int32) = 2) = False := eq_false (by decide)
theorem ii_4_3 : ((4 : Int32) = 3) = False := eq_false (by decide)
theorem il_4 : ((4 : Int32) ≤ 0) = False := eq_false (by decide)
theorem il_0 : ((0 : Int32) ≤ 0) = True := eq_true (by decide)
theorem ie_0_1 : ("java/lang/IllegalArgumentException" = "java/lang/IllegalStateException") = False := eq_false (by decide)
theorem ie_0_2 : ("java/lang/IllegalArgumentException" = "java/util/NoSuchElementException") = False := eq_false (by decide)
theorem ie_0_3 : ("java/lang/IllegalArgumentException" = "java/lang/UnsupportedOperationException") = False := eq_false (by decide)
theorem ie_0_4 : ("java/lang/IllegalArgumentException" = "java/lang/IndexOutOfBoundsException") = False := eq_false (by decide)
theorem ie_0_5 : ("java/lang/IllegalArgumentException" = "java/lang/ArithmeticException") = False := eq_false (by decide)
theorem ie_1_0 : ("java/lang/IllegalStateException" = "java/lang/IllegalArgumentException") = False := eq_false (by decide)
theorem ie_1_2 : ("java/lang/IllegalStateException" = "java/util/NoSuchElementException") = False := eq_false (by decide)
theorem ie_1_3 : ("java/lang/IllegalStateException" = "java/lang/UnsupportedOperationException") = False := eq_false (by decide)
theorem ie_1_4 : ("java/lang/IllegalStateException" = "java/lang/IndexOutOfBoundsException") = False := eq_false (by decide)
theorem ie_1_5 : ("java/lang/IllegalStateException" = "java/lang/ArithmeticException") = False := eq_false (by decide)
theorem ie_2_0 : ("java/util/NoSuchElementException" = "java/lang/IllegalArgumentException") = False := eq_false (by decide)
theorem ie_2_1 : ("java/util/NoSuchElementException" = "java/lang/IllegalStateException") = False := eq_false (by decide)
theorem ie_2_3 : ("java/util/NoSuchElementException" = "java/lang/UnsupportedOperationException") = False := eq_false (by decide)
theorem ie_2_4 : ("java/util/NoSuchElementException" = "java/lang/IndexOutOfBoundsException") = False := eq_false (by decide)
theorem ie_2_5 : ("java/util/NoSuchElementException" = "java/lang/ArithmeticException") = False := eq_false (by decide)
theorem ie_3_0 : ("java/lang/UnsupportedOperationException" = "java/lang/IllegalArgumentException") = False := eq_false (by decide)
theorem ie_3_1 : ("java/lang/UnsupportedOperationException" = "java/lang/IllegalStateException") = False := eq_false (by decide)
theorem ie_3_2 : ("java/lang/UnsupportedOperationException" = "java/util/NoSuchElementException") = False := eq_false (by decide)
theorem ie_3_4 : ("java/lang/UnsupportedOperationException" = "java/lang/IndexOutOfBoundsException") = False := eq_false (by decide)
theorem ie_3_5 : ("java/lang/UnsupportedOperationException" = "java/lang/ArithmeticException") = False := eq_false (by decide)
theorem ie_4_0 : ("java/lang/IndexOutOfBoundsException" = "java/lang/IllegalArgumentException") = False := eq_false (by decide)
theorem ie_4_1 : ("java/lang/IndexOutOfBoundsException" = "java/lang/IllegalStateException") = False := eq_false (by decide)
theorem ie_4_2 : ("java/lang/IndexOutOfBoundsException" = "java/util/NoSuchElementException") = False := eq_false (by decide)
theorem ie_4_3 : ("java/lang/IndexOutOfBoundsException" = "java/lang/UnsupportedOperationException") = False := eq_false (by decide)
theorem ie_4_5 : ("java/lang/IndexOutOfBoundsException" = "java/lang/ArithmeticException") = False := eq_false (by decide)
theorem ie_5_0 : ("java/lang/ArithmeticException" = "java/lang/IllegalArgumentException") = False := eq_false (by decide)
theorem ie_5_1 : ("java/lang/ArithmeticException" = "java/lang/IllegalStateException") = False := eq_false (by decide)
theorem ie_5_2 : ("java/lang/ArithmeticException" = "java/util/NoSuchElementException") = False := eq_false (by decide)
theorem ie_5_3 : ("java/lang/ArithmeticException" = "java/lang/UnsupportedOperationException") = False := eq_false (by decide)
theorem ie_5_4 : ("java/lang/ArithmeticException" = "java/lang/IndexOutOfBoundsException") = False := eq_false (by decide)
