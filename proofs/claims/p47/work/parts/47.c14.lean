/-! holdOf -/
theorem nc_hld (σ : St) (b : Nat) : narrow .char (.int (hld σ b)) = .int (hld σ b) := by
  have h3 : ∀ c s, narrow .char (.int (hld3 c s)) = .int (hld3 c s) := fun c s => by
    unfold hld3
    by_cases h : c < 3
    · rw [if_pos h]; rfl
    · rw [if_neg h]
      by_cases h2 : 0 ≤ Op.cmpValue (FP.dcmp (FP.ddiv (FP.i2d s) (FP.i2d c)) (4612811918334230528 : UInt64)) .g
      · rw [if_pos h2]; rfl
      · rw [if_neg h2]; rfl
  have h2 : ∀ n c r x, narrow .char (.int x) = .int x → narrow .char (.int (hld2 n c r x)) = .int (hld2 n c r x) := fun n c r x hx => by
    unfold hld2
    by_cases h : n < 3
    · rw [if_pos h]; exact hx
    · rw [if_neg h]
      by_cases h2 : Op.cmpValue (FP.fcmp (FP.fdiv (FP.i2f c) (FP.i2f n)) r) .l ≤ 0
      · rw [if_pos h2]; exact hx
      · rw [if_neg h2]; rfl
  unfold hld
  by_cases h : gV σ 1 3 b ≤ gV σ 7 7 0
  · rw [if_pos h]
    by_cases h' : gV σ 1 4 b &&& gV σ 7 8 0 = 0
    · rw [if_pos h']; exact h2 _ _ _ _ (h3 _ _)
    · rw [if_neg h']; rfl
  · rw [if_neg h]; rfl
section CP
variable {X : Cx} {xs : Nat → Int32} {Ls b i : Nat} {v1 v2 v3 v4 : Option Nat} {g : GM}
end CP
