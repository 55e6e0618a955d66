/-! submit, appeal -/
theorem nar_b1 : vp_nar .boolean 1 = 1 := by decide
section CI
variable {X : Cx} {xs : Nat → Int32} {Ls b i : Nat} {v1 v2 v3 v4 : Option Nat} {g : GM}
end CI
