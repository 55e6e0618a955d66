/-! rate -/
theorem hE_105 : hE 105 = 205 := Eq.trans rfl rfl
theorem hE_127 : hE 127 = 227 := Eq.trans rfl rfl
section CG
variable {X : Cx} {xs : Nat → Int32} {Ls b i : Nat} {v1 v2 v3 v4 : Option Nat} {g : GM}
end CG
