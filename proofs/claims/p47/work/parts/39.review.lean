/-! nextInReview, review -/
theorem nc_45 : narrow .char (.int 45) = .int 45 := rfl
theorem nc_112 : narrow .char (.int 112) = .int 112 := rfl
theorem nc_115 : narrow .char (.int 115) = .int 115 := rfl
theorem gn_97 : gNar .char (.int 97) = True := eq_true ⟨rfl, rfl⟩
theorem gn_114 : gNar .char (.int 114) = True := eq_true ⟨rfl, rfl⟩
theorem x112_45 : ((112 : Int32) = 45) = False := eq_false (by decide)
theorem x115_45 : ((115 : Int32) = 45) = False := eq_false (by decide)
section CJ
variable {X : Cx} {xs : Nat → Int32} {Ls b i : Nat} {v1 v2 v3 v4 : Option Nat} {g : GM}
end CJ
