/-! what holds a build: the reference's side -/
theorem nc_116 : narrow .char (.int 116) = .int 116 := rfl
section MH
variable {A : Ad} {σ σ' : St} {X : Cx} {px : String → GM → Prop} {post : Int32 → GM → Prop} {b : Nat}
end MH
