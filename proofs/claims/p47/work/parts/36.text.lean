/-! type, stackAt, lineAt -/
theorem shr0 {n : Nat} (h : n < 2 ^ 31) : nI n >>> ((0 : Int32) &&& 31) = nI n := by
  rw [pk_shrN h _ 0 (by decide)]; simp
theorem nar_c {c : Nat} (h : c < 65536) : vp_nar .char (nI c) = nI c := by
  have h1 := (pk_charN h).1
  exact Value.int.inj (by
    have : narrow .char (.int (nI c)) = .int (vp_nar .char (nI c)) := by
      rw [h1]
      unfold vp_nar
      rw [h1]
    rw [← this, h1])
section CH
variable {X : Cx} {xs : Nat → Int32} {Ls b i : Nat} {v1 v2 v3 v4 : Option Nat} {g : GM}
end CH
