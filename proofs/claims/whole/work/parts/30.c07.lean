/-! cases -/
section C07
variable {X : Cx} {xs : Nat → Int32} {Ls b i : Nat} {v1 v2 v3 v4 : Option Nat} {g : GM}
theorem p_07 (hin : ∀ j : Nat, j < 7 → vp_in (Int32.ofNat (7 * i) + Int32.ofNat j) Ls) (h : LIv X v1 v2 v3 v4 g) : w_law_7 X xs Ls b (LIv X v1 v2 v3 v4) v1 v2 v3 v4 (Int32.ofNat (7 * i)) g := by
  obtain ⟨A, σ, W, hx, P, rfl, rfl, rfl, rfl, rfl⟩ := h
  have h7 : 0 < gL σ 7 := by rw [P.1.1.1]; decide
  have h8 : 0 < gL σ 8 := by rw [P.1.1.2.1]; decide
  have h60 : 0 < gL σ 60 := by rw [P.1.1.2.2.1]; decide
  have n60 : 0 < gN σ 60 0 := by rw [P.1.1.2.2.2.2.1]; decide
  have v1' : vp_in (Int32.ofNat (7 * i) + 1) Ls := hin 1 (by decide)
  have hs : gV σ 8 23 0 = gV σ 7 7 0 := P.2.1.2.2.1
  unfold w_law_7 w_L_setSize w_X7_setSize w_X8_setSize w_X8_setSize_b17 w_X8_thrown w_L_law_b779
  generalize xs (Int32.ofNat (7 * i) + 1).toNatClampNeg = v
  by_cases hc : v < 1 ∨ 500 < v
  · simp (config := { decide := true }) only [v1', true_and, q_out, q_in, if_pos hc, if_true, if_false, reduceIte, e_Is, e_PutI, e_GetI, e_AstJ, e_AldJ, W, WF_sV, WF_sJ, gL_sV, gL_sJ, gN_sV, gN_sJ, h7, h8, h60, n60, gV_sV, gV_sJ, gJ_sJ, gJ_sV, cmpS, and_self]
    exact True.intro
  · simp (config := { decide := true }) only [v1', true_and, q_out, q_in, if_neg hc, if_true, if_false, reduceIte, e_Is, e_PutI, e_GetI, e_AstJ, e_AldJ, W, WF_sV, WF_sJ, gL_sV, gL_sJ, gN_sV, gN_sJ, h7, h8, h60, n60, gV_sV, gV_sJ, gJ_sJ, gJ_sV, cmpS, and_self, hs]
    exact True.intro
end C07
