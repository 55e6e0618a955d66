/-! cases -/
section C07
variable {X : Cx} {xs : Nat → Int32} {Ls b i : Nat} {v1 v2 v3 v4 : Option Nat} {g : GM}
theorem p_07 (hin : ∀ j : Nat, j < 7 → vp_in (Int32.ofNat (7 * i) + Int32.ofNat j) Ls) (h : LIv X v1 v2 v3 v4 g) : w_law_7 X xs Ls b (LIv X v1 v2 v3 v4) v1 v2 v3 v4 (Int32.ofNat (7 * i)) g := by
  obtain ⟨A, σ, W, hx, P, rfl, rfl, rfl, rfl, rfl⟩ := h
  have Q := P.1
  have u1 : vp_in (Int32.ofNat (7 * i) + 1) Ls := hin 1 (by decide)
  have hs : gV σ 8 23 0 = gV σ 7 7 0 := P.2.1.2.2.1
  unfold w_law_7 w_L_setSize w_X7_setSize w_X8_setSize w_X8_setSize_b17 w_X8_thrown w_L_law_b779
  generalize xs (Int32.ofNat (7 * i) + 1).toNatClampNeg = v
  by_cases hc : v < 1 ∨ 500 < v
  · simp (config := { decide := true, maxSteps := 1000000 }) only [u1, q_out, q_in, if_pos hc, true_and, and_true, if_true, if_false, reduceIte, and_self, false_and, and_false, or_false, false_or, true_or, or_true, not_true_eq_false, not_false_eq_true, ne_eq, e_Is, e_GetI, e_GetF, e_PutI, e_PutF, e_PutR, e_Ald, e_Ast, e_Aldq, e_AldJ, e_AstJ, e_AldD, e_AstD, gL_sV, gV_sV, gR_sV, gN_sV, gJ_sV, gD_sV, gL_sR, gV_sR, gR_sR, gN_sR, gJ_sR, gD_sR, gL_sJ, gV_sJ, gR_sJ, gN_sJ, gJ_sJ, gL_sD, gV_sD, gR_sD, gN_sD, gD_sD, hr_0, hr_s, WF_sV, WF_sJ, WF_sD, gL_sF, gV_sF, gR_sF, gN_sF, gL_sG, gV_sG, gR_sG, gN_sG, WF_sF, eR_1_2, eR_1_5, eR_1_6, eR_2_3, eR_3_2, eR_4_1, eR_6_0, eR_9_0, eR_20_0, eR_22_0, sL_7, sL_8, sL_60, sL_61, sN_60, sN_61, s7_0, s7_1, s7_2, s7_3, s7_4, s7_5, s7_6, sL_100, s8_0, sN_100, sL_101, s8_1, sN_101, sL_102, s8_2, sN_102, sL_103, s8_3, sN_103, sL_104, s8_4, sN_104, sL_105, s8_5, sN_105, sL_107, s8_7, sN_107, sL_108, s8_8, sN_108, sL_109, s8_9, sN_109, sL_110, s8_10, sN_110, sL_111, s8_11, sN_111, sL_112, s8_12, sN_112, sL_113, s8_13, sN_113, sL_114, s8_14, sN_114, sL_115, s8_15, sN_115, sL_116, s8_16, sN_116, sL_117, s8_17, sN_117, sL_118, s8_18, sN_118, sL_119, s8_19, sN_119, sL_120, s8_20, sN_120, sL_127, s8_27, sN_127, sL_128, s8_28, sN_128, sL_129, s8_29, sN_129, sL_130, s8_30, sN_130, sL_132, s8_32, sN_132, P0_sV, P0_sJ, P0_sD, W, Q, cmpS, hs]
    refine LIv_of ?_ hx ?_
    · exact W
    · exact P
  · simp (config := { decide := true, maxSteps := 1000000 }) only [u1, q_out, q_in, if_neg hc, true_and, and_true, if_true, if_false, reduceIte, and_self, false_and, and_false, or_false, false_or, true_or, or_true, not_true_eq_false, not_false_eq_true, ne_eq, e_Is, e_GetI, e_GetF, e_PutI, e_PutF, e_PutR, e_Ald, e_Ast, e_Aldq, e_AldJ, e_AstJ, e_AldD, e_AstD, gL_sV, gV_sV, gR_sV, gN_sV, gJ_sV, gD_sV, gL_sR, gV_sR, gR_sR, gN_sR, gJ_sR, gD_sR, gL_sJ, gV_sJ, gR_sJ, gN_sJ, gJ_sJ, gL_sD, gV_sD, gR_sD, gN_sD, gD_sD, hr_0, hr_s, WF_sV, WF_sJ, WF_sD, gL_sF, gV_sF, gR_sF, gN_sF, gL_sG, gV_sG, gR_sG, gN_sG, WF_sF, eR_1_2, eR_1_5, eR_1_6, eR_2_3, eR_3_2, eR_4_1, eR_6_0, eR_9_0, eR_20_0, eR_22_0, sL_7, sL_8, sL_60, sL_61, sN_60, sN_61, s7_0, s7_1, s7_2, s7_3, s7_4, s7_5, s7_6, sL_100, s8_0, sN_100, sL_101, s8_1, sN_101, sL_102, s8_2, sN_102, sL_103, s8_3, sN_103, sL_104, s8_4, sN_104, sL_105, s8_5, sN_105, sL_107, s8_7, sN_107, sL_108, s8_8, sN_108, sL_109, s8_9, sN_109, sL_110, s8_10, sN_110, sL_111, s8_11, sN_111, sL_112, s8_12, sN_112, sL_113, s8_13, sN_113, sL_114, s8_14, sN_114, sL_115, s8_15, sN_115, sL_116, s8_16, sN_116, sL_117, s8_17, sN_117, sL_118, s8_18, sN_118, sL_119, s8_19, sN_119, sL_120, s8_20, sN_120, sL_127, s8_27, sN_127, sL_128, s8_28, sN_128, sL_129, s8_29, sN_129, sL_130, s8_30, sN_130, sL_132, s8_32, sN_132, P0_sV, P0_sJ, P0_sD, W, Q, cmpS, hs]
    refine LIv_of ?_ hx ?_
    · exact W
    · exact ⟨P.1, ⟨P.2.1.1, P.2.1.2.1, rfl, P.2.1.2.2.2⟩, P.2.2⟩
end C07
