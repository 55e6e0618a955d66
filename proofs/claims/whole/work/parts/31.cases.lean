/-! cases -/
section CA
variable {X : Cx} {xs : Nat → Int32} {Ls b i : Nat} {v1 v2 v3 v4 : Option Nat} {g : GM}
theorem p_08 (hin : ∀ j : Nat, j < 7 → vp_in (Int32.ofNat (7 * i) + Int32.ofNat j) Ls) (h : LIv X v1 v2 v3 v4 g) : w_law_8 X xs Ls b (LIv X v1 v2 v3 v4) v1 v2 v3 v4 (Int32.ofNat (7 * i)) g := by
  obtain ⟨A, σ, W, hx, P, rfl, rfl, rfl, rfl, rfl⟩ := h
  have Q := P.1
  have u1 : vp_in (Int32.ofNat (7 * i) + 1) Ls := hin 1 (by decide)
  have hs : gV σ 8 24 0 = gV σ 7 8 0 := P.2.1.2.2.2.1
  unfold w_law_8
  generalize xs (Int32.ofNat (7 * i) + 1).toNatClampNeg = v
  by_cases hc : v < 0 ∨ 15 < v
  · simp (config := { decide := true, maxSteps := 1000000 }) only [w_law_8, w_L_law_b835, w_L_setBarred, w_X7_setBarred, w_X8_setBarred_b16, w_X8_setBarred, w_X8_thrown, u1, q_out, q_in, if_pos hc, true_and, and_true, if_true, if_false, reduceIte, and_self, false_and, and_false, or_false, false_or, true_or, or_true, not_true_eq_false, not_false_eq_true, ne_eq, e_Is, e_GetI, e_GetF, e_PutI, e_PutF, e_PutR, e_Ald, e_Ast, e_Aldq, e_AldJ, e_AstJ, e_AldD, e_AstD, gL_sV, gV_sV, gR_sV, gN_sV, gJ_sV, gD_sV, gL_sR, gV_sR, gR_sR, gN_sR, gJ_sR, gD_sR, gL_sJ, gV_sJ, gR_sJ, gN_sJ, gJ_sJ, gL_sD, gV_sD, gR_sD, gN_sD, gD_sD, hr_0, hr_s, WF_sV, WF_sJ, WF_sD, gL_sF, gV_sF, gR_sF, gN_sF, gL_sG, gV_sG, gR_sG, gN_sG, WF_sF, eR_1_2, eR_1_5, eR_1_6, eR_2_3, eR_3_2, eR_4_1, eR_6_0, eR_9_0, eR_20_0, eR_22_0, sL_7, sL_8, sL_60, sL_61, sN_60, sN_61, s7_0, s7_1, s7_2, s7_3, s7_4, s7_5, s7_6, sL_100, s8_0, sN_100, sL_101, s8_1, sN_101, sL_102, s8_2, sN_102, sL_103, s8_3, sN_103, sL_104, s8_4, sN_104, sL_105, s8_5, sN_105, sL_107, s8_7, sN_107, sL_108, s8_8, sN_108, sL_109, s8_9, sN_109, sL_110, s8_10, sN_110, sL_111, s8_11, sN_111, sL_112, s8_12, sN_112, sL_113, s8_13, sN_113, sL_114, s8_14, sN_114, sL_115, s8_15, sN_115, sL_116, s8_16, sN_116, sL_117, s8_17, sN_117, sL_118, s8_18, sN_118, sL_119, s8_19, sN_119, sL_120, s8_20, sN_120, sL_127, s8_27, sN_127, sL_128, s8_28, sN_128, sL_129, s8_29, sN_129, sL_130, s8_30, sN_130, sL_132, s8_32, sN_132, P0_sV, P0_sJ, P0_sD, W, Q, cmpS, hs]
    refine LIv_of ?_ hx ?_
    · exact W
    · exact P
  · simp (config := { decide := true, maxSteps := 1000000 }) only [w_law_8, w_L_law_b835, w_L_setBarred, w_X7_setBarred, w_X8_setBarred_b16, w_X8_setBarred, w_X8_thrown, u1, q_out, q_in, if_neg hc, true_and, and_true, if_true, if_false, reduceIte, and_self, false_and, and_false, or_false, false_or, true_or, or_true, not_true_eq_false, not_false_eq_true, ne_eq, e_Is, e_GetI, e_GetF, e_PutI, e_PutF, e_PutR, e_Ald, e_Ast, e_Aldq, e_AldJ, e_AstJ, e_AldD, e_AstD, gL_sV, gV_sV, gR_sV, gN_sV, gJ_sV, gD_sV, gL_sR, gV_sR, gR_sR, gN_sR, gJ_sR, gD_sR, gL_sJ, gV_sJ, gR_sJ, gN_sJ, gJ_sJ, gL_sD, gV_sD, gR_sD, gN_sD, gD_sD, hr_0, hr_s, WF_sV, WF_sJ, WF_sD, gL_sF, gV_sF, gR_sF, gN_sF, gL_sG, gV_sG, gR_sG, gN_sG, WF_sF, eR_1_2, eR_1_5, eR_1_6, eR_2_3, eR_3_2, eR_4_1, eR_6_0, eR_9_0, eR_20_0, eR_22_0, sL_7, sL_8, sL_60, sL_61, sN_60, sN_61, s7_0, s7_1, s7_2, s7_3, s7_4, s7_5, s7_6, sL_100, s8_0, sN_100, sL_101, s8_1, sN_101, sL_102, s8_2, sN_102, sL_103, s8_3, sN_103, sL_104, s8_4, sN_104, sL_105, s8_5, sN_105, sL_107, s8_7, sN_107, sL_108, s8_8, sN_108, sL_109, s8_9, sN_109, sL_110, s8_10, sN_110, sL_111, s8_11, sN_111, sL_112, s8_12, sN_112, sL_113, s8_13, sN_113, sL_114, s8_14, sN_114, sL_115, s8_15, sN_115, sL_116, s8_16, sN_116, sL_117, s8_17, sN_117, sL_118, s8_18, sN_118, sL_119, s8_19, sN_119, sL_120, s8_20, sN_120, sL_127, s8_27, sN_127, sL_128, s8_28, sN_128, sL_129, s8_29, sN_129, sL_130, s8_30, sN_130, sL_132, s8_32, sN_132, P0_sV, P0_sJ, P0_sD, W, Q, cmpS, hs]
    refine LIv_of ?_ hx ?_
    · exact W
    · exact ⟨P.1, ⟨P.2.1.1, P.2.1.2.1, P.2.1.2.2.1, rfl, P.2.1.2.2.2.2⟩, P.2.2⟩
theorem p_40 (h : LIv X v1 v2 v3 v4 g) : w_law_40 X xs Ls b (LIv X v1 v2 v3 v4) v1 v2 v3 v4 (Int32.ofNat (7 * i)) g := by
  obtain ⟨A, σ, W, hx, P, rfl, rfl, rfl, rfl, rfl⟩ := h
  have Q := P.1
  have hs : gV σ 8 35 0 = gV σ 7 12 0 := P.2.1.2.2.2.2.2.2.1
  simp (config := { decide := true, maxSteps := 1000000 }) only [w_law_40, w_X7_day, w_X8_day, true_and, and_true, if_true, if_false, reduceIte, and_self, false_and, and_false, or_false, false_or, true_or, or_true, not_true_eq_false, not_false_eq_true, ne_eq, e_Is, e_GetI, e_GetF, e_PutI, e_PutF, e_PutR, e_Ald, e_Ast, e_Aldq, e_AldJ, e_AstJ, e_AldD, e_AstD, gL_sV, gV_sV, gR_sV, gN_sV, gJ_sV, gD_sV, gL_sR, gV_sR, gR_sR, gN_sR, gJ_sR, gD_sR, gL_sJ, gV_sJ, gR_sJ, gN_sJ, gJ_sJ, gL_sD, gV_sD, gR_sD, gN_sD, gD_sD, hr_0, hr_s, WF_sV, WF_sJ, WF_sD, gL_sF, gV_sF, gR_sF, gN_sF, gL_sG, gV_sG, gR_sG, gN_sG, WF_sF, eR_1_2, eR_1_5, eR_1_6, eR_2_3, eR_3_2, eR_4_1, eR_6_0, eR_9_0, eR_20_0, eR_22_0, sL_7, sL_8, sL_60, sL_61, sN_60, sN_61, s7_0, s7_1, s7_2, s7_3, s7_4, s7_5, s7_6, sL_100, s8_0, sN_100, sL_101, s8_1, sN_101, sL_102, s8_2, sN_102, sL_103, s8_3, sN_103, sL_104, s8_4, sN_104, sL_105, s8_5, sN_105, sL_107, s8_7, sN_107, sL_108, s8_8, sN_108, sL_109, s8_9, sN_109, sL_110, s8_10, sN_110, sL_111, s8_11, sN_111, sL_112, s8_12, sN_112, sL_113, s8_13, sN_113, sL_114, s8_14, sN_114, sL_115, s8_15, sN_115, sL_116, s8_16, sN_116, sL_117, s8_17, sN_117, sL_118, s8_18, sN_118, sL_119, s8_19, sN_119, sL_120, s8_20, sN_120, sL_127, s8_27, sN_127, sL_128, s8_28, sN_128, sL_129, s8_29, sN_129, sL_130, s8_30, sN_130, sL_132, s8_32, sN_132, P0_sV, P0_sJ, P0_sD, W, Q, hs]
  refine LIv_of ?_ hx ?_
  · exact W
  · exact P
theorem p_25 (h : LIv X v1 v2 v3 v4 g) : w_law_25 X xs Ls b (LIv X v1 v2 v3 v4) v1 v2 v3 v4 (Int32.ofNat (7 * i)) g := by
  obtain ⟨A, σ, W, hx, P, rfl, rfl, rfl, rfl, rfl⟩ := h
  have Q := P.1
  have hL := P.2.2.2.2.2.2.2.2.2.2
  have hl0 := hL.1
  have hs : gV σ 8 31 0 = nI (gL σ 4) := P.2.1.1.2.2
  have hz : gV σ 33 2 0 = nI (gL σ 4) := hL.2.1
  simp (config := { decide := true, maxSteps := 1000000 }) only [w_law_25, w_X7_groups, w_X8_groups, w_Jx4a65c_size_8abf5, true_and, and_true, if_true, if_false, reduceIte, and_self, false_and, and_false, or_false, false_or, true_or, or_true, not_true_eq_false, not_false_eq_true, ne_eq, e_Is, e_GetI, e_GetF, e_PutI, e_PutF, e_PutR, e_Ald, e_Ast, e_Aldq, e_AldJ, e_AstJ, e_AldD, e_AstD, gL_sV, gV_sV, gR_sV, gN_sV, gJ_sV, gD_sV, gL_sR, gV_sR, gR_sR, gN_sR, gJ_sR, gD_sR, gL_sJ, gV_sJ, gR_sJ, gN_sJ, gJ_sJ, gL_sD, gV_sD, gR_sD, gN_sD, gD_sD, hr_0, hr_s, WF_sV, WF_sJ, WF_sD, gL_sF, gV_sF, gR_sF, gN_sF, gL_sG, gV_sG, gR_sG, gN_sG, WF_sF, eR_1_2, eR_1_5, eR_1_6, eR_2_3, eR_3_2, eR_4_1, eR_6_0, eR_9_0, eR_20_0, eR_22_0, sL_7, sL_8, sL_60, sL_61, sN_60, sN_61, s7_0, s7_1, s7_2, s7_3, s7_4, s7_5, s7_6, sL_100, s8_0, sN_100, sL_101, s8_1, sN_101, sL_102, s8_2, sN_102, sL_103, s8_3, sN_103, sL_104, s8_4, sN_104, sL_105, s8_5, sN_105, sL_107, s8_7, sN_107, sL_108, s8_8, sN_108, sL_109, s8_9, sN_109, sL_110, s8_10, sN_110, sL_111, s8_11, sN_111, sL_112, s8_12, sN_112, sL_113, s8_13, sN_113, sL_114, s8_14, sN_114, sL_115, s8_15, sN_115, sL_116, s8_16, sN_116, sL_117, s8_17, sN_117, sL_118, s8_18, sN_118, sL_119, s8_19, sN_119, sL_120, s8_20, sN_120, sL_127, s8_27, sN_127, sL_128, s8_28, sN_128, sL_129, s8_29, sN_129, sL_130, s8_30, sN_130, sL_132, s8_32, sN_132, P0_sV, P0_sJ, P0_sD, W, Q, hs, hl0, hz]
  refine LIv_of ?_ hx ?_
  · exact W
  · exact P
theorem p_09 (hin : ∀ j : Nat, j < 7 → vp_in (Int32.ofNat (7 * i) + Int32.ofNat j) Ls) (h : LIv X v1 v2 v3 v4 g) : w_law_9 X xs Ls b (LIv X v1 v2 v3 v4) v1 v2 v3 v4 (Int32.ofNat (7 * i)) g := by
  obtain ⟨A, σ, W, hx, P, rfl, rfl, rfl, rfl, rfl⟩ := h
  have Q := P.1
  have u1 : vp_in (Int32.ofNat (7 * i) + 1) Ls := hin 1 (by decide)
  have hL := P.2.2.2.2.2.2.2.2.2.1
  have h21 : gV σ 8 21 0 = nI (gL σ 1) := P.2.1.1.2.1
  have h10 : gL σ 1 ≤ 10 := P.2.1.2.2.2.2.2.2.2.2.1
  unfold w_law_9
  generalize xs (Int32.ofNat (7 * i) + 1).toNatClampNeg = v
  rcases q_ix v (show gL σ 1 ≤ 40 by omega) with hc | ⟨j, hj, rfl⟩
  · simp (config := { decide := true, maxSteps := 1000000 }) only [w_law_9, w_L_law_b891, w_L_stateOf, w_X7_stateOf, w_X8_stateOf_b19, w_X8_stateOf, w_X8_thrown, w_X8_noBuild_b29, w_X8_noBuild_b14, w_X8_noBuild, w_X8_isBuild, u1, q_kb, q_in, if_pos hc, true_and, and_true, if_true, if_false, reduceIte, and_self, false_and, and_false, or_false, false_or, true_or, or_true, not_true_eq_false, not_false_eq_true, ne_eq, e_Is, e_GetI, e_GetF, e_PutI, e_PutF, e_PutR, e_Ald, e_Ast, e_Aldq, e_AldJ, e_AstJ, e_AldD, e_AstD, gL_sV, gV_sV, gR_sV, gN_sV, gJ_sV, gD_sV, gL_sR, gV_sR, gR_sR, gN_sR, gJ_sR, gD_sR, gL_sJ, gV_sJ, gR_sJ, gN_sJ, gJ_sJ, gL_sD, gV_sD, gR_sD, gN_sD, gD_sD, hr_0, hr_s, WF_sV, WF_sJ, WF_sD, gL_sF, gV_sF, gR_sF, gN_sF, gL_sG, gV_sG, gR_sG, gN_sG, WF_sF, eR_1_2, eR_1_5, eR_1_6, eR_2_3, eR_3_2, eR_4_1, eR_6_0, eR_9_0, eR_20_0, eR_22_0, sL_7, sL_8, sL_60, sL_61, sN_60, sN_61, s7_0, s7_1, s7_2, s7_3, s7_4, s7_5, s7_6, sL_100, s8_0, sN_100, sL_101, s8_1, sN_101, sL_102, s8_2, sN_102, sL_103, s8_3, sN_103, sL_104, s8_4, sN_104, sL_105, s8_5, sN_105, sL_107, s8_7, sN_107, sL_108, s8_8, sN_108, sL_109, s8_9, sN_109, sL_110, s8_10, sN_110, sL_111, s8_11, sN_111, sL_112, s8_12, sN_112, sL_113, s8_13, sN_113, sL_114, s8_14, sN_114, sL_115, s8_15, sN_115, sL_116, s8_16, sN_116, sL_117, s8_17, sN_117, sL_118, s8_18, sN_118, sL_119, s8_19, sN_119, sL_120, s8_20, sN_120, sL_127, s8_27, sN_127, sL_128, s8_28, sN_128, sL_129, s8_29, sN_129, sL_130, s8_30, sN_130, sL_132, s8_32, sN_132, P0_sV, P0_sJ, P0_sD, W, Q, cmpS, hL, h21, h10, nb0, nb1, nc_32]
    refine LIv_of ?_ hx ?_
    · exact W
    · exact P
  · have hc := q_nb hj (show gL σ 1 ≤ 40 by omega)
    have hcl : (nI j).toNatClampNeg = j := nI_clamp (by omega)
    have hv : vp_in (nI j) 10 := vp_in_nI (by omega) (by omega)
    obtain ⟨hst, hok, -⟩ := P.2.2.2.1.2.2.1 j hj
    have hn := nc_st hok
    simp (config := { decide := true, maxSteps := 1000000 }) only [w_law_9, w_L_law_b891, w_L_stateOf, w_X7_stateOf, w_X8_stateOf_b19, w_X8_stateOf, w_X8_thrown, w_X8_noBuild_b29, w_X8_noBuild_b14, w_X8_noBuild, w_X8_isBuild, u1, q_kb, q_in, if_neg hc, true_and, and_true, if_true, if_false, reduceIte, and_self, false_and, and_false, or_false, false_or, true_or, or_true, not_true_eq_false, not_false_eq_true, ne_eq, e_Is, e_GetI, e_GetF, e_PutI, e_PutF, e_PutR, e_Ald, e_Ast, e_Aldq, e_AldJ, e_AstJ, e_AldD, e_AstD, gL_sV, gV_sV, gR_sV, gN_sV, gJ_sV, gD_sV, gL_sR, gV_sR, gR_sR, gN_sR, gJ_sR, gD_sR, gL_sJ, gV_sJ, gR_sJ, gN_sJ, gJ_sJ, gL_sD, gV_sD, gR_sD, gN_sD, gD_sD, hr_0, hr_s, WF_sV, WF_sJ, WF_sD, gL_sF, gV_sF, gR_sF, gN_sF, gL_sG, gV_sG, gR_sG, gN_sG, WF_sF, eR_1_2, eR_1_5, eR_1_6, eR_2_3, eR_3_2, eR_4_1, eR_6_0, eR_9_0, eR_20_0, eR_22_0, sL_7, sL_8, sL_60, sL_61, sN_60, sN_61, s7_0, s7_1, s7_2, s7_3, s7_4, s7_5, s7_6, sL_100, s8_0, sN_100, sL_101, s8_1, sN_101, sL_102, s8_2, sN_102, sL_103, s8_3, sN_103, sL_104, s8_4, sN_104, sL_105, s8_5, sN_105, sL_107, s8_7, sN_107, sL_108, s8_8, sN_108, sL_109, s8_9, sN_109, sL_110, s8_10, sN_110, sL_111, s8_11, sN_111, sL_112, s8_12, sN_112, sL_113, s8_13, sN_113, sL_114, s8_14, sN_114, sL_115, s8_15, sN_115, sL_116, s8_16, sN_116, sL_117, s8_17, sN_117, sL_118, s8_18, sN_118, sL_119, s8_19, sN_119, sL_120, s8_20, sN_120, sL_127, s8_27, sN_127, sL_128, s8_28, sN_128, sL_129, s8_29, sN_129, sL_130, s8_30, sN_130, sL_132, s8_32, sN_132, P0_sV, P0_sJ, P0_sD, W, Q, cmpS, hL, h21, h10, nb0, nb1, hcl, hv, hst, hn, hj]
    refine LIv_of ?_ hx ?_
    · exact W
    · exact P
theorem p_11 (hin : ∀ j : Nat, j < 7 → vp_in (Int32.ofNat (7 * i) + Int32.ofNat j) Ls) (h : LIv X v1 v2 v3 v4 g) : w_law_11 X xs Ls b (LIv X v1 v2 v3 v4) v1 v2 v3 v4 (Int32.ofNat (7 * i)) g := by
  obtain ⟨A, σ, W, hx, P, rfl, rfl, rfl, rfl, rfl⟩ := h
  have Q := P.1
  have u1 : vp_in (Int32.ofNat (7 * i) + 1) Ls := hin 1 (by decide)
  have hL := P.2.2.2.2.2.2.2.2.2.1
  have h21 : gV σ 8 21 0 = nI (gL σ 1) := P.2.1.1.2.1
  have h10 : gL σ 1 ≤ 10 := P.2.1.2.2.2.2.2.2.2.2.1
  unfold w_law_11
  generalize xs (Int32.ofNat (7 * i) + 1).toNatClampNeg = v
  rcases q_ix v (show gL σ 1 ≤ 40 by omega) with hc | ⟨j, hj, rfl⟩
  · simp (config := { decide := true, maxSteps := 1000000 }) only [w_law_11, w_L_law_b1027, w_L_percentageOf, w_X7_percentageOf, w_X8_percentageOf_b18, w_X8_percentageOf, w_X8_thrown, w_X8_noBuild_b29, w_X8_noBuild_b14, w_X8_noBuild, w_X8_isBuild, u1, q_kb, q_in, if_pos hc, true_and, and_true, if_true, if_false, reduceIte, and_self, false_and, and_false, or_false, false_or, true_or, or_true, not_true_eq_false, not_false_eq_true, ne_eq, e_Is, e_GetI, e_GetF, e_PutI, e_PutF, e_PutR, e_Ald, e_Ast, e_Aldq, e_AldJ, e_AstJ, e_AldD, e_AstD, gL_sV, gV_sV, gR_sV, gN_sV, gJ_sV, gD_sV, gL_sR, gV_sR, gR_sR, gN_sR, gJ_sR, gD_sR, gL_sJ, gV_sJ, gR_sJ, gN_sJ, gJ_sJ, gL_sD, gV_sD, gR_sD, gN_sD, gD_sD, hr_0, hr_s, WF_sV, WF_sJ, WF_sD, gL_sF, gV_sF, gR_sF, gN_sF, gL_sG, gV_sG, gR_sG, gN_sG, WF_sF, eR_1_2, eR_1_5, eR_1_6, eR_2_3, eR_3_2, eR_4_1, eR_6_0, eR_9_0, eR_20_0, eR_22_0, sL_7, sL_8, sL_60, sL_61, sN_60, sN_61, s7_0, s7_1, s7_2, s7_3, s7_4, s7_5, s7_6, sL_100, s8_0, sN_100, sL_101, s8_1, sN_101, sL_102, s8_2, sN_102, sL_103, s8_3, sN_103, sL_104, s8_4, sN_104, sL_105, s8_5, sN_105, sL_107, s8_7, sN_107, sL_108, s8_8, sN_108, sL_109, s8_9, sN_109, sL_110, s8_10, sN_110, sL_111, s8_11, sN_111, sL_112, s8_12, sN_112, sL_113, s8_13, sN_113, sL_114, s8_14, sN_114, sL_115, s8_15, sN_115, sL_116, s8_16, sN_116, sL_117, s8_17, sN_117, sL_118, s8_18, sN_118, sL_119, s8_19, sN_119, sL_120, s8_20, sN_120, sL_127, s8_27, sN_127, sL_128, s8_28, sN_128, sL_129, s8_29, sN_129, sL_130, s8_30, sN_130, sL_132, s8_32, sN_132, P0_sV, P0_sJ, P0_sD, W, Q, cmpS, hL, h21, h10, nb0, nb1, nc_32]
    refine LIv_of ?_ hx ?_
    · exact W
    · exact P
  · have hc := q_nb hj (show gL σ 1 ≤ 40 by omega)
    have hcl : (nI j).toNatClampNeg = j := nI_clamp (by omega)
    have hv : vp_in (nI j) 10 := vp_in_nI (by omega) (by omega)
    have hf := (P.2.2.2.1.2.2.1 j hj).2.2.2.2.1
    simp (config := { decide := true, maxSteps := 1000000 }) only [w_law_11, w_L_law_b1027, w_L_percentageOf, w_X7_percentageOf, w_X8_percentageOf_b18, w_X8_percentageOf, w_X8_thrown, w_X8_noBuild_b29, w_X8_noBuild_b14, w_X8_noBuild, w_X8_isBuild, u1, q_kb, q_in, if_neg hc, true_and, and_true, if_true, if_false, reduceIte, and_self, false_and, and_false, or_false, false_or, true_or, or_true, not_true_eq_false, not_false_eq_true, ne_eq, e_Is, e_GetI, e_GetF, e_PutI, e_PutF, e_PutR, e_Ald, e_Ast, e_Aldq, e_AldJ, e_AstJ, e_AldD, e_AstD, gL_sV, gV_sV, gR_sV, gN_sV, gJ_sV, gD_sV, gL_sR, gV_sR, gR_sR, gN_sR, gJ_sR, gD_sR, gL_sJ, gV_sJ, gR_sJ, gN_sJ, gJ_sJ, gL_sD, gV_sD, gR_sD, gN_sD, gD_sD, hr_0, hr_s, WF_sV, WF_sJ, WF_sD, gL_sF, gV_sF, gR_sF, gN_sF, gL_sG, gV_sG, gR_sG, gN_sG, WF_sF, eR_1_2, eR_1_5, eR_1_6, eR_2_3, eR_3_2, eR_4_1, eR_6_0, eR_9_0, eR_20_0, eR_22_0, sL_7, sL_8, sL_60, sL_61, sN_60, sN_61, s7_0, s7_1, s7_2, s7_3, s7_4, s7_5, s7_6, sL_100, s8_0, sN_100, sL_101, s8_1, sN_101, sL_102, s8_2, sN_102, sL_103, s8_3, sN_103, sL_104, s8_4, sN_104, sL_105, s8_5, sN_105, sL_107, s8_7, sN_107, sL_108, s8_8, sN_108, sL_109, s8_9, sN_109, sL_110, s8_10, sN_110, sL_111, s8_11, sN_111, sL_112, s8_12, sN_112, sL_113, s8_13, sN_113, sL_114, s8_14, sN_114, sL_115, s8_15, sN_115, sL_116, s8_16, sN_116, sL_117, s8_17, sN_117, sL_118, s8_18, sN_118, sL_119, s8_19, sN_119, sL_120, s8_20, sN_120, sL_127, s8_27, sN_127, sL_128, s8_28, sN_128, sL_129, s8_29, sN_129, sL_130, s8_30, sN_130, sL_132, s8_32, sN_132, P0_sV, P0_sJ, P0_sD, W, Q, cmpS, hL, h21, h10, nb0, nb1, hcl, hv, hj, hf]
    refine LIv_of ?_ hx ?_
    · exact W
    · exact P
theorem p_22 (hin : ∀ j : Nat, j < 7 → vp_in (Int32.ofNat (7 * i) + Int32.ofNat j) Ls) (h : LIv X v1 v2 v3 v4 g) : w_law_22 X xs Ls b (LIv X v1 v2 v3 v4) v1 v2 v3 v4 (Int32.ofNat (7 * i)) g := by
  obtain ⟨A, σ, W, hx, P, rfl, rfl, rfl, rfl, rfl⟩ := h
  have Q := P.1
  have u1 : vp_in (Int32.ofNat (7 * i) + 1) Ls := hin 1 (by decide)
  have hL := P.2.2.2.2.2.2.2.2.2.1
  have h21 : gV σ 8 21 0 = nI (gL σ 1) := P.2.1.1.2.1
  have h10 : gL σ 1 ≤ 10 := P.2.1.2.2.2.2.2.2.2.2.1
  unfold w_law_22
  generalize xs (Int32.ofNat (7 * i) + 1).toNatClampNeg = v
  rcases q_ix v (show gL σ 1 ≤ 40 by omega) with hc | ⟨j, hj, rfl⟩
  · simp (config := { decide := true, maxSteps := 1000000 }) only [w_law_22, w_L_law_b1674, w_L_installs, w_X7_installs, w_X8_installs_b18, w_X8_installs, w_X8_thrown, w_X8_noBuild_b29, w_X8_noBuild_b14, w_X8_noBuild, w_X8_isBuild, u1, q_kb, q_in, if_pos hc, true_and, and_true, if_true, if_false, reduceIte, and_self, false_and, and_false, or_false, false_or, true_or, or_true, not_true_eq_false, not_false_eq_true, ne_eq, e_Is, e_GetI, e_GetF, e_PutI, e_PutF, e_PutR, e_Ald, e_Ast, e_Aldq, e_AldJ, e_AstJ, e_AldD, e_AstD, gL_sV, gV_sV, gR_sV, gN_sV, gJ_sV, gD_sV, gL_sR, gV_sR, gR_sR, gN_sR, gJ_sR, gD_sR, gL_sJ, gV_sJ, gR_sJ, gN_sJ, gJ_sJ, gL_sD, gV_sD, gR_sD, gN_sD, gD_sD, hr_0, hr_s, WF_sV, WF_sJ, WF_sD, gL_sF, gV_sF, gR_sF, gN_sF, gL_sG, gV_sG, gR_sG, gN_sG, WF_sF, eR_1_2, eR_1_5, eR_1_6, eR_2_3, eR_3_2, eR_4_1, eR_6_0, eR_9_0, eR_20_0, eR_22_0, sL_7, sL_8, sL_60, sL_61, sN_60, sN_61, s7_0, s7_1, s7_2, s7_3, s7_4, s7_5, s7_6, sL_100, s8_0, sN_100, sL_101, s8_1, sN_101, sL_102, s8_2, sN_102, sL_103, s8_3, sN_103, sL_104, s8_4, sN_104, sL_105, s8_5, sN_105, sL_107, s8_7, sN_107, sL_108, s8_8, sN_108, sL_109, s8_9, sN_109, sL_110, s8_10, sN_110, sL_111, s8_11, sN_111, sL_112, s8_12, sN_112, sL_113, s8_13, sN_113, sL_114, s8_14, sN_114, sL_115, s8_15, sN_115, sL_116, s8_16, sN_116, sL_117, s8_17, sN_117, sL_118, s8_18, sN_118, sL_119, s8_19, sN_119, sL_120, s8_20, sN_120, sL_127, s8_27, sN_127, sL_128, s8_28, sN_128, sL_129, s8_29, sN_129, sL_130, s8_30, sN_130, sL_132, s8_32, sN_132, P0_sV, P0_sJ, P0_sD, W, Q, cmpS, hL, h21, h10, nb0, nb1, nc_32]
    refine LIv_of ?_ hx ?_
    · exact W
    · exact P
  · have hc := q_nb hj (show gL σ 1 ≤ 40 by omega)
    have hcl : (nI j).toNatClampNeg = j := nI_clamp (by omega)
    have hv : vp_in (nI j) 10 := vp_in_nI (by omega) (by omega)
    have hf := (P.2.2.2.1.2.2.1 j hj).2.2.2.2.2.2.1
    simp (config := { decide := true, maxSteps := 1000000 }) only [w_law_22, w_L_law_b1674, w_L_installs, w_X7_installs, w_X8_installs_b18, w_X8_installs, w_X8_thrown, w_X8_noBuild_b29, w_X8_noBuild_b14, w_X8_noBuild, w_X8_isBuild, u1, q_kb, q_in, if_neg hc, true_and, and_true, if_true, if_false, reduceIte, and_self, false_and, and_false, or_false, false_or, true_or, or_true, not_true_eq_false, not_false_eq_true, ne_eq, e_Is, e_GetI, e_GetF, e_PutI, e_PutF, e_PutR, e_Ald, e_Ast, e_Aldq, e_AldJ, e_AstJ, e_AldD, e_AstD, gL_sV, gV_sV, gR_sV, gN_sV, gJ_sV, gD_sV, gL_sR, gV_sR, gR_sR, gN_sR, gJ_sR, gD_sR, gL_sJ, gV_sJ, gR_sJ, gN_sJ, gJ_sJ, gL_sD, gV_sD, gR_sD, gN_sD, gD_sD, hr_0, hr_s, WF_sV, WF_sJ, WF_sD, gL_sF, gV_sF, gR_sF, gN_sF, gL_sG, gV_sG, gR_sG, gN_sG, WF_sF, eR_1_2, eR_1_5, eR_1_6, eR_2_3, eR_3_2, eR_4_1, eR_6_0, eR_9_0, eR_20_0, eR_22_0, sL_7, sL_8, sL_60, sL_61, sN_60, sN_61, s7_0, s7_1, s7_2, s7_3, s7_4, s7_5, s7_6, sL_100, s8_0, sN_100, sL_101, s8_1, sN_101, sL_102, s8_2, sN_102, sL_103, s8_3, sN_103, sL_104, s8_4, sN_104, sL_105, s8_5, sN_105, sL_107, s8_7, sN_107, sL_108, s8_8, sN_108, sL_109, s8_9, sN_109, sL_110, s8_10, sN_110, sL_111, s8_11, sN_111, sL_112, s8_12, sN_112, sL_113, s8_13, sN_113, sL_114, s8_14, sN_114, sL_115, s8_15, sN_115, sL_116, s8_16, sN_116, sL_117, s8_17, sN_117, sL_118, s8_18, sN_118, sL_119, s8_19, sN_119, sL_120, s8_20, sN_120, sL_127, s8_27, sN_127, sL_128, s8_28, sN_128, sL_129, s8_29, sN_129, sL_130, s8_30, sN_130, sL_132, s8_32, sN_132, P0_sV, P0_sJ, P0_sD, W, Q, cmpS, hL, h21, h10, nb0, nb1, hcl, hv, hj, hf]
    refine LIv_of ?_ hx ?_
    · exact W
    · exact P
theorem p_26 (hin : ∀ j : Nat, j < 7 → vp_in (Int32.ofNat (7 * i) + Int32.ofNat j) Ls) (h : LIv X v1 v2 v3 v4 g) : w_law_26 X xs Ls b (LIv X v1 v2 v3 v4) v1 v2 v3 v4 (Int32.ofNat (7 * i)) g := by
  obtain ⟨A, σ, W, hx, P, rfl, rfl, rfl, rfl, rfl⟩ := h
  have Q := P.1
  have u1 : vp_in (Int32.ofNat (7 * i) + 1) Ls := hin 1 (by decide)
  have hL := P.2.2.2.2.2.2.2.2.2.2
  have h21 : gV σ 8 31 0 = nI (gL σ 4) := P.2.1.1.2.2
  have h10 : gL σ 4 ≤ 30 := P.2.1.2.2.2.2.2.2.2.2.2
  unfold w_law_26
  generalize xs (Int32.ofNat (7 * i) + 1).toNatClampNeg = v
  rcases q_ix v (show gL σ 4 ≤ 40 by omega) with hc | ⟨j, hj, rfl⟩
  · simp (config := { decide := true, maxSteps := 1000000 }) only [w_law_26, w_L_law_b1857, w_L_crashesIn, w_X7_crashesIn, w_X8_crashesIn_b18, w_X8_crashesIn, w_X8_thrown, w_X8_noGroup_b35, w_X8_noGroup_b20, w_X8_noGroup, u1, q_kg, q_in, if_pos hc, true_and, and_true, if_true, if_false, reduceIte, and_self, false_and, and_false, or_false, false_or, true_or, or_true, not_true_eq_false, not_false_eq_true, ne_eq, e_Is, e_GetI, e_GetF, e_PutI, e_PutF, e_PutR, e_Ald, e_Ast, e_Aldq, e_AldJ, e_AstJ, e_AldD, e_AstD, gL_sV, gV_sV, gR_sV, gN_sV, gJ_sV, gD_sV, gL_sR, gV_sR, gR_sR, gN_sR, gJ_sR, gD_sR, gL_sJ, gV_sJ, gR_sJ, gN_sJ, gJ_sJ, gL_sD, gV_sD, gR_sD, gN_sD, gD_sD, hr_0, hr_s, WF_sV, WF_sJ, WF_sD, gL_sF, gV_sF, gR_sF, gN_sF, gL_sG, gV_sG, gR_sG, gN_sG, WF_sF, eR_1_2, eR_1_5, eR_1_6, eR_2_3, eR_3_2, eR_4_1, eR_6_0, eR_9_0, eR_20_0, eR_22_0, sL_7, sL_8, sL_60, sL_61, sN_60, sN_61, s7_0, s7_1, s7_2, s7_3, s7_4, s7_5, s7_6, sL_100, s8_0, sN_100, sL_101, s8_1, sN_101, sL_102, s8_2, sN_102, sL_103, s8_3, sN_103, sL_104, s8_4, sN_104, sL_105, s8_5, sN_105, sL_107, s8_7, sN_107, sL_108, s8_8, sN_108, sL_109, s8_9, sN_109, sL_110, s8_10, sN_110, sL_111, s8_11, sN_111, sL_112, s8_12, sN_112, sL_113, s8_13, sN_113, sL_114, s8_14, sN_114, sL_115, s8_15, sN_115, sL_116, s8_16, sN_116, sL_117, s8_17, sN_117, sL_118, s8_18, sN_118, sL_119, s8_19, sN_119, sL_120, s8_20, sN_120, sL_127, s8_27, sN_127, sL_128, s8_28, sN_128, sL_129, s8_29, sN_129, sL_130, s8_30, sN_130, sL_132, s8_32, sN_132, P0_sV, P0_sJ, P0_sD, W, Q, cmpS, hL, h21, h10, nb0, nb1, nc_32]
    refine LIv_of ?_ hx ?_
    · exact W
    · exact P
  · have hc := q_nb hj (show gL σ 4 ≤ 40 by omega)
    have hcl : (nI j).toNatClampNeg = j := nI_clamp (by omega)
    have hv : vp_in (nI j) 30 := vp_in_nI (by omega) (by omega)
    have hf := (P.2.2.2.2.1.2.1 j hj).2.2.1
    simp (config := { decide := true, maxSteps := 1000000 }) only [w_law_26, w_L_law_b1857, w_L_crashesIn, w_X7_crashesIn, w_X8_crashesIn_b18, w_X8_crashesIn, w_X8_thrown, w_X8_noGroup_b35, w_X8_noGroup_b20, w_X8_noGroup, u1, q_kg, q_in, if_neg hc, true_and, and_true, if_true, if_false, reduceIte, and_self, false_and, and_false, or_false, false_or, true_or, or_true, not_true_eq_false, not_false_eq_true, ne_eq, e_Is, e_GetI, e_GetF, e_PutI, e_PutF, e_PutR, e_Ald, e_Ast, e_Aldq, e_AldJ, e_AstJ, e_AldD, e_AstD, gL_sV, gV_sV, gR_sV, gN_sV, gJ_sV, gD_sV, gL_sR, gV_sR, gR_sR, gN_sR, gJ_sR, gD_sR, gL_sJ, gV_sJ, gR_sJ, gN_sJ, gJ_sJ, gL_sD, gV_sD, gR_sD, gN_sD, gD_sD, hr_0, hr_s, WF_sV, WF_sJ, WF_sD, gL_sF, gV_sF, gR_sF, gN_sF, gL_sG, gV_sG, gR_sG, gN_sG, WF_sF, eR_1_2, eR_1_5, eR_1_6, eR_2_3, eR_3_2, eR_4_1, eR_6_0, eR_9_0, eR_20_0, eR_22_0, sL_7, sL_8, sL_60, sL_61, sN_60, sN_61, s7_0, s7_1, s7_2, s7_3, s7_4, s7_5, s7_6, sL_100, s8_0, sN_100, sL_101, s8_1, sN_101, sL_102, s8_2, sN_102, sL_103, s8_3, sN_103, sL_104, s8_4, sN_104, sL_105, s8_5, sN_105, sL_107, s8_7, sN_107, sL_108, s8_8, sN_108, sL_109, s8_9, sN_109, sL_110, s8_10, sN_110, sL_111, s8_11, sN_111, sL_112, s8_12, sN_112, sL_113, s8_13, sN_113, sL_114, s8_14, sN_114, sL_115, s8_15, sN_115, sL_116, s8_16, sN_116, sL_117, s8_17, sN_117, sL_118, s8_18, sN_118, sL_119, s8_19, sN_119, sL_120, s8_20, sN_120, sL_127, s8_27, sN_127, sL_128, s8_28, sN_128, sL_129, s8_29, sN_129, sL_130, s8_30, sN_130, sL_132, s8_32, sN_132, P0_sV, P0_sJ, P0_sD, W, Q, cmpS, hL, h21, h10, nb0, nb1, hcl, hv, hj, hf]
    refine LIv_of ?_ hx ?_
    · exact W
    · exact P
theorem p_31 (hin : ∀ j : Nat, j < 7 → vp_in (Int32.ofNat (7 * i) + Int32.ofNat j) Ls) (h : LIv X v1 v2 v3 v4 g) : w_law_31 X xs Ls b (LIv X v1 v2 v3 v4) v1 v2 v3 v4 (Int32.ofNat (7 * i)) g := by
  obtain ⟨A, σ, W, hx, P, rfl, rfl, rfl, rfl, rfl⟩ := h
  have Q := P.1
  have u1 : vp_in (Int32.ofNat (7 * i) + 1) Ls := hin 1 (by decide)
  have hL := P.2.2.2.2.2.2.2.2.2.2
  have h21 : gV σ 8 31 0 = nI (gL σ 4) := P.2.1.1.2.2
  have h10 : gL σ 4 ≤ 30 := P.2.1.2.2.2.2.2.2.2.2.2
  unfold w_law_31
  generalize xs (Int32.ofNat (7 * i) + 1).toNatClampNeg = v
  rcases q_ix v (show gL σ 4 ≤ 40 by omega) with hc | ⟨j, hj, rfl⟩
  · simp (config := { decide := true, maxSteps := 1000000 }) only [w_law_31, w_L_law_b2171, w_L_buildsIn, w_X7_buildsIn, w_X8_buildsIn_b18, w_X8_buildsIn, w_X8_thrown, w_X8_noGroup_b35, w_X8_noGroup_b20, w_X8_noGroup, u1, q_kg, q_in, if_pos hc, true_and, and_true, if_true, if_false, reduceIte, and_self, false_and, and_false, or_false, false_or, true_or, or_true, not_true_eq_false, not_false_eq_true, ne_eq, e_Is, e_GetI, e_GetF, e_PutI, e_PutF, e_PutR, e_Ald, e_Ast, e_Aldq, e_AldJ, e_AstJ, e_AldD, e_AstD, gL_sV, gV_sV, gR_sV, gN_sV, gJ_sV, gD_sV, gL_sR, gV_sR, gR_sR, gN_sR, gJ_sR, gD_sR, gL_sJ, gV_sJ, gR_sJ, gN_sJ, gJ_sJ, gL_sD, gV_sD, gR_sD, gN_sD, gD_sD, hr_0, hr_s, WF_sV, WF_sJ, WF_sD, gL_sF, gV_sF, gR_sF, gN_sF, gL_sG, gV_sG, gR_sG, gN_sG, WF_sF, eR_1_2, eR_1_5, eR_1_6, eR_2_3, eR_3_2, eR_4_1, eR_6_0, eR_9_0, eR_20_0, eR_22_0, sL_7, sL_8, sL_60, sL_61, sN_60, sN_61, s7_0, s7_1, s7_2, s7_3, s7_4, s7_5, s7_6, sL_100, s8_0, sN_100, sL_101, s8_1, sN_101, sL_102, s8_2, sN_102, sL_103, s8_3, sN_103, sL_104, s8_4, sN_104, sL_105, s8_5, sN_105, sL_107, s8_7, sN_107, sL_108, s8_8, sN_108, sL_109, s8_9, sN_109, sL_110, s8_10, sN_110, sL_111, s8_11, sN_111, sL_112, s8_12, sN_112, sL_113, s8_13, sN_113, sL_114, s8_14, sN_114, sL_115, s8_15, sN_115, sL_116, s8_16, sN_116, sL_117, s8_17, sN_117, sL_118, s8_18, sN_118, sL_119, s8_19, sN_119, sL_120, s8_20, sN_120, sL_127, s8_27, sN_127, sL_128, s8_28, sN_128, sL_129, s8_29, sN_129, sL_130, s8_30, sN_130, sL_132, s8_32, sN_132, P0_sV, P0_sJ, P0_sD, W, Q, cmpS, hL, h21, h10, nb0, nb1, nc_32]
    refine LIv_of ?_ hx ?_
    · exact W
    · exact P
  · have hc := q_nb hj (show gL σ 4 ≤ 40 by omega)
    have hcl : (nI j).toNatClampNeg = j := nI_clamp (by omega)
    have hv : vp_in (nI j) 30 := vp_in_nI (by omega) (by omega)
    have hf := (P.2.2.2.2.1.2.1 j hj).2.2.2
    simp (config := { decide := true, maxSteps := 1000000 }) only [w_law_31, w_L_law_b2171, w_L_buildsIn, w_X7_buildsIn, w_X8_buildsIn_b18, w_X8_buildsIn, w_X8_thrown, w_X8_noGroup_b35, w_X8_noGroup_b20, w_X8_noGroup, u1, q_kg, q_in, if_neg hc, true_and, and_true, if_true, if_false, reduceIte, and_self, false_and, and_false, or_false, false_or, true_or, or_true, not_true_eq_false, not_false_eq_true, ne_eq, e_Is, e_GetI, e_GetF, e_PutI, e_PutF, e_PutR, e_Ald, e_Ast, e_Aldq, e_AldJ, e_AstJ, e_AldD, e_AstD, gL_sV, gV_sV, gR_sV, gN_sV, gJ_sV, gD_sV, gL_sR, gV_sR, gR_sR, gN_sR, gJ_sR, gD_sR, gL_sJ, gV_sJ, gR_sJ, gN_sJ, gJ_sJ, gL_sD, gV_sD, gR_sD, gN_sD, gD_sD, hr_0, hr_s, WF_sV, WF_sJ, WF_sD, gL_sF, gV_sF, gR_sF, gN_sF, gL_sG, gV_sG, gR_sG, gN_sG, WF_sF, eR_1_2, eR_1_5, eR_1_6, eR_2_3, eR_3_2, eR_4_1, eR_6_0, eR_9_0, eR_20_0, eR_22_0, sL_7, sL_8, sL_60, sL_61, sN_60, sN_61, s7_0, s7_1, s7_2, s7_3, s7_4, s7_5, s7_6, sL_100, s8_0, sN_100, sL_101, s8_1, sN_101, sL_102, s8_2, sN_102, sL_103, s8_3, sN_103, sL_104, s8_4, sN_104, sL_105, s8_5, sN_105, sL_107, s8_7, sN_107, sL_108, s8_8, sN_108, sL_109, s8_9, sN_109, sL_110, s8_10, sN_110, sL_111, s8_11, sN_111, sL_112, s8_12, sN_112, sL_113, s8_13, sN_113, sL_114, s8_14, sN_114, sL_115, s8_15, sN_115, sL_116, s8_16, sN_116, sL_117, s8_17, sN_117, sL_118, s8_18, sN_118, sL_119, s8_19, sN_119, sL_120, s8_20, sN_120, sL_127, s8_27, sN_127, sL_128, s8_28, sN_128, sL_129, s8_29, sN_129, sL_130, s8_30, sN_130, sL_132, s8_32, sN_132, P0_sV, P0_sJ, P0_sD, W, Q, cmpS, hL, h21, h10, nb0, nb1, hcl, hv, hj, hf]
    refine LIv_of ?_ hx ?_
    · exact W
    · exact P
end CA
